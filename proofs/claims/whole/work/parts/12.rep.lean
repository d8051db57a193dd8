/-! the picture of the heap: cells by their numbers; cell k's parts; the pad is formula 12 -/
abbrev nMem : Type := (Nat → Nat → Int32) × (Nat → Nat → Int64)
def ms (μ : nMem) (a k : Nat) (x : Int32) : nMem := (fun b => if b = a then upd (μ.1 a) k x else μ.1 b, μ.2)
def ml (μ : nMem) (a k : Nat) (x : Int64) : nMem := (μ.1, fun b => if b = a then vp_updL (μ.2 a) k x else μ.2 b)
def nC (k : Nat) : Nat := 2 + 8 * k
def nF (k : Nat) : Nat := if k = 12 then 100 else 3 + 8 * k
def nT (k : Nat) : Nat := if k = 12 then 101 else 4 + 8 * k
def nS (k : Nat) : Nat := if k = 12 then 102 else 5 + 8 * k
def nN (k : Nat) : Nat := 6 + 8 * k
def nR (k : Nat) : Nat := 7 + 8 * k
def nY (k : Nat) : Nat := 8 + 8 * k
def nK (k : Nat) : Nat := 9 + 8 * k
def ns_fC (k : Nat) (f : Nat → Int32) : List Value := [.ref (nF k), .ref (nN k), .ref (nY k), .ref (nK k), .int (f 4), .int (f 5), .int (f 6), .int (f 7), .int (f 8), .int (f 9), .int (f 10)]
def ns_fF (k : Nat) (f : Nat → Int32) : List Value := [.ref (nT k), .ref (nS k), .int (f 2), .int (f 3)]
def ns_fO (k : Nat) (f : Nat → Int32) (g : Nat → Int64) : List Value := [.ref (nR k), .int (f 1), .int (f 2), .int (f 3), .long (g 4), .int (f 5), .int (f 6), .int (f 7)]
def ns_fP (f : Nat → Int32) : List Value := [.ref 100, .int (f 1)]
def ns_fN (f : Nat → Int32) : List Value := [.ref 1, .ref 98, .ref 99, .ref 100, .ref 103, .int (f 5), .int (f 6), .int (f 7)]
def ns_fM (f : Nat → Int32) : List Value := [.int (f 0), .ref 105, .int (f 2), .int (f 3), .ref 106, .ref 107, .ref 108, .ref 109, .ref 110, .ref 111, .ref 112, .ref 113, .ref 114, .ref 115, .ref 116, .ref 117, .ref 118, .ref 119, .ref 120, .ref 121, .ref 122, .ref 123, .ref 124, .ref 125, .int (f 24), .ref 126, .ref 127, .int (f 27), .ref 128, .ref 129, .ref 130, .ref 131, .ref 132, .ref 133, .ref 134, .ref 135, .ref 136, .int (f 37), .ref 137, .ref 138, .int (f 40), .ref 139, .ref 140]
def ns_en (id : Nat) (f : Nat → Int32) (g : Nat → Int64) : Option ax_E :=
  if id = 0 then some (.inr (0, ns_fN f))
  else if id = 1 then some (.inl (.object "NoteSheet$Cell", 12, .inr (.inr (.inr (.inr (fun j => if j < 12 then some (nC j) else none))))))
  else if id < 98 then match (id - 2) % 8 with
    | 0 => some (.inr (1, ns_fC ((id - 2) / 8) f))
    | 1 => some (.inr (2, ns_fF ((id - 2) / 8) f))
    | 2 => some (.inl (.char, 30, .inl f))
    | 3 => some (.inl (.int, 30, .inl f))
    | 4 => some (.inr (3, ns_fO ((id - 2) / 8) f g))
    | 5 => some (.inl (.int, 12, .inl f))
    | 6 => some (.inl (.int, 3, .inl f))
    | _ => some (.inl (.int, 30, .inl f))
  else match id with
    | 98 => some (.inl (.int, 3, .inl f))
    | 99 => some (.inl (.int, 3, .inl f))
    | 100 => some (.inr (2, ns_fF 12 f))
    | 101 => some (.inl (.char, 30, .inl f))
    | 102 => some (.inl (.int, 30, .inl f))
    | 103 => some (.inr (4, ns_fP f))
    | 104 => some (.inr (5, ns_fM f))
    | 105 => some (.inl (.int, 30, .inl f))
    | 106 => some (.inl (.int, 3, .inl f))
    | 107 => some (.inl (.boolean, 12, .inl f))
    | 108 => some (.inl (.int, 360, .inl f))
    | 109 => some (.inl (.int, 12, .inl f))
    | 110 => some (.inl (.int, 12, .inl f))
    | 111 => some (.inl (.int, 480, .inl f))
    | 112 => some (.inl (.int, 480, .inl f))
    | 113 => some (.inl (.int, 12, .inl f))
    | 114 => some (.inl (.int, 12, .inl f))
    | 115 => some (.inl (.int, 12, .inl f))
    | 116 => some (.inl (.int, 12, .inl f))
    | 117 => some (.inl (.boolean, 12, .inl f))
    | 118 => some (.inl (.boolean, 12, .inl f))
    | 119 => some (.inl (.long, 12, .inr (.inl g)))
    | 120 => some (.inl (.int, 12, .inl f))
    | 121 => some (.inl (.int, 12, .inl f))
    | 122 => some (.inl (.int, 12, .inl f))
    | 123 => some (.inl (.int, 12, .inl f))
    | 124 => some (.inl (.int, 144, .inl f))
    | 125 => some (.inl (.int, 12, .inl f))
    | 126 => some (.inl (.int, 36, .inl f))
    | 127 => some (.inl (.int, 3, .inl f))
    | 128 => some (.inl (.int, 12, .inl f))
    | 129 => some (.inl (.int, 12, .inl f))
    | 130 => some (.inl (.int, 12, .inl f))
    | 131 => some (.inl (.int, 12, .inl f))
    | 132 => some (.inl (.long, 192, .inr (.inl g)))
    | 133 => some (.inl (.int, 12, .inl f))
    | 134 => some (.inl (.int, 144, .inl f))
    | 135 => some (.inl (.boolean, 12, .inl f))
    | 136 => some (.inl (.boolean, 12, .inl f))
    | 137 => some (.inl (.int, 64, .inl f))
    | 138 => some (.inl (.int, 64, .inl f))
    | 139 => some (.inl (.int, 40, .inl f))
    | 140 => some (.inl (.int, 40, .inl f))
    | _ => none
def ns_rp (N : Nat) (μ : nMem) : ax_H := (N, fun id => if id < N then ns_en id (μ.1 id) (μ.2 id) else none)
abbrev ns_rep (μ : nMem) : ax_H := ns_rp 141 μ
theorem ns_rp_at {N : Nat} {μ : nMem} {a : Nat} {e : ax_E} (h : a < N) (he : ns_en a (μ.1 a) (μ.2 a) = some e) : (ns_rp N μ).2 a = some e := by
  show (if a < N then _ else none) = _
  rw [if_pos h, he]
theorem ns_rp_up {N : Nat} {μ : nMem} {a k : Nat} {x : Int32} {e : ax_E} (h : a < N) (he : ns_en a (upd (μ.1 a) k x) (μ.2 a) = some e) : ns_rp N (ms μ a k x) = ax_up (ns_rp N μ) a e := by
  refine Prod.ext rfl (funext fun id => ?_)
  by_cases hid : id = a
  · subst hid
    show (if id < N then ns_en id ((ms μ id k x).1 id) (μ.2 id) else none) = if id = id then some e else _
    have e1 : (ms μ id k x).1 id = upd (μ.1 id) k x := if_pos rfl
    rw [if_pos h, if_pos rfl, e1, he]
  · show (if id < N then ns_en id ((ms μ a k x).1 id) (μ.2 id) else none) = if id = a then some e else (if id < N then ns_en id (μ.1 id) (μ.2 id) else none)
    have e1 : (ms μ a k x).1 id = μ.1 id := if_neg hid
    rw [if_neg hid, e1]
theorem ns_rp_ul {N : Nat} {μ : nMem} {a k : Nat} {x : Int64} {e : ax_E} (h : a < N) (he : ns_en a (μ.1 a) (vp_updL (μ.2 a) k x) = some e) : ns_rp N (ml μ a k x) = ax_up (ns_rp N μ) a e := by
  refine Prod.ext rfl (funext fun id => ?_)
  by_cases hid : id = a
  · subst hid
    show (if id < N then ns_en id (μ.1 id) ((ml μ id k x).2 id) else none) = if id = id then some e else _
    have e1 : (ml μ id k x).2 id = vp_updL (μ.2 id) k x := if_pos rfl
    rw [if_pos h, if_pos rfl, e1, he]
  · show (if id < N then ns_en id (μ.1 id) ((ml μ a k x).2 id) else none) = if id = a then some e else (if id < N then ns_en id (μ.1 id) (μ.2 id) else none)
    have e1 : (ml μ a k x).2 id = μ.2 id := if_neg hid
    rw [if_neg hid, e1]
theorem ns_gfv {μ : nMem} {a ci kf : Nat} {fs : List Value} {v : Value} (h : a < 141) (he : ns_en a (μ.1 a) (μ.2 a) = some (.inr (ci, fs))) (hv : fs[kf]? = some v) : gfv (ns_rep μ) a ci kf v := ⟨fs, ns_rp_at h he, hv⟩
theorem ns_pfv {μ : nMem} {a ci kf : Nat} {fs : List Value} {x : Int32} (h : a < 141) (he : ns_en a (μ.1 a) (μ.2 a) = some (.inr (ci, fs))) (hl : kf < fs.length) (hu : ns_en a (upd (μ.1 a) kf x) (μ.2 a) = some (.inr (ci, fs.set kf (.int x)))) : pfv (ns_rep μ) a ci kf (.int x) (ns_rep (ms μ a kf x)) := ⟨fs, ns_rp_at h he, hl, ns_rp_up h hu⟩
theorem ns_pfl {μ : nMem} {a ci kf : Nat} {fs : List Value} {x : Int64} (h : a < 141) (he : ns_en a (μ.1 a) (μ.2 a) = some (.inr (ci, fs))) (hl : kf < fs.length) (hu : ns_en a (μ.1 a) (vp_updL (μ.2 a) kf x) = some (.inr (ci, fs.set kf (.long x)))) : pfv (ns_rep μ) a ci kf (.long x) (ns_rep (ml μ a kf x)) := ⟨fs, ns_rp_at h he, hl, ns_rp_ul h hu⟩
theorem ns_gav {μ : nMem} {a n : Nat} {ty : FieldType} (h : a < 141) (hn : n < 2 ^ 31) (he : ∀ f g, ns_en a f g = some (.inl (ty, n, .inl f))) : gav (ns_rep μ) a ty n (μ.1 a) := ⟨ns_rp_at h (he _ _), hn⟩
theorem ns_pav {μ : nMem} {a n j : Nat} {x : Int32} {ty : FieldType} (h : a < 141) (hn : n < 2 ^ 31) (he : ∀ f g, ns_en a f g = some (.inl (ty, n, .inl f))) : pav (ns_rep μ) a ty n j x (ns_rep (ms μ a j x)) := ⟨_, ns_rp_at h (he _ _), hn, ns_rp_up h (he _ _)⟩
theorem ns_glv {μ : nMem} {a n : Nat} (h : a < 141) (hn : n < 2 ^ 31) (he : ∀ f g, ns_en a f g = some (.inl (.long, n, .inr (.inl g)))) : glv (ns_rep μ) a n (μ.2 a) := ⟨ns_rp_at h (he _ _), hn⟩
theorem ns_plv {μ : nMem} {a n j : Nat} {x : Int64} (h : a < 141) (hn : n < 2 ^ 31) (he : ∀ f g, ns_en a f g = some (.inl (.long, n, .inr (.inl g)))) : plv (ns_rep μ) a n j x (ns_rep (ml μ a j x)) := ⟨_, ns_rp_at h (he _ _), hn, ns_rp_ul h (he _ _)⟩
theorem ns_eC : ∀ {k : Nat}, k < 12 → ∀ (f : Nat → Int32) (g : Nat → Int64), ns_en (nC k) f g = some (.inr (1, ns_fC k f))
  | 0, _ => fun _ _ => rfl
  | 1, _ => fun _ _ => rfl
  | 2, _ => fun _ _ => rfl
  | 3, _ => fun _ _ => rfl
  | 4, _ => fun _ _ => rfl
  | 5, _ => fun _ _ => rfl
  | 6, _ => fun _ _ => rfl
  | 7, _ => fun _ _ => rfl
  | 8, _ => fun _ _ => rfl
  | 9, _ => fun _ _ => rfl
  | 10, _ => fun _ _ => rfl
  | 11, _ => fun _ _ => rfl
  | k + 12, h => absurd h (by omega)
theorem ns_eF : ∀ {k : Nat}, k < 13 → ∀ (f : Nat → Int32) (g : Nat → Int64), ns_en (nF k) f g = some (.inr (2, ns_fF k f))
  | 0, _ => fun _ _ => rfl
  | 1, _ => fun _ _ => rfl
  | 2, _ => fun _ _ => rfl
  | 3, _ => fun _ _ => rfl
  | 4, _ => fun _ _ => rfl
  | 5, _ => fun _ _ => rfl
  | 6, _ => fun _ _ => rfl
  | 7, _ => fun _ _ => rfl
  | 8, _ => fun _ _ => rfl
  | 9, _ => fun _ _ => rfl
  | 10, _ => fun _ _ => rfl
  | 11, _ => fun _ _ => rfl
  | 12, _ => fun _ _ => rfl
  | k + 13, h => absurd h (by omega)
theorem ns_eT : ∀ {k : Nat}, k < 13 → ∀ (f : Nat → Int32) (g : Nat → Int64), ns_en (nT k) f g = some (.inl (.char, 30, .inl f))
  | 0, _ => fun _ _ => rfl
  | 1, _ => fun _ _ => rfl
  | 2, _ => fun _ _ => rfl
  | 3, _ => fun _ _ => rfl
  | 4, _ => fun _ _ => rfl
  | 5, _ => fun _ _ => rfl
  | 6, _ => fun _ _ => rfl
  | 7, _ => fun _ _ => rfl
  | 8, _ => fun _ _ => rfl
  | 9, _ => fun _ _ => rfl
  | 10, _ => fun _ _ => rfl
  | 11, _ => fun _ _ => rfl
  | 12, _ => fun _ _ => rfl
  | k + 13, h => absurd h (by omega)
theorem ns_eS : ∀ {k : Nat}, k < 13 → ∀ (f : Nat → Int32) (g : Nat → Int64), ns_en (nS k) f g = some (.inl (.int, 30, .inl f))
  | 0, _ => fun _ _ => rfl
  | 1, _ => fun _ _ => rfl
  | 2, _ => fun _ _ => rfl
  | 3, _ => fun _ _ => rfl
  | 4, _ => fun _ _ => rfl
  | 5, _ => fun _ _ => rfl
  | 6, _ => fun _ _ => rfl
  | 7, _ => fun _ _ => rfl
  | 8, _ => fun _ _ => rfl
  | 9, _ => fun _ _ => rfl
  | 10, _ => fun _ _ => rfl
  | 11, _ => fun _ _ => rfl
  | 12, _ => fun _ _ => rfl
  | k + 13, h => absurd h (by omega)
theorem ns_eO : ∀ {k : Nat}, k < 12 → ∀ (f : Nat → Int32) (g : Nat → Int64), ns_en (nN k) f g = some (.inr (3, ns_fO k f g))
  | 0, _ => fun _ _ => rfl
  | 1, _ => fun _ _ => rfl
  | 2, _ => fun _ _ => rfl
  | 3, _ => fun _ _ => rfl
  | 4, _ => fun _ _ => rfl
  | 5, _ => fun _ _ => rfl
  | 6, _ => fun _ _ => rfl
  | 7, _ => fun _ _ => rfl
  | 8, _ => fun _ _ => rfl
  | 9, _ => fun _ _ => rfl
  | 10, _ => fun _ _ => rfl
  | 11, _ => fun _ _ => rfl
  | k + 12, h => absurd h (by omega)
theorem ns_eR : ∀ {k : Nat}, k < 12 → ∀ (f : Nat → Int32) (g : Nat → Int64), ns_en (nR k) f g = some (.inl (.int, 12, .inl f))
  | 0, _ => fun _ _ => rfl
  | 1, _ => fun _ _ => rfl
  | 2, _ => fun _ _ => rfl
  | 3, _ => fun _ _ => rfl
  | 4, _ => fun _ _ => rfl
  | 5, _ => fun _ _ => rfl
  | 6, _ => fun _ _ => rfl
  | 7, _ => fun _ _ => rfl
  | 8, _ => fun _ _ => rfl
  | 9, _ => fun _ _ => rfl
  | 10, _ => fun _ _ => rfl
  | 11, _ => fun _ _ => rfl
  | k + 12, h => absurd h (by omega)
theorem ns_eY : ∀ {k : Nat}, k < 12 → ∀ (f : Nat → Int32) (g : Nat → Int64), ns_en (nY k) f g = some (.inl (.int, 3, .inl f))
  | 0, _ => fun _ _ => rfl
  | 1, _ => fun _ _ => rfl
  | 2, _ => fun _ _ => rfl
  | 3, _ => fun _ _ => rfl
  | 4, _ => fun _ _ => rfl
  | 5, _ => fun _ _ => rfl
  | 6, _ => fun _ _ => rfl
  | 7, _ => fun _ _ => rfl
  | 8, _ => fun _ _ => rfl
  | 9, _ => fun _ _ => rfl
  | 10, _ => fun _ _ => rfl
  | 11, _ => fun _ _ => rfl
  | k + 12, h => absurd h (by omega)
theorem ns_eK : ∀ {k : Nat}, k < 12 → ∀ (f : Nat → Int32) (g : Nat → Int64), ns_en (nK k) f g = some (.inl (.int, 30, .inl f))
  | 0, _ => fun _ _ => rfl
  | 1, _ => fun _ _ => rfl
  | 2, _ => fun _ _ => rfl
  | 3, _ => fun _ _ => rfl
  | 4, _ => fun _ _ => rfl
  | 5, _ => fun _ _ => rfl
  | 6, _ => fun _ _ => rfl
  | 7, _ => fun _ _ => rfl
  | 8, _ => fun _ _ => rfl
  | 9, _ => fun _ _ => rfl
  | 10, _ => fun _ _ => rfl
  | 11, _ => fun _ _ => rfl
  | k + 12, h => absurd h (by omega)
theorem nC_lt {k : Nat} (h : k < 12) : nC k < 141 := by unfold nC; (try split) <;> omega
theorem nF_lt {k : Nat} (h : k < 13) : nF k < 141 := by unfold nF; (try split) <;> omega
theorem nT_lt {k : Nat} (h : k < 13) : nT k < 141 := by unfold nT; (try split) <;> omega
theorem nS_lt {k : Nat} (h : k < 13) : nS k < 141 := by unfold nS; (try split) <;> omega
theorem nN_lt {k : Nat} (h : k < 12) : nN k < 141 := by unfold nN; (try split) <;> omega
theorem nR_lt {k : Nat} (h : k < 12) : nR k < 141 := by unfold nR; (try split) <;> omega
theorem nY_lt {k : Nat} (h : k < 12) : nY k < 141 := by unfold nY; (try split) <;> omega
theorem nK_lt {k : Nat} (h : k < 12) : nK k < 141 := by unfold nK; (try split) <;> omega
theorem g_C_formula {μ : nMem} {k : Nat} (hk : k < 12) : gfv (ns_rep μ) (nC k) 1 0 (.ref (nF k)) := ns_gfv (nC_lt hk) (ns_eC hk _ _) rfl
theorem g_C_note {μ : nMem} {k : Nat} (hk : k < 12) : gfv (ns_rep μ) (nC k) 1 1 (.ref (nN k)) := ns_gfv (nC_lt hk) (ns_eC hk _ _) rfl
theorem g_C_tally {μ : nMem} {k : Nat} (hk : k < 12) : gfv (ns_rep μ) (nC k) 1 2 (.ref (nY k)) := ns_gfv (nC_lt hk) (ns_eC hk _ _) rfl
theorem g_C_stack {μ : nMem} {k : Nat} (hk : k < 12) : gfv (ns_rep μ) (nC k) 1 3 (.ref (nK k)) := ns_gfv (nC_lt hk) (ns_eC hk _ _) rfl
theorem g_C_hasFormula {μ : nMem} {k : Nat} (hk : k < 12) : gfv (ns_rep μ) (nC k) 1 4 (.int (μ.1 (nC k) 4)) := ns_gfv (nC_lt hk) (ns_eC hk _ _) rfl
theorem p_C_hasFormula {μ : nMem} {x : Int32} {k : Nat} (hk : k < 12) : pfv (ns_rep μ) (nC k) 1 4 (.int x) (ns_rep (ms μ (nC k) 4 x)) := ns_pfv (nC_lt hk) (ns_eC hk _ _) (Nat.le_of_ble_eq_true rfl) (ns_eC hk _ _)
theorem g_C_formulaChanged {μ : nMem} {k : Nat} (hk : k < 12) : gfv (ns_rep μ) (nC k) 1 5 (.int (μ.1 (nC k) 5)) := ns_gfv (nC_lt hk) (ns_eC hk _ _) rfl
theorem p_C_formulaChanged {μ : nMem} {x : Int32} {k : Nat} (hk : k < 12) : pfv (ns_rep μ) (nC k) 1 5 (.int x) (ns_rep (ms μ (nC k) 5 x)) := ns_pfv (nC_lt hk) (ns_eC hk _ _) (Nat.le_of_ble_eq_true rfl) (ns_eC hk _ _)
theorem g_C_number {μ : nMem} {k : Nat} (hk : k < 12) : gfv (ns_rep μ) (nC k) 1 6 (.int (μ.1 (nC k) 6)) := ns_gfv (nC_lt hk) (ns_eC hk _ _) rfl
theorem p_C_number {μ : nMem} {x : Int32} {k : Nat} (hk : k < 12) : pfv (ns_rep μ) (nC k) 1 6 (.int x) (ns_rep (ms μ (nC k) 6 x)) := ns_pfv (nC_lt hk) (ns_eC hk _ _) (Nat.le_of_ble_eq_true rfl) (ns_eC hk _ _)
theorem g_C_durability {μ : nMem} {k : Nat} (hk : k < 12) : gfv (ns_rep μ) (nC k) 1 7 (.int (μ.1 (nC k) 7)) := ns_gfv (nC_lt hk) (ns_eC hk _ _) rfl
theorem p_C_durability {μ : nMem} {x : Int32} {k : Nat} (hk : k < 12) : pfv (ns_rep μ) (nC k) 1 7 (.int x) (ns_rep (ms μ (nC k) 7 x)) := ns_pfv (nC_lt hk) (ns_eC hk _ _) (Nat.le_of_ble_eq_true rfl) (ns_eC hk _ _)
theorem g_C_inputSince {μ : nMem} {k : Nat} (hk : k < 12) : gfv (ns_rep μ) (nC k) 1 8 (.int (μ.1 (nC k) 8)) := ns_gfv (nC_lt hk) (ns_eC hk _ _) rfl
theorem p_C_inputSince {μ : nMem} {x : Int32} {k : Nat} (hk : k < 12) : pfv (ns_rep μ) (nC k) 1 8 (.int x) (ns_rep (ms μ (nC k) 8 x)) := ns_pfv (nC_lt hk) (ns_eC hk _ _) (Nat.le_of_ble_eq_true rfl) (ns_eC hk _ _)
theorem g_C_atWork {μ : nMem} {k : Nat} (hk : k < 12) : gfv (ns_rep μ) (nC k) 1 9 (.int (μ.1 (nC k) 9)) := ns_gfv (nC_lt hk) (ns_eC hk _ _) rfl
theorem p_C_atWork {μ : nMem} {x : Int32} {k : Nat} (hk : k < 12) : pfv (ns_rep μ) (nC k) 1 9 (.int x) (ns_rep (ms μ (nC k) 9 x)) := ns_pfv (nC_lt hk) (ns_eC hk _ _) (Nat.le_of_ble_eq_true rfl) (ns_eC hk _ _)
theorem g_C_lastUse {μ : nMem} {k : Nat} (hk : k < 12) : gfv (ns_rep μ) (nC k) 1 10 (.int (μ.1 (nC k) 10)) := ns_gfv (nC_lt hk) (ns_eC hk _ _) rfl
theorem p_C_lastUse {μ : nMem} {x : Int32} {k : Nat} (hk : k < 12) : pfv (ns_rep μ) (nC k) 1 10 (.int x) (ns_rep (ms μ (nC k) 10 x)) := ns_pfv (nC_lt hk) (ns_eC hk _ _) (Nat.le_of_ble_eq_true rfl) (ns_eC hk _ _)
theorem g_F_text {μ : nMem} {k : Nat} (hk : k < 13) : gfv (ns_rep μ) (nF k) 2 0 (.ref (nT k)) := ns_gfv (nF_lt hk) (ns_eF hk _ _) rfl
theorem g_F_steps {μ : nMem} {k : Nat} (hk : k < 13) : gfv (ns_rep μ) (nF k) 2 1 (.ref (nS k)) := ns_gfv (nF_lt hk) (ns_eF hk _ _) rfl
theorem g_F_length {μ : nMem} {k : Nat} (hk : k < 13) : gfv (ns_rep μ) (nF k) 2 2 (.int (μ.1 (nF k) 2)) := ns_gfv (nF_lt hk) (ns_eF hk _ _) rfl
theorem p_F_length {μ : nMem} {x : Int32} {k : Nat} (hk : k < 13) : pfv (ns_rep μ) (nF k) 2 2 (.int x) (ns_rep (ms μ (nF k) 2 x)) := ns_pfv (nF_lt hk) (ns_eF hk _ _) (Nat.le_of_ble_eq_true rfl) (ns_eF hk _ _)
theorem g_F_stepCount {μ : nMem} {k : Nat} (hk : k < 13) : gfv (ns_rep μ) (nF k) 2 3 (.int (μ.1 (nF k) 3)) := ns_gfv (nF_lt hk) (ns_eF hk _ _) rfl
theorem p_F_stepCount {μ : nMem} {x : Int32} {k : Nat} (hk : k < 13) : pfv (ns_rep μ) (nF k) 2 3 (.int x) (ns_rep (ms μ (nF k) 3 x)) := ns_pfv (nF_lt hk) (ns_eF hk _ _) (Nat.le_of_ble_eq_true rfl) (ns_eF hk _ _)
theorem g_O_reads {μ : nMem} {k : Nat} (hk : k < 12) : gfv (ns_rep μ) (nN k) 3 0 (.ref (nR k)) := ns_gfv (nN_lt hk) (ns_eO hk _ _) rfl
theorem g_O_readCount {μ : nMem} {k : Nat} (hk : k < 12) : gfv (ns_rep μ) (nN k) 3 1 (.int (μ.1 (nN k) 1)) := ns_gfv (nN_lt hk) (ns_eO hk _ _) rfl
theorem p_O_readCount {μ : nMem} {x : Int32} {k : Nat} (hk : k < 12) : pfv (ns_rep μ) (nN k) 3 1 (.int x) (ns_rep (ms μ (nN k) 1 x)) := ns_pfv (nN_lt hk) (ns_eO hk _ _) (Nat.le_of_ble_eq_true rfl) (ns_eO hk _ _)
theorem g_O_exists {μ : nMem} {k : Nat} (hk : k < 12) : gfv (ns_rep μ) (nN k) 3 2 (.int (μ.1 (nN k) 2)) := ns_gfv (nN_lt hk) (ns_eO hk _ _) rfl
theorem p_O_exists {μ : nMem} {x : Int32} {k : Nat} (hk : k < 12) : pfv (ns_rep μ) (nN k) 3 2 (.int x) (ns_rep (ms μ (nN k) 2 x)) := ns_pfv (nN_lt hk) (ns_eO hk _ _) (Nat.le_of_ble_eq_true rfl) (ns_eO hk _ _)
theorem g_O_hasValue {μ : nMem} {k : Nat} (hk : k < 12) : gfv (ns_rep μ) (nN k) 3 3 (.int (μ.1 (nN k) 3)) := ns_gfv (nN_lt hk) (ns_eO hk _ _) rfl
theorem p_O_hasValue {μ : nMem} {x : Int32} {k : Nat} (hk : k < 12) : pfv (ns_rep μ) (nN k) 3 3 (.int x) (ns_rep (ms μ (nN k) 3 x)) := ns_pfv (nN_lt hk) (ns_eO hk _ _) (Nat.le_of_ble_eq_true rfl) (ns_eO hk _ _)
theorem g_O_value {μ : nMem} {k : Nat} (hk : k < 12) : gfv (ns_rep μ) (nN k) 3 4 (.long (μ.2 (nN k) 4)) := ns_gfv (nN_lt hk) (ns_eO hk _ _) rfl
theorem p_O_value {μ : nMem} {x : Int64} {k : Nat} (hk : k < 12) : pfv (ns_rep μ) (nN k) 3 4 (.long x) (ns_rep (ml μ (nN k) 4 x)) := ns_pfl (nN_lt hk) (ns_eO hk _ _) (Nat.le_of_ble_eq_true rfl) (ns_eO hk _ _)
theorem g_O_verified {μ : nMem} {k : Nat} (hk : k < 12) : gfv (ns_rep μ) (nN k) 3 5 (.int (μ.1 (nN k) 5)) := ns_gfv (nN_lt hk) (ns_eO hk _ _) rfl
theorem p_O_verified {μ : nMem} {x : Int32} {k : Nat} (hk : k < 12) : pfv (ns_rep μ) (nN k) 3 5 (.int x) (ns_rep (ms μ (nN k) 5 x)) := ns_pfv (nN_lt hk) (ns_eO hk _ _) (Nat.le_of_ble_eq_true rfl) (ns_eO hk _ _)
theorem g_O_since {μ : nMem} {k : Nat} (hk : k < 12) : gfv (ns_rep μ) (nN k) 3 6 (.int (μ.1 (nN k) 6)) := ns_gfv (nN_lt hk) (ns_eO hk _ _) rfl
theorem p_O_since {μ : nMem} {x : Int32} {k : Nat} (hk : k < 12) : pfv (ns_rep μ) (nN k) 3 6 (.int x) (ns_rep (ms μ (nN k) 6 x)) := ns_pfv (nN_lt hk) (ns_eO hk _ _) (Nat.le_of_ble_eq_true rfl) (ns_eO hk _ _)
theorem g_O_durability {μ : nMem} {k : Nat} (hk : k < 12) : gfv (ns_rep μ) (nN k) 3 7 (.int (μ.1 (nN k) 7)) := ns_gfv (nN_lt hk) (ns_eO hk _ _) rfl
theorem p_O_durability {μ : nMem} {x : Int32} {k : Nat} (hk : k < 12) : pfv (ns_rep μ) (nN k) 3 7 (.int x) (ns_rep (ms μ (nN k) 7 x)) := ns_pfv (nN_lt hk) (ns_eO hk _ _) (Nat.le_of_ble_eq_true rfl) (ns_eO hk _ _)
theorem g_P_formula {μ : nMem} : gfv (ns_rep μ) 103 4 0 (.ref (nF 12)) := ns_gfv (by decide) rfl rfl
theorem g_P_at {μ : nMem} : gfv (ns_rep μ) 103 4 1 (.int (μ.1 103 1)) := ns_gfv (by decide) rfl rfl
theorem p_P_at {μ : nMem} {x : Int32} : pfv (ns_rep μ) 103 4 1 (.int x) (ns_rep (ms μ 103 1 x)) := ns_pfv (by decide) rfl (Nat.le_of_ble_eq_true rfl) rfl
theorem g_N_cells {μ : nMem} : gfv (ns_rep μ) 0 0 0 (.ref 1) := ns_gfv (by decide) rfl rfl
theorem g_N_lastChanges {μ : nMem} : gfv (ns_rep μ) 0 0 1 (.ref 98) := ns_gfv (by decide) rfl rfl
theorem g_N_latestTally {μ : nMem} : gfv (ns_rep μ) 0 0 2 (.ref 99) := ns_gfv (by decide) rfl rfl
theorem g_N_pad {μ : nMem} : gfv (ns_rep μ) 0 0 3 (.ref (nF 12)) := ns_gfv (by decide) rfl rfl
theorem g_N_parser {μ : nMem} : gfv (ns_rep μ) 0 0 4 (.ref 103) := ns_gfv (by decide) rfl rfl
theorem g_N_kept {μ : nMem} : gfv (ns_rep μ) 0 0 5 (.int (μ.1 0 5)) := ns_gfv (by decide) rfl rfl
theorem g_N_now {μ : nMem} : gfv (ns_rep μ) 0 0 6 (.int (μ.1 0 6)) := ns_gfv (by decide) rfl rfl
theorem p_N_now {μ : nMem} {x : Int32} : pfv (ns_rep μ) 0 0 6 (.int x) (ns_rep (ms μ 0 6 x)) := ns_pfv (by decide) rfl (Nat.le_of_ble_eq_true rfl) rfl
theorem g_N_uses {μ : nMem} : gfv (ns_rep μ) 0 0 7 (.int (μ.1 0 7)) := ns_gfv (by decide) rfl rfl
theorem p_N_uses {μ : nMem} {x : Int32} : pfv (ns_rep μ) 0 0 7 (.int x) (ns_rep (ms μ 0 7 x)) := ns_pfv (by decide) rfl (Nat.le_of_ble_eq_true rfl) rfl
theorem g_M_most {μ : nMem} : gfv (ns_rep μ) 104 5 0 (.int (μ.1 104 0)) := ns_gfv (by decide) rfl rfl
theorem g_M_pad {μ : nMem} : gfv (ns_rep μ) 104 5 1 (.ref 105) := ns_gfv (by decide) rfl rfl
theorem g_M_length {μ : nMem} : gfv (ns_rep μ) 104 5 2 (.int (μ.1 104 2)) := ns_gfv (by decide) rfl rfl
theorem p_M_length {μ : nMem} {x : Int32} : pfv (ns_rep μ) 104 5 2 (.int x) (ns_rep (ms μ 104 2 x)) := ns_pfv (by decide) rfl (Nat.le_of_ble_eq_true rfl) rfl
theorem g_M_revision {μ : nMem} : gfv (ns_rep μ) 104 5 3 (.int (μ.1 104 3)) := ns_gfv (by decide) rfl rfl
theorem p_M_revision {μ : nMem} {x : Int32} : pfv (ns_rep μ) 104 5 3 (.int x) (ns_rep (ms μ 104 3 x)) := ns_pfv (by decide) rfl (Nat.le_of_ble_eq_true rfl) rfl
theorem g_M_changes {μ : nMem} : gfv (ns_rep μ) 104 5 4 (.ref 106) := ns_gfv (by decide) rfl rfl
theorem g_M_formula {μ : nMem} : gfv (ns_rep μ) 104 5 5 (.ref 107) := ns_gfv (by decide) rfl rfl
theorem g_M_text {μ : nMem} : gfv (ns_rep μ) 104 5 6 (.ref 108) := ns_gfv (by decide) rfl rfl
theorem g_M_size {μ : nMem} : gfv (ns_rep μ) 104 5 7 (.ref 109) := ns_gfv (by decide) rfl rfl
theorem g_M_steps {μ : nMem} : gfv (ns_rep μ) 104 5 8 (.ref 110) := ns_gfv (by decide) rfl rfl
theorem g_M_step {μ : nMem} : gfv (ns_rep μ) 104 5 9 (.ref 111) := ns_gfv (by decide) rfl rfl
theorem g_M_with {μ : nMem} : gfv (ns_rep μ) 104 5 10 (.ref 112) := ns_gfv (by decide) rfl rfl
theorem g_M_altered {μ : nMem} : gfv (ns_rep μ) 104 5 11 (.ref 113) := ns_gfv (by decide) rfl rfl
theorem g_M_number {μ : nMem} : gfv (ns_rep μ) 104 5 12 (.ref 114) := ns_gfv (by decide) rfl rfl
theorem g_M_durable {μ : nMem} : gfv (ns_rep μ) 104 5 13 (.ref 115) := ns_gfv (by decide) rfl rfl
theorem g_M_born {μ : nMem} : gfv (ns_rep μ) 104 5 14 (.ref 116) := ns_gfv (by decide) rfl rfl
theorem g_M_noted {μ : nMem} : gfv (ns_rep μ) 104 5 15 (.ref 117) := ns_gfv (by decide) rfl rfl
theorem g_M_valued {μ : nMem} : gfv (ns_rep μ) 104 5 16 (.ref 118) := ns_gfv (by decide) rfl rfl
theorem g_M_value {μ : nMem} : gfv (ns_rep μ) 104 5 17 (.ref 119) := ns_gfv (by decide) rfl rfl
theorem g_M_verified {μ : nMem} : gfv (ns_rep μ) 104 5 18 (.ref 120) := ns_gfv (by decide) rfl rfl
theorem g_M_since {μ : nMem} : gfv (ns_rep μ) 104 5 19 (.ref 121) := ns_gfv (by decide) rfl rfl
theorem g_M_noteDurable {μ : nMem} : gfv (ns_rep μ) 104 5 20 (.ref 122) := ns_gfv (by decide) rfl rfl
theorem g_M_reads {μ : nMem} : gfv (ns_rep μ) 104 5 21 (.ref 123) := ns_gfv (by decide) rfl rfl
theorem g_M_readCell {μ : nMem} : gfv (ns_rep μ) 104 5 22 (.ref 124) := ns_gfv (by decide) rfl rfl
theorem g_M_used {μ : nMem} : gfv (ns_rep μ) 104 5 23 (.ref 125) := ns_gfv (by decide) rfl rfl
theorem g_M_clock {μ : nMem} : gfv (ns_rep μ) 104 5 24 (.int (μ.1 104 24)) := ns_gfv (by decide) rfl rfl
theorem p_M_clock {μ : nMem} {x : Int32} : pfv (ns_rep μ) 104 5 24 (.int x) (ns_rep (ms μ 104 24 x)) := ns_pfv (by decide) rfl (Nat.le_of_ble_eq_true rfl) rfl
theorem g_M_often {μ : nMem} : gfv (ns_rep μ) 104 5 25 (.ref 126) := ns_gfv (by decide) rfl rfl
theorem g_M_lately {μ : nMem} : gfv (ns_rep μ) 104 5 26 (.ref 127) := ns_gfv (by decide) rfl rfl
theorem g_M_opened {μ : nMem} : gfv (ns_rep μ) 104 5 27 (.int (μ.1 104 27)) := ns_gfv (by decide) rfl rfl
theorem p_M_opened {μ : nMem} {x : Int32} : pfv (ns_rep μ) 104 5 27 (.int x) (ns_rep (ms μ 104 27 x)) := ns_pfv (by decide) rfl (Nat.le_of_ble_eq_true rfl) rfl
theorem g_M_open {μ : nMem} : gfv (ns_rep μ) 104 5 28 (.ref 128) := ns_gfv (by decide) rfl rfl
theorem g_M_mode {μ : nMem} : gfv (ns_rep μ) 104 5 29 (.ref 129) := ns_gfv (by decide) rfl rfl
theorem g_M_at {μ : nMem} : gfv (ns_rep μ) 104 5 30 (.ref 130) := ns_gfv (by decide) rfl rfl
theorem g_M_depth {μ : nMem} : gfv (ns_rep μ) 104 5 31 (.ref 131) := ns_gfv (by decide) rfl rfl
theorem g_M_stack {μ : nMem} : gfv (ns_rep μ) 104 5 32 (.ref 132) := ns_gfv (by decide) rfl rfl
theorem g_M_found {μ : nMem} : gfv (ns_rep μ) 104 5 33 (.ref 133) := ns_gfv (by decide) rfl rfl
theorem g_M_foundCell {μ : nMem} : gfv (ns_rep μ) 104 5 34 (.ref 134) := ns_gfv (by decide) rfl rfl
theorem g_M_atWork {μ : nMem} : gfv (ns_rep μ) 104 5 35 (.ref 135) := ns_gfv (by decide) rfl rfl
theorem g_M_ring {μ : nMem} : gfv (ns_rep μ) 104 5 36 (.ref 136) := ns_gfv (by decide) rfl rfl
theorem g_M_signs {μ : nMem} : gfv (ns_rep μ) 104 5 37 (.int (μ.1 104 37)) := ns_gfv (by decide) rfl rfl
theorem p_M_signs {μ : nMem} {x : Int32} : pfv (ns_rep μ) 104 5 37 (.int x) (ns_rep (ms μ 104 37 x)) := ns_pfv (by decide) rfl (Nat.le_of_ble_eq_true rfl) rfl
theorem g_M_sign {μ : nMem} : gfv (ns_rep μ) 104 5 38 (.ref 137) := ns_gfv (by decide) rfl rfl
theorem g_M_mend {μ : nMem} : gfv (ns_rep μ) 104 5 39 (.ref 138) := ns_gfv (by decide) rfl rfl
theorem g_M_made {μ : nMem} : gfv (ns_rep μ) 104 5 40 (.int (μ.1 104 40)) := ns_gfv (by decide) rfl rfl
theorem p_M_made {μ : nMem} {x : Int32} : pfv (ns_rep μ) 104 5 40 (.int x) (ns_rep (ms μ 104 40 x)) := ns_pfv (by decide) rfl (Nat.le_of_ble_eq_true rfl) rfl
theorem g_M_newStep {μ : nMem} : gfv (ns_rep μ) 104 5 41 (.ref 139) := ns_gfv (by decide) rfl rfl
theorem g_M_newWith {μ : nMem} : gfv (ns_rep μ) 104 5 42 (.ref 140) := ns_gfv (by decide) rfl rfl
theorem ga_T {μ : nMem} {k : Nat} (hk : k < 13) : gav (ns_rep μ) (nT k) .char 30 (μ.1 (nT k)) := ns_gav (nT_lt hk) (by decide) (ns_eT hk)
theorem pa_T {μ : nMem} {k j : Nat} {x : Int32} (hk : k < 13) : pav (ns_rep μ) (nT k) .char 30 j x (ns_rep (ms μ (nT k) j x)) := ns_pav (nT_lt hk) (by decide) (ns_eT hk)
theorem ga_S {μ : nMem} {k : Nat} (hk : k < 13) : gav (ns_rep μ) (nS k) .int 30 (μ.1 (nS k)) := ns_gav (nS_lt hk) (by decide) (ns_eS hk)
theorem pa_S {μ : nMem} {k j : Nat} {x : Int32} (hk : k < 13) : pav (ns_rep μ) (nS k) .int 30 j x (ns_rep (ms μ (nS k) j x)) := ns_pav (nS_lt hk) (by decide) (ns_eS hk)
theorem ga_R {μ : nMem} {k : Nat} (hk : k < 12) : gav (ns_rep μ) (nR k) .int 12 (μ.1 (nR k)) := ns_gav (nR_lt hk) (by decide) (ns_eR hk)
theorem pa_R {μ : nMem} {k j : Nat} {x : Int32} (hk : k < 12) : pav (ns_rep μ) (nR k) .int 12 j x (ns_rep (ms μ (nR k) j x)) := ns_pav (nR_lt hk) (by decide) (ns_eR hk)
theorem ga_Y {μ : nMem} {k : Nat} (hk : k < 12) : gav (ns_rep μ) (nY k) .int 3 (μ.1 (nY k)) := ns_gav (nY_lt hk) (by decide) (ns_eY hk)
theorem pa_Y {μ : nMem} {k j : Nat} {x : Int32} (hk : k < 12) : pav (ns_rep μ) (nY k) .int 3 j x (ns_rep (ms μ (nY k) j x)) := ns_pav (nY_lt hk) (by decide) (ns_eY hk)
theorem ga_K {μ : nMem} {k : Nat} (hk : k < 12) : gav (ns_rep μ) (nK k) .int 30 (μ.1 (nK k)) := ns_gav (nK_lt hk) (by decide) (ns_eK hk)
theorem pa_K {μ : nMem} {k j : Nat} {x : Int32} (hk : k < 12) : pav (ns_rep μ) (nK k) .int 30 j x (ns_rep (ms μ (nK k) j x)) := ns_pav (nK_lt hk) (by decide) (ns_eK hk)
theorem ga_lastChanges {μ : nMem} : gav (ns_rep μ) 98 .int 3 (μ.1 98) := ns_gav (by decide) (by decide) (fun _ _ => rfl)
theorem pa_lastChanges {μ : nMem} {j : Nat} {x : Int32} : pav (ns_rep μ) 98 .int 3 j x (ns_rep (ms μ 98 j x)) := ns_pav (by decide) (by decide) (fun _ _ => rfl)
theorem ga_latestTally {μ : nMem} : gav (ns_rep μ) 99 .int 3 (μ.1 99) := ns_gav (by decide) (by decide) (fun _ _ => rfl)
theorem pa_latestTally {μ : nMem} {j : Nat} {x : Int32} : pav (ns_rep μ) 99 .int 3 j x (ns_rep (ms μ 99 j x)) := ns_pav (by decide) (by decide) (fun _ _ => rfl)
theorem ga_Mpad {μ : nMem} : gav (ns_rep μ) 105 .int 30 (μ.1 105) := ns_gav (by decide) (by decide) (fun _ _ => rfl)
theorem pa_Mpad {μ : nMem} {j : Nat} {x : Int32} : pav (ns_rep μ) 105 .int 30 j x (ns_rep (ms μ 105 j x)) := ns_pav (by decide) (by decide) (fun _ _ => rfl)
theorem ga_Mchanges {μ : nMem} : gav (ns_rep μ) 106 .int 3 (μ.1 106) := ns_gav (by decide) (by decide) (fun _ _ => rfl)
theorem pa_Mchanges {μ : nMem} {j : Nat} {x : Int32} : pav (ns_rep μ) 106 .int 3 j x (ns_rep (ms μ 106 j x)) := ns_pav (by decide) (by decide) (fun _ _ => rfl)
theorem ga_Mformula {μ : nMem} : gav (ns_rep μ) 107 .boolean 12 (μ.1 107) := ns_gav (by decide) (by decide) (fun _ _ => rfl)
theorem pa_Mformula {μ : nMem} {j : Nat} {x : Int32} : pav (ns_rep μ) 107 .boolean 12 j x (ns_rep (ms μ 107 j x)) := ns_pav (by decide) (by decide) (fun _ _ => rfl)
theorem ga_Mtext {μ : nMem} : gav (ns_rep μ) 108 .int 360 (μ.1 108) := ns_gav (by decide) (by decide) (fun _ _ => rfl)
theorem pa_Mtext {μ : nMem} {j : Nat} {x : Int32} : pav (ns_rep μ) 108 .int 360 j x (ns_rep (ms μ 108 j x)) := ns_pav (by decide) (by decide) (fun _ _ => rfl)
theorem ga_Msize {μ : nMem} : gav (ns_rep μ) 109 .int 12 (μ.1 109) := ns_gav (by decide) (by decide) (fun _ _ => rfl)
theorem pa_Msize {μ : nMem} {j : Nat} {x : Int32} : pav (ns_rep μ) 109 .int 12 j x (ns_rep (ms μ 109 j x)) := ns_pav (by decide) (by decide) (fun _ _ => rfl)
theorem ga_Msteps {μ : nMem} : gav (ns_rep μ) 110 .int 12 (μ.1 110) := ns_gav (by decide) (by decide) (fun _ _ => rfl)
theorem pa_Msteps {μ : nMem} {j : Nat} {x : Int32} : pav (ns_rep μ) 110 .int 12 j x (ns_rep (ms μ 110 j x)) := ns_pav (by decide) (by decide) (fun _ _ => rfl)
theorem ga_Mstep {μ : nMem} : gav (ns_rep μ) 111 .int 480 (μ.1 111) := ns_gav (by decide) (by decide) (fun _ _ => rfl)
theorem pa_Mstep {μ : nMem} {j : Nat} {x : Int32} : pav (ns_rep μ) 111 .int 480 j x (ns_rep (ms μ 111 j x)) := ns_pav (by decide) (by decide) (fun _ _ => rfl)
theorem ga_Mwith {μ : nMem} : gav (ns_rep μ) 112 .int 480 (μ.1 112) := ns_gav (by decide) (by decide) (fun _ _ => rfl)
theorem pa_Mwith {μ : nMem} {j : Nat} {x : Int32} : pav (ns_rep μ) 112 .int 480 j x (ns_rep (ms μ 112 j x)) := ns_pav (by decide) (by decide) (fun _ _ => rfl)
theorem ga_Maltered {μ : nMem} : gav (ns_rep μ) 113 .int 12 (μ.1 113) := ns_gav (by decide) (by decide) (fun _ _ => rfl)
theorem pa_Maltered {μ : nMem} {j : Nat} {x : Int32} : pav (ns_rep μ) 113 .int 12 j x (ns_rep (ms μ 113 j x)) := ns_pav (by decide) (by decide) (fun _ _ => rfl)
theorem ga_Mnumber {μ : nMem} : gav (ns_rep μ) 114 .int 12 (μ.1 114) := ns_gav (by decide) (by decide) (fun _ _ => rfl)
theorem pa_Mnumber {μ : nMem} {j : Nat} {x : Int32} : pav (ns_rep μ) 114 .int 12 j x (ns_rep (ms μ 114 j x)) := ns_pav (by decide) (by decide) (fun _ _ => rfl)
theorem ga_Mdurable {μ : nMem} : gav (ns_rep μ) 115 .int 12 (μ.1 115) := ns_gav (by decide) (by decide) (fun _ _ => rfl)
theorem pa_Mdurable {μ : nMem} {j : Nat} {x : Int32} : pav (ns_rep μ) 115 .int 12 j x (ns_rep (ms μ 115 j x)) := ns_pav (by decide) (by decide) (fun _ _ => rfl)
theorem ga_Mborn {μ : nMem} : gav (ns_rep μ) 116 .int 12 (μ.1 116) := ns_gav (by decide) (by decide) (fun _ _ => rfl)
theorem pa_Mborn {μ : nMem} {j : Nat} {x : Int32} : pav (ns_rep μ) 116 .int 12 j x (ns_rep (ms μ 116 j x)) := ns_pav (by decide) (by decide) (fun _ _ => rfl)
theorem ga_Mnoted {μ : nMem} : gav (ns_rep μ) 117 .boolean 12 (μ.1 117) := ns_gav (by decide) (by decide) (fun _ _ => rfl)
theorem pa_Mnoted {μ : nMem} {j : Nat} {x : Int32} : pav (ns_rep μ) 117 .boolean 12 j x (ns_rep (ms μ 117 j x)) := ns_pav (by decide) (by decide) (fun _ _ => rfl)
theorem ga_Mvalued {μ : nMem} : gav (ns_rep μ) 118 .boolean 12 (μ.1 118) := ns_gav (by decide) (by decide) (fun _ _ => rfl)
theorem pa_Mvalued {μ : nMem} {j : Nat} {x : Int32} : pav (ns_rep μ) 118 .boolean 12 j x (ns_rep (ms μ 118 j x)) := ns_pav (by decide) (by decide) (fun _ _ => rfl)
theorem ga_Mvalue {μ : nMem} : glv (ns_rep μ) 119 12 (μ.2 119) := ns_glv (by decide) (by decide) (fun _ _ => rfl)
theorem pa_Mvalue {μ : nMem} {j : Nat} {x : Int64} : plv (ns_rep μ) 119 12 j x (ns_rep (ml μ 119 j x)) := ns_plv (by decide) (by decide) (fun _ _ => rfl)
theorem ga_Mverified {μ : nMem} : gav (ns_rep μ) 120 .int 12 (μ.1 120) := ns_gav (by decide) (by decide) (fun _ _ => rfl)
theorem pa_Mverified {μ : nMem} {j : Nat} {x : Int32} : pav (ns_rep μ) 120 .int 12 j x (ns_rep (ms μ 120 j x)) := ns_pav (by decide) (by decide) (fun _ _ => rfl)
theorem ga_Msince {μ : nMem} : gav (ns_rep μ) 121 .int 12 (μ.1 121) := ns_gav (by decide) (by decide) (fun _ _ => rfl)
theorem pa_Msince {μ : nMem} {j : Nat} {x : Int32} : pav (ns_rep μ) 121 .int 12 j x (ns_rep (ms μ 121 j x)) := ns_pav (by decide) (by decide) (fun _ _ => rfl)
theorem ga_MnoteDurable {μ : nMem} : gav (ns_rep μ) 122 .int 12 (μ.1 122) := ns_gav (by decide) (by decide) (fun _ _ => rfl)
theorem pa_MnoteDurable {μ : nMem} {j : Nat} {x : Int32} : pav (ns_rep μ) 122 .int 12 j x (ns_rep (ms μ 122 j x)) := ns_pav (by decide) (by decide) (fun _ _ => rfl)
theorem ga_Mreads {μ : nMem} : gav (ns_rep μ) 123 .int 12 (μ.1 123) := ns_gav (by decide) (by decide) (fun _ _ => rfl)
theorem pa_Mreads {μ : nMem} {j : Nat} {x : Int32} : pav (ns_rep μ) 123 .int 12 j x (ns_rep (ms μ 123 j x)) := ns_pav (by decide) (by decide) (fun _ _ => rfl)
theorem ga_MreadCell {μ : nMem} : gav (ns_rep μ) 124 .int 144 (μ.1 124) := ns_gav (by decide) (by decide) (fun _ _ => rfl)
theorem pa_MreadCell {μ : nMem} {j : Nat} {x : Int32} : pav (ns_rep μ) 124 .int 144 j x (ns_rep (ms μ 124 j x)) := ns_pav (by decide) (by decide) (fun _ _ => rfl)
theorem ga_Mused {μ : nMem} : gav (ns_rep μ) 125 .int 12 (μ.1 125) := ns_gav (by decide) (by decide) (fun _ _ => rfl)
theorem pa_Mused {μ : nMem} {j : Nat} {x : Int32} : pav (ns_rep μ) 125 .int 12 j x (ns_rep (ms μ 125 j x)) := ns_pav (by decide) (by decide) (fun _ _ => rfl)
theorem ga_Moften {μ : nMem} : gav (ns_rep μ) 126 .int 36 (μ.1 126) := ns_gav (by decide) (by decide) (fun _ _ => rfl)
theorem pa_Moften {μ : nMem} {j : Nat} {x : Int32} : pav (ns_rep μ) 126 .int 36 j x (ns_rep (ms μ 126 j x)) := ns_pav (by decide) (by decide) (fun _ _ => rfl)
theorem ga_Mlately {μ : nMem} : gav (ns_rep μ) 127 .int 3 (μ.1 127) := ns_gav (by decide) (by decide) (fun _ _ => rfl)
theorem pa_Mlately {μ : nMem} {j : Nat} {x : Int32} : pav (ns_rep μ) 127 .int 3 j x (ns_rep (ms μ 127 j x)) := ns_pav (by decide) (by decide) (fun _ _ => rfl)
theorem ga_Mopen {μ : nMem} : gav (ns_rep μ) 128 .int 12 (μ.1 128) := ns_gav (by decide) (by decide) (fun _ _ => rfl)
theorem pa_Mopen {μ : nMem} {j : Nat} {x : Int32} : pav (ns_rep μ) 128 .int 12 j x (ns_rep (ms μ 128 j x)) := ns_pav (by decide) (by decide) (fun _ _ => rfl)
theorem ga_Mmode {μ : nMem} : gav (ns_rep μ) 129 .int 12 (μ.1 129) := ns_gav (by decide) (by decide) (fun _ _ => rfl)
theorem pa_Mmode {μ : nMem} {j : Nat} {x : Int32} : pav (ns_rep μ) 129 .int 12 j x (ns_rep (ms μ 129 j x)) := ns_pav (by decide) (by decide) (fun _ _ => rfl)
theorem ga_Mat {μ : nMem} : gav (ns_rep μ) 130 .int 12 (μ.1 130) := ns_gav (by decide) (by decide) (fun _ _ => rfl)
theorem pa_Mat {μ : nMem} {j : Nat} {x : Int32} : pav (ns_rep μ) 130 .int 12 j x (ns_rep (ms μ 130 j x)) := ns_pav (by decide) (by decide) (fun _ _ => rfl)
theorem ga_Mdepth {μ : nMem} : gav (ns_rep μ) 131 .int 12 (μ.1 131) := ns_gav (by decide) (by decide) (fun _ _ => rfl)
theorem pa_Mdepth {μ : nMem} {j : Nat} {x : Int32} : pav (ns_rep μ) 131 .int 12 j x (ns_rep (ms μ 131 j x)) := ns_pav (by decide) (by decide) (fun _ _ => rfl)
theorem ga_Mstack {μ : nMem} : glv (ns_rep μ) 132 192 (μ.2 132) := ns_glv (by decide) (by decide) (fun _ _ => rfl)
theorem pa_Mstack {μ : nMem} {j : Nat} {x : Int64} : plv (ns_rep μ) 132 192 j x (ns_rep (ml μ 132 j x)) := ns_plv (by decide) (by decide) (fun _ _ => rfl)
theorem ga_Mfound {μ : nMem} : gav (ns_rep μ) 133 .int 12 (μ.1 133) := ns_gav (by decide) (by decide) (fun _ _ => rfl)
theorem pa_Mfound {μ : nMem} {j : Nat} {x : Int32} : pav (ns_rep μ) 133 .int 12 j x (ns_rep (ms μ 133 j x)) := ns_pav (by decide) (by decide) (fun _ _ => rfl)
theorem ga_MfoundCell {μ : nMem} : gav (ns_rep μ) 134 .int 144 (μ.1 134) := ns_gav (by decide) (by decide) (fun _ _ => rfl)
theorem pa_MfoundCell {μ : nMem} {j : Nat} {x : Int32} : pav (ns_rep μ) 134 .int 144 j x (ns_rep (ms μ 134 j x)) := ns_pav (by decide) (by decide) (fun _ _ => rfl)
theorem ga_MatWork {μ : nMem} : gav (ns_rep μ) 135 .boolean 12 (μ.1 135) := ns_gav (by decide) (by decide) (fun _ _ => rfl)
theorem pa_MatWork {μ : nMem} {j : Nat} {x : Int32} : pav (ns_rep μ) 135 .boolean 12 j x (ns_rep (ms μ 135 j x)) := ns_pav (by decide) (by decide) (fun _ _ => rfl)
theorem ga_Mring {μ : nMem} : gav (ns_rep μ) 136 .boolean 12 (μ.1 136) := ns_gav (by decide) (by decide) (fun _ _ => rfl)
theorem pa_Mring {μ : nMem} {j : Nat} {x : Int32} : pav (ns_rep μ) 136 .boolean 12 j x (ns_rep (ms μ 136 j x)) := ns_pav (by decide) (by decide) (fun _ _ => rfl)
theorem ga_Msign {μ : nMem} : gav (ns_rep μ) 137 .int 64 (μ.1 137) := ns_gav (by decide) (by decide) (fun _ _ => rfl)
theorem pa_Msign {μ : nMem} {j : Nat} {x : Int32} : pav (ns_rep μ) 137 .int 64 j x (ns_rep (ms μ 137 j x)) := ns_pav (by decide) (by decide) (fun _ _ => rfl)
theorem ga_Mmend {μ : nMem} : gav (ns_rep μ) 138 .int 64 (μ.1 138) := ns_gav (by decide) (by decide) (fun _ _ => rfl)
theorem pa_Mmend {μ : nMem} {j : Nat} {x : Int32} : pav (ns_rep μ) 138 .int 64 j x (ns_rep (ms μ 138 j x)) := ns_pav (by decide) (by decide) (fun _ _ => rfl)
theorem ga_MnewStep {μ : nMem} : gav (ns_rep μ) 139 .int 40 (μ.1 139) := ns_gav (by decide) (by decide) (fun _ _ => rfl)
theorem pa_MnewStep {μ : nMem} {j : Nat} {x : Int32} : pav (ns_rep μ) 139 .int 40 j x (ns_rep (ms μ 139 j x)) := ns_pav (by decide) (by decide) (fun _ _ => rfl)
theorem ga_MnewWith {μ : nMem} : gav (ns_rep μ) 140 .int 40 (μ.1 140) := ns_gav (by decide) (by decide) (fun _ _ => rfl)
theorem pa_MnewWith {μ : nMem} {j : Nat} {x : Int32} : pav (ns_rep μ) 140 .int 40 j x (ns_rep (ms μ 140 j x)) := ns_pav (by decide) (by decide) (fun _ _ => rfl)
theorem ns_cells {μ : nMem} : (ns_rep μ).2 1 = some (.inl (.object "NoteSheet$Cell", 12, .inr (.inr (.inr (.inr (fun j => if j < 12 then some (nC j) else none)))))) := ns_rp_at (by decide) rfl
theorem ns_ioN {μ : nMem} : ax_io (ns_rep μ) 0 0 := rfl
theorem ns_ioP {μ : nMem} : ax_io (ns_rep μ) 103 4 := rfl
theorem ns_ioM {μ : nMem} : ax_io (ns_rep μ) 104 5 := rfl
theorem ns_ioC {μ : nMem} {k : Nat} (hk : k < 12) : ax_io (ns_rep μ) (nC k) 1 := by unfold ax_io; rw [ns_rp_at (nC_lt hk) (ns_eC hk _ _)]
theorem ns_ioF {μ : nMem} {k : Nat} (hk : k < 13) : ax_io (ns_rep μ) (nF k) 2 := by unfold ax_io; rw [ns_rp_at (nF_lt hk) (ns_eF hk _ _)]
theorem ns_ioO {μ : nMem} {k : Nat} (hk : k < 12) : ax_io (ns_rep μ) (nN k) 3 := by unfold ax_io; rw [ns_rp_at (nN_lt hk) (ns_eO hk _ _)]
