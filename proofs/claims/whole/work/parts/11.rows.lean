/-! the abstract machine over this program, a row an instruction -/
abbrev nM (L : Nat) (xs : Nat → Int32) (d : Nat) : ax_MT := ax_M ns_cl L xs ns_tb ns_mt d
abbrev nW (L : Nat) (xs : Nat → Int32) (d : Nat) (I : ax_MI) (Q : ax_Q) : ax_P := ax_W ns_cl L xs ns_tb (d + 1) I (nM L xs d) Q
theorem nM.of {L : Nat} {xs : Nat → Int32} {d y : Nat} {args : List Value} {h : ax_H} {Q : ax_Q} (I : ax_MI) (hI : ns_mt y = some I) {ls : List (Option Value)} (hl : (ax_el args).length ≤ I.2.2.2.1) (hls : ax_en I.2.2.2.1 args = ls) (hw : nW L xs d I Q 0 ls [] 0 0 h) : nM L xs (d + 1) y args h Q := by
  show ax_op (ns_mt y) _
  rw [hI]
  subst hls
  exact ⟨hl, hw⟩
theorem ax_up_s (h : ax_H) (a : Nat) (e : ax_E) : (ax_up h a e).2 a = some e := by simp [ax_up]
theorem ax_up_o {h : ax_H} {a i : Nat} {e : ax_E} (hi : ¬ i = a) : (ax_up h a e).2 i = h.2 i := by simp [ax_up, hi]
theorem ax_nw_s (h : ax_H) (e : ax_E) : (ax_nw h e).2 h.1 = some e := by simp [ax_nw]
theorem ax_nw_o {h : ax_H} {i : Nat} {e : ax_E} (hi : ¬ i = h.1) : (ax_nw h e).2 i = h.2 i := by simp [ax_nw, hi]
/-- field kf of cell a is v -/
def gfv (h : ax_H) (a ci kf : Nat) (v : Value) : Prop := ∃ fs, h.2 a = some (.inr (ci, fs)) ∧ fs[kf]? = some v
def pfv (h : ax_H) (a ci kf : Nat) (v : Value) (h' : ax_H) : Prop := ∃ fs, h.2 a = some (.inr (ci, fs)) ∧ kf < fs.length ∧ h' = ax_up h a (.inr (ci, fs.set kf v))
/-- cell a is an array of ints, chars or booleans -/
def gav (h : ax_H) (a : Nat) (ty : FieldType) (n : Nat) (f : Nat → Int32) : Prop := h.2 a = some (.inl (ty, n, .inl f)) ∧ n < 2 ^ 31
def pav (h : ax_H) (a : Nat) (ty : FieldType) (n j : Nat) (x : Int32) (h' : ax_H) : Prop := ∃ f, h.2 a = some (.inl (ty, n, .inl f)) ∧ n < 2 ^ 31 ∧ h' = ax_up h a (.inl (ty, n, .inl (upd f j x)))
def glv (h : ax_H) (a n : Nat) (f : Nat → Int64) : Prop := h.2 a = some (.inl (.long, n, .inr (.inl f))) ∧ n < 2 ^ 31
def plv (h : ax_H) (a n j : Nat) (x : Int64) (h' : ax_H) : Prop := ∃ f, h.2 a = some (.inl (.long, n, .inr (.inl f))) ∧ n < 2 ^ 31 ∧ h' = ax_up h a (.inl (.long, n, .inr (.inl (vp_updL f j x))))
section NR
variable {L : Nat} {xs : Nat → Int32} {d : Nat} {Q : ax_Q} {pc pc' : Nat} {ls ls' : List (Option Value)} {st : List Value} {k n : Nat} {h h' : ax_H} {cc : ByteArray} {co ml mc ms : Nat} {ini : Bool} {rt : Option FieldType}
theorem aw_of {I : ax_MI} {i : Instr} {len : Nat} (hd : decode I.1 pc = .ok (i, len)) (hl : len = ax_len i ∨ ax_len i = 0) (hi : ax_ins ns_cl L xs ns_tb (d + 1) I.2.1 I.2.2.1 I.2.2.2.2.1 I.2.2.2.2.2.1 I.2.2.2.2.2.2 (nM L xs d) Q (nW L xs d I Q) (nW L xs d I Q) pc ls st k n h i) : nW L xs d I Q pc ls st k n h := ax_W.st (by
  unfold ax_step
  rw [hd]
  exact ⟨hl, hi⟩)

theorem aw_iconst {I : ax_MI} {v : Int} {x : Int32} (hd : decode I.1 pc = .ok (.iconst v, 1)) (hpc : pc + 1 = pc') (hx : Int32.ofInt v = x) (kk : nW L xs d I Q pc' ls (.int x :: st) k n h) : nW L xs d I Q pc ls st k n h := by subst hpc; subst hx; exact aw_of hd (Or.inl rfl) kk
theorem aw_bipush {I : ax_MI} {v : Int} {x : Int32} (hd : decode I.1 pc = .ok (.bipush v, 2)) (hpc : pc + 2 = pc') (hx : (Int8.ofInt v).toInt32 = x) (kk : nW L xs d I Q pc' ls (.int x :: st) k n h) : nW L xs d I Q pc ls st k n h := by subst hpc; subst hx; exact aw_of hd (Or.inl rfl) kk
theorem aw_sipush {I : ax_MI} {v : Int} {x : Int32} (hd : decode I.1 pc = .ok (.sipush v, 3)) (hpc : pc + 3 = pc') (hx : (Int16.ofInt v).toInt32 = x) (kk : nW L xs d I Q pc' ls (.int x :: st) k n h) : nW L xs d I Q pc ls st k n h := by subst hpc; subst hx; exact aw_of hd (Or.inl rfl) kk
theorem aw_lconst {I : ax_MI} {v : Fin 2} {x : Int64} (hd : decode I.1 pc = .ok (.lconst v, 1)) (hpc : pc + 1 = pc') (hx : Int64.ofNat (v : Nat) = x) (kk : nW L xs d I Q pc' ls (.long x :: st) k n h) : nW L xs d I Q pc ls st k n h := by subst hpc; subst hx; exact aw_of hd (Or.inl rfl) kk
theorem aw_null {I : ax_MI}  (hd : decode I.1 pc = .ok (.aconst_null, 1)) (hpc : pc + 1 = pc') (kk : nW L xs d I Q pc' ls (.null :: st) k n h) : nW L xs d I Q pc ls st k n h := by subst hpc; exact aw_of hd (Or.inl rfl) kk
theorem aw_ldcS {I : ax_MI} {idx : Nat} (hd : decode I.1 pc = .ok (.ldc idx, 2)) (hpc : pc + 2 = pc') (hk : ns_tK I.2.1 idx = some (.retAddr 1)) (kk : nW L xs d I Q pc' ls (.retAddr 1 :: st) k n h) : nW L xs d I Q pc ls st k n h := by
  subst hpc
  refine aw_of hd (Or.inl rfl) ?_
  show ax_op (ns_tK I.2.1 idx) _
  rw [hk]
  exact ⟨rfl, kk⟩
theorem aw_ldc2 {I : ax_MI} {idx : Nat} {x : Int64} (hd : decode I.1 pc = .ok (.ldc2_w idx, 3)) (hpc : pc + 3 = pc') (hk : ns_tK I.2.1 idx = some (.long x)) (kk : nW L xs d I Q pc' ls (.long x :: st) k n h) : nW L xs d I Q pc ls st k n h := by
  subst hpc
  refine aw_of hd (Or.inl rfl) ?_
  show ax_op (ns_tK I.2.1 idx) _
  rw [hk]
  exact kk
theorem aw_iload {I : ax_MI} {j : Nat} {x : Int32} (hd : decode I.1 pc = .ok (.iload j, 2)) (hpc : pc + 2 = pc') (hl : ls[j]? = some (some (.int x))) (kk : nW L xs d I Q pc' ls (.int x :: st) k n h) : nW L xs d I Q pc ls st k n h := by
  subst hpc
  refine aw_of hd (Or.inl rfl) ?_
  show ax_ld ls j _
  unfold ax_ld
  rw [hl]
  exact kk
theorem aw_iload_n {I : ax_MI} {j : Fin 4} {x : Int32} (hd : decode I.1 pc = .ok (.iload_n j, 1)) (hpc : pc + 1 = pc') (hl : ls[(j : Nat)]? = some (some (.int x))) (kk : nW L xs d I Q pc' ls (.int x :: st) k n h) : nW L xs d I Q pc ls st k n h := by
  subst hpc
  refine aw_of hd (Or.inl rfl) ?_
  show ax_ld ls (j : Nat) _
  unfold ax_ld
  rw [hl]
  exact kk
theorem aw_lload {I : ax_MI} {j : Nat} {x : Int64} (hd : decode I.1 pc = .ok (.lload j, 2)) (hpc : pc + 2 = pc') (hl : ls[j]? = some (some (.long x))) (kk : nW L xs d I Q pc' ls (.long x :: st) k n h) : nW L xs d I Q pc ls st k n h := by
  subst hpc
  refine aw_of hd (Or.inl rfl) ?_
  show ax_ld ls j _
  unfold ax_ld
  rw [hl]
  exact kk
theorem aw_lload_n {I : ax_MI} {j : Fin 4} {x : Int64} (hd : decode I.1 pc = .ok (.lload_n j, 1)) (hpc : pc + 1 = pc') (hl : ls[(j : Nat)]? = some (some (.long x))) (kk : nW L xs d I Q pc' ls (.long x :: st) k n h) : nW L xs d I Q pc ls st k n h := by
  subst hpc
  refine aw_of hd (Or.inl rfl) ?_
  show ax_ld ls (j : Nat) _
  unfold ax_ld
  rw [hl]
  exact kk
theorem aw_aload {I : ax_MI} {j : Nat} {v : Value} (hd : decode I.1 pc = .ok (.aload j, 2)) (hpc : pc + 2 = pc') (hl : ls[j]? = some (some v)) (hv : ax_isa v = true) (kk : nW L xs d I Q pc' ls (v :: st) k n h) : nW L xs d I Q pc ls st k n h := by
  subst hpc
  refine aw_of hd (Or.inl rfl) ?_
  show ax_ld ls j _
  unfold ax_ld
  rw [hl]
  exact ⟨hv, kk⟩
theorem aw_aload_n {I : ax_MI} {j : Fin 4} {v : Value} (hd : decode I.1 pc = .ok (.aload_n j, 1)) (hpc : pc + 1 = pc') (hl : ls[(j : Nat)]? = some (some v)) (hv : ax_isa v = true) (kk : nW L xs d I Q pc' ls (v :: st) k n h) : nW L xs d I Q pc ls st k n h := by
  subst hpc
  refine aw_of hd (Or.inl rfl) ?_
  show ax_ld ls (j : Nat) _
  unfold ax_ld
  rw [hl]
  exact ⟨hv, kk⟩
theorem aw_istore {I : ax_MI} {j : Nat} {x : Int32} (hd : decode I.1 pc = .ok (.istore j, 2)) (hpc : pc + 2 = pc') (hj : j < ls.length) (hl : ax_s1 ls j (.int x) = ls') (kk : nW L xs d I Q pc' ls' st k n h) : nW L xs d I Q pc ls (.int x :: st) k n h := by subst hpc; subst hl; exact aw_of hd (Or.inl rfl) ⟨hj, kk⟩
theorem aw_istore_n {I : ax_MI} {j : Fin 4} {x : Int32} (hd : decode I.1 pc = .ok (.istore_n j, 1)) (hpc : pc + 1 = pc') (hj : (j : Nat) < ls.length) (hl : ax_s1 ls (j : Nat) (.int x) = ls') (kk : nW L xs d I Q pc' ls' st k n h) : nW L xs d I Q pc ls (.int x :: st) k n h := by subst hpc; subst hl; exact aw_of hd (Or.inl rfl) ⟨hj, kk⟩
theorem aw_lstore {I : ax_MI} {j : Nat} {x : Int64} (hd : decode I.1 pc = .ok (.lstore j, 2)) (hpc : pc + 2 = pc') (hj : j + 1 < ls.length) (hl : ax_s2 ls j (.long x) = ls') (kk : nW L xs d I Q pc' ls' st k n h) : nW L xs d I Q pc ls (.long x :: st) k n h := by subst hpc; subst hl; exact aw_of hd (Or.inl rfl) ⟨hj, kk⟩
theorem aw_lstore_n {I : ax_MI} {j : Fin 4} {x : Int64} (hd : decode I.1 pc = .ok (.lstore_n j, 1)) (hpc : pc + 1 = pc') (hj : (j : Nat) + 1 < ls.length) (hl : ax_s2 ls (j : Nat) (.long x) = ls') (kk : nW L xs d I Q pc' ls' st k n h) : nW L xs d I Q pc ls (.long x :: st) k n h := by subst hpc; subst hl; exact aw_of hd (Or.inl rfl) ⟨hj, kk⟩
theorem aw_astore {I : ax_MI} {j : Nat} {v : Value} (hd : decode I.1 pc = .ok (.astore j, 2)) (hpc : pc + 2 = pc') (hv : ax_isa v = true) (hj : j < ls.length) (hl : ax_s1 ls j v = ls') (kk : nW L xs d I Q pc' ls' st k n h) : nW L xs d I Q pc ls (v :: st) k n h := by subst hpc; subst hl; exact aw_of hd (Or.inl rfl) ⟨by cases v <;> first | rfl | (cases hv; done), hv, hj, kk⟩
theorem aw_astore_n {I : ax_MI} {j : Fin 4} {v : Value} (hd : decode I.1 pc = .ok (.astore_n j, 1)) (hpc : pc + 1 = pc') (hv : ax_isa v = true) (hj : (j : Nat) < ls.length) (hl : ax_s1 ls (j : Nat) v = ls') (kk : nW L xs d I Q pc' ls' st k n h) : nW L xs d I Q pc ls (v :: st) k n h := by subst hpc; subst hl; exact aw_of hd (Or.inl rfl) ⟨by cases v <;> first | rfl | (cases hv; done), hv, hj, kk⟩
theorem aw_iinc {I : ax_MI} {j : Nat} {v : Int} {x y : Int32} (hd : decode I.1 pc = .ok (.iinc j v, 3)) (hpc : pc + 3 = pc') (hl : ls[j]? = some (some (.int x))) (hy : x + Int32.ofInt v = y) (hl' : ax_s1 ls j (.int y) = ls') (kk : nW L xs d I Q pc' ls' st k n h) : nW L xs d I Q pc ls st k n h := by
  subst hpc; subst hl'; subst hy
  refine aw_of hd (Or.inl rfl) ?_
  show ax_ld ls j _
  unfold ax_ld
  rw [hl]
  exact kk
theorem aw_iadd {I : ax_MI} {x y : Int32} (hd : decode I.1 pc = .ok (.iadd, 1)) (hpc : pc + 1 = pc') (kk : nW L xs d I Q pc' ls (.int (x + y) :: st) k n h) : nW L xs d I Q pc ls (.int y :: .int x :: st) k n h := by subst hpc; exact aw_of hd (Or.inl rfl) kk
theorem aw_isub {I : ax_MI} {x y : Int32} (hd : decode I.1 pc = .ok (.isub, 1)) (hpc : pc + 1 = pc') (kk : nW L xs d I Q pc' ls (.int (x - y) :: st) k n h) : nW L xs d I Q pc ls (.int y :: .int x :: st) k n h := by subst hpc; exact aw_of hd (Or.inl rfl) kk
theorem aw_imul {I : ax_MI} {x y : Int32} (hd : decode I.1 pc = .ok (.imul, 1)) (hpc : pc + 1 = pc') (kk : nW L xs d I Q pc' ls (.int (x * y) :: st) k n h) : nW L xs d I Q pc ls (.int y :: .int x :: st) k n h := by subst hpc; exact aw_of hd (Or.inl rfl) kk
theorem aw_iand {I : ax_MI} {x y : Int32} (hd : decode I.1 pc = .ok (.iand, 1)) (hpc : pc + 1 = pc') (kk : nW L xs d I Q pc' ls (.int (x &&& y) :: st) k n h) : nW L xs d I Q pc ls (.int y :: .int x :: st) k n h := by subst hpc; exact aw_of hd (Or.inl rfl) kk
theorem aw_ixor {I : ax_MI} {x y : Int32} (hd : decode I.1 pc = .ok (.ixor, 1)) (hpc : pc + 1 = pc') (kk : nW L xs d I Q pc' ls (.int (x ^^^ y) :: st) k n h) : nW L xs d I Q pc ls (.int y :: .int x :: st) k n h := by subst hpc; exact aw_of hd (Or.inl rfl) kk
theorem aw_idiv {I : ax_MI} {x y : Int32} (hd : decode I.1 pc = .ok (.idiv, 1)) (hpc : pc + 1 = pc') (hy : ¬ y = 0) (kk : nW L xs d I Q pc' ls (.int (x / y) :: st) k n h) : nW L xs d I Q pc ls (.int y :: .int x :: st) k n h := by subst hpc; exact aw_of hd (Or.inl rfl) ⟨hy, kk⟩
theorem aw_irem {I : ax_MI} {x y : Int32} (hd : decode I.1 pc = .ok (.irem, 1)) (hpc : pc + 1 = pc') (hy : ¬ y = 0) (kk : nW L xs d I Q pc' ls (.int (x - x / y * y) :: st) k n h) : nW L xs d I Q pc ls (.int y :: .int x :: st) k n h := by subst hpc; exact aw_of hd (Or.inl rfl) ⟨hy, kk⟩
theorem aw_ineg {I : ax_MI} {x : Int32} (hd : decode I.1 pc = .ok (.ineg, 1)) (hpc : pc + 1 = pc') (kk : nW L xs d I Q pc' ls (.int (-x) :: st) k n h) : nW L xs d I Q pc ls (.int x :: st) k n h := by subst hpc; exact aw_of hd (Or.inl rfl) kk
theorem aw_i2l {I : ax_MI} {x : Int32} (hd : decode I.1 pc = .ok (.i2l, 1)) (hpc : pc + 1 = pc') (kk : nW L xs d I Q pc' ls (.long x.toInt64 :: st) k n h) : nW L xs d I Q pc ls (.int x :: st) k n h := by subst hpc; exact aw_of hd (Or.inl rfl) kk
theorem aw_l2i {I : ax_MI} {x : Int64} (hd : decode I.1 pc = .ok (.l2i, 1)) (hpc : pc + 1 = pc') (kk : nW L xs d I Q pc' ls (.int x.toInt32 :: st) k n h) : nW L xs d I Q pc ls (.long x :: st) k n h := by subst hpc; exact aw_of hd (Or.inl rfl) kk
theorem aw_i2c {I : ax_MI} {x : Int32} (hd : decode I.1 pc = .ok (.i2c, 1)) (hpc : pc + 1 = pc') (kk : nW L xs d I Q pc' ls (.int (x.toUInt32 % 65536).toInt32 :: st) k n h) : nW L xs d I Q pc ls (.int x :: st) k n h := by subst hpc; exact aw_of hd (Or.inl rfl) kk
theorem aw_lcmp {I : ax_MI} {x y : Int64} (hd : decode I.1 pc = .ok (.lcmp, 1)) (hpc : pc + 1 = pc') (kk : nW L xs d I Q pc' ls (.int (lg_cmp x y) :: st) k n h) : nW L xs d I Q pc ls (.long y :: .long x :: st) k n h := by subst hpc; exact aw_of hd (Or.inl rfl) kk
theorem aw_dup {I : ax_MI} {v : Value} (hd : decode I.1 pc = .ok (.dup, 1)) (hpc : pc + 1 = pc') (hv : ax_c1 v = true) (kk : nW L xs d I Q pc' ls (v :: v :: st) k n h) : nW L xs d I Q pc ls (v :: st) k n h := by subst hpc; exact aw_of hd (Or.inl rfl) ⟨hv, kk⟩
theorem aw_pop {I : ax_MI} {v : Value} (hd : decode I.1 pc = .ok (.pop, 1)) (hpc : pc + 1 = pc') (hv : ax_c1 v = true) (kk : nW L xs d I Q pc' ls st k n h) : nW L xs d I Q pc ls (v :: st) k n h := by subst hpc; exact aw_of hd (Or.inl rfl) ⟨hv, kk⟩
theorem aw_dup2 {I : ax_MI} {v u : Value} (hd : decode I.1 pc = .ok (.dup2, 1)) (hpc : pc + 1 = pc') (hv : ax_c1 v = true) (hu : ax_c1 u = true) (kk : nW L xs d I Q pc' ls (v :: u :: v :: u :: st) k n h) : nW L xs d I Q pc ls (v :: u :: st) k n h := by subst hpc; exact aw_of hd (Or.inl rfl) ⟨hv, hu, kk⟩
theorem aw_t {off : Int} {K : Nat → Prop} (ht : (pc : Int) + off = (pc' : Int)) (h : K pc') : ax_t pc off K := by
  refine ⟨by rw [ht]; exact Int.natCast_nonneg _, ?_⟩
  rw [ht, Int.toNat_natCast]
  exact h
theorem aw_goto {I : ax_MI} {off : Int} (hd : decode I.1 pc = .ok (.goto off, 3)) (ht : (pc : Int) + off = (pc' : Int)) (kk : nW L xs d I Q pc' ls st k n h) : nW L xs d I Q pc ls st k n h := aw_of hd (Or.inl rfl) (aw_t (K := fun t => nW L xs d I Q t ls st k n h) ht kk)
theorem aw_icmp_eq {I : ax_MI} {x y : Int32} {off : Int} {tg : Nat} (hd : decode I.1 pc = .ok (.if_icmp .eq off, 3)) (ht : (pc : Int) + off = (tg : Int)) (hpc : pc + 3 = pc') (kt : x = y → nW L xs d I Q tg ls st k n h) (kf : ¬ x = y → nW L xs d I Q pc' ls st k n h) : nW L xs d I Q pc ls (.int y :: .int x :: st) k n h := by subst hpc; exact aw_of hd (Or.inl rfl) (aw_t (K := fun t => ax_br (ax_c .eq x y) (nW L xs d I Q t ls st k n h) (nW L xs d I Q (pc + 3) ls st k n h)) ht ⟨kt, kf⟩)
theorem aw_if_eq {I : ax_MI} {x : Int32} {off : Int} {tg : Nat} (hd : decode I.1 pc = .ok (.ifCond .eq off, 3)) (ht : (pc : Int) + off = (tg : Int)) (hpc : pc + 3 = pc') (kt : x = 0 → nW L xs d I Q tg ls st k n h) (kf : ¬ x = 0 → nW L xs d I Q pc' ls st k n h) : nW L xs d I Q pc ls (.int x :: st) k n h := by subst hpc; exact aw_of hd (Or.inl rfl) (aw_t (K := fun t => ax_br (ax_c .eq x 0) (nW L xs d I Q t ls st k n h) (nW L xs d I Q (pc + 3) ls st k n h)) ht ⟨kt, kf⟩)
theorem aw_icmp_ne {I : ax_MI} {x y : Int32} {off : Int} {tg : Nat} (hd : decode I.1 pc = .ok (.if_icmp .ne off, 3)) (ht : (pc : Int) + off = (tg : Int)) (hpc : pc + 3 = pc') (kt : ¬ x = y → nW L xs d I Q tg ls st k n h) (kf : x = y → nW L xs d I Q pc' ls st k n h) : nW L xs d I Q pc ls (.int y :: .int x :: st) k n h := by subst hpc; exact aw_of hd (Or.inl rfl) (aw_t (K := fun t => ax_br (ax_c .ne x y) (nW L xs d I Q t ls st k n h) (nW L xs d I Q (pc + 3) ls st k n h)) ht ⟨kt, (fun z => kf (Classical.not_not.mp z))⟩)
theorem aw_if_ne {I : ax_MI} {x : Int32} {off : Int} {tg : Nat} (hd : decode I.1 pc = .ok (.ifCond .ne off, 3)) (ht : (pc : Int) + off = (tg : Int)) (hpc : pc + 3 = pc') (kt : ¬ x = 0 → nW L xs d I Q tg ls st k n h) (kf : x = 0 → nW L xs d I Q pc' ls st k n h) : nW L xs d I Q pc ls (.int x :: st) k n h := by subst hpc; exact aw_of hd (Or.inl rfl) (aw_t (K := fun t => ax_br (ax_c .ne x 0) (nW L xs d I Q t ls st k n h) (nW L xs d I Q (pc + 3) ls st k n h)) ht ⟨kt, (fun z => kf (Classical.not_not.mp z))⟩)
theorem aw_icmp_lt {I : ax_MI} {x y : Int32} {off : Int} {tg : Nat} (hd : decode I.1 pc = .ok (.if_icmp .lt off, 3)) (ht : (pc : Int) + off = (tg : Int)) (hpc : pc + 3 = pc') (kt : x < y → nW L xs d I Q tg ls st k n h) (kf : ¬ x < y → nW L xs d I Q pc' ls st k n h) : nW L xs d I Q pc ls (.int y :: .int x :: st) k n h := by subst hpc; exact aw_of hd (Or.inl rfl) (aw_t (K := fun t => ax_br (ax_c .lt x y) (nW L xs d I Q t ls st k n h) (nW L xs d I Q (pc + 3) ls st k n h)) ht ⟨kt, kf⟩)
theorem aw_if_lt {I : ax_MI} {x : Int32} {off : Int} {tg : Nat} (hd : decode I.1 pc = .ok (.ifCond .lt off, 3)) (ht : (pc : Int) + off = (tg : Int)) (hpc : pc + 3 = pc') (kt : x < 0 → nW L xs d I Q tg ls st k n h) (kf : ¬ x < 0 → nW L xs d I Q pc' ls st k n h) : nW L xs d I Q pc ls (.int x :: st) k n h := by subst hpc; exact aw_of hd (Or.inl rfl) (aw_t (K := fun t => ax_br (ax_c .lt x 0) (nW L xs d I Q t ls st k n h) (nW L xs d I Q (pc + 3) ls st k n h)) ht ⟨kt, kf⟩)
theorem aw_icmp_ge {I : ax_MI} {x y : Int32} {off : Int} {tg : Nat} (hd : decode I.1 pc = .ok (.if_icmp .ge off, 3)) (ht : (pc : Int) + off = (tg : Int)) (hpc : pc + 3 = pc') (kt : y ≤ x → nW L xs d I Q tg ls st k n h) (kf : ¬ y ≤ x → nW L xs d I Q pc' ls st k n h) : nW L xs d I Q pc ls (.int y :: .int x :: st) k n h := by subst hpc; exact aw_of hd (Or.inl rfl) (aw_t (K := fun t => ax_br (ax_c .ge x y) (nW L xs d I Q t ls st k n h) (nW L xs d I Q (pc + 3) ls st k n h)) ht ⟨kt, kf⟩)
theorem aw_if_ge {I : ax_MI} {x : Int32} {off : Int} {tg : Nat} (hd : decode I.1 pc = .ok (.ifCond .ge off, 3)) (ht : (pc : Int) + off = (tg : Int)) (hpc : pc + 3 = pc') (kt : 0 ≤ x → nW L xs d I Q tg ls st k n h) (kf : ¬ 0 ≤ x → nW L xs d I Q pc' ls st k n h) : nW L xs d I Q pc ls (.int x :: st) k n h := by subst hpc; exact aw_of hd (Or.inl rfl) (aw_t (K := fun t => ax_br (ax_c .ge x 0) (nW L xs d I Q t ls st k n h) (nW L xs d I Q (pc + 3) ls st k n h)) ht ⟨kt, kf⟩)
theorem aw_icmp_gt {I : ax_MI} {x y : Int32} {off : Int} {tg : Nat} (hd : decode I.1 pc = .ok (.if_icmp .gt off, 3)) (ht : (pc : Int) + off = (tg : Int)) (hpc : pc + 3 = pc') (kt : y < x → nW L xs d I Q tg ls st k n h) (kf : ¬ y < x → nW L xs d I Q pc' ls st k n h) : nW L xs d I Q pc ls (.int y :: .int x :: st) k n h := by subst hpc; exact aw_of hd (Or.inl rfl) (aw_t (K := fun t => ax_br (ax_c .gt x y) (nW L xs d I Q t ls st k n h) (nW L xs d I Q (pc + 3) ls st k n h)) ht ⟨kt, kf⟩)
theorem aw_if_gt {I : ax_MI} {x : Int32} {off : Int} {tg : Nat} (hd : decode I.1 pc = .ok (.ifCond .gt off, 3)) (ht : (pc : Int) + off = (tg : Int)) (hpc : pc + 3 = pc') (kt : 0 < x → nW L xs d I Q tg ls st k n h) (kf : ¬ 0 < x → nW L xs d I Q pc' ls st k n h) : nW L xs d I Q pc ls (.int x :: st) k n h := by subst hpc; exact aw_of hd (Or.inl rfl) (aw_t (K := fun t => ax_br (ax_c .gt x 0) (nW L xs d I Q t ls st k n h) (nW L xs d I Q (pc + 3) ls st k n h)) ht ⟨kt, kf⟩)
theorem aw_icmp_le {I : ax_MI} {x y : Int32} {off : Int} {tg : Nat} (hd : decode I.1 pc = .ok (.if_icmp .le off, 3)) (ht : (pc : Int) + off = (tg : Int)) (hpc : pc + 3 = pc') (kt : x ≤ y → nW L xs d I Q tg ls st k n h) (kf : ¬ x ≤ y → nW L xs d I Q pc' ls st k n h) : nW L xs d I Q pc ls (.int y :: .int x :: st) k n h := by subst hpc; exact aw_of hd (Or.inl rfl) (aw_t (K := fun t => ax_br (ax_c .le x y) (nW L xs d I Q t ls st k n h) (nW L xs d I Q (pc + 3) ls st k n h)) ht ⟨kt, kf⟩)
theorem aw_if_le {I : ax_MI} {x : Int32} {off : Int} {tg : Nat} (hd : decode I.1 pc = .ok (.ifCond .le off, 3)) (ht : (pc : Int) + off = (tg : Int)) (hpc : pc + 3 = pc') (kt : x ≤ 0 → nW L xs d I Q tg ls st k n h) (kf : ¬ x ≤ 0 → nW L xs d I Q pc' ls st k n h) : nW L xs d I Q pc ls (.int x :: st) k n h := by subst hpc; exact aw_of hd (Or.inl rfl) (aw_t (K := fun t => ax_br (ax_c .le x 0) (nW L xs d I Q t ls st k n h) (nW L xs d I Q (pc + 3) ls st k n h)) ht ⟨kt, kf⟩)
theorem aw_ifnull {I : ax_MI} {a : Nat} {off : Int} {tg : Nat} (hd : decode I.1 pc = .ok (.ifnull off, 3)) (ht : (pc : Int) + off = (tg : Int)) (hpc : pc + 3 = pc') (kk : nW L xs d I Q pc' ls st k n h) : nW L xs d I Q pc ls (.ref a :: st) k n h := by subst hpc; exact aw_of hd (Or.inl rfl) (aw_t (K := fun t => ax_nu (.ref a :: st) (fun st => nW L xs d I Q t ls st k n h) (fun st => nW L xs d I Q (pc + 3) ls st k n h)) ht kk)
theorem aw_ifnullN {I : ax_MI} {off : Int} {tg : Nat} (hd : decode I.1 pc = .ok (.ifnull off, 3)) (ht : (pc : Int) + off = (tg : Int)) (kk : nW L xs d I Q tg ls st k n h) : nW L xs d I Q pc ls (.null :: st) k n h := aw_of hd (Or.inl rfl) (aw_t (K := fun t => ax_nu (.null :: st) (fun st => nW L xs d I Q t ls st k n h) (fun st => nW L xs d I Q (pc + 3) ls st k n h)) ht kk)
theorem aw_tabIn {I : ax_MI} {df lo hi : Int} {offs : Array Int} {len : Nat} {x : Int32} {off : Int} {tg : Nat} (hd : decode I.1 pc = .ok (.tableswitch df lo hi offs, len)) (h1 : ¬ (x.toInt < lo ∨ hi < x.toInt)) (ho : offs[(x.toInt - lo).toNat]? = some off) (ht : (pc : Int) + off = (tg : Int)) (kk : nW L xs d I Q tg ls st k n h) : nW L xs d I Q pc ls (.int x :: st) k n h := aw_of hd (Or.inr rfl) ⟨fun z => absurd z h1, fun _ => by rw [ho]; exact aw_t (K := fun t => nW L xs d I Q t ls st k n h) ht kk⟩
theorem aw_tabOut {I : ax_MI} {df lo hi : Int} {offs : Array Int} {len : Nat} {x : Int32} {tg : Nat} (hd : decode I.1 pc = .ok (.tableswitch df lo hi offs, len)) (h1 : x.toInt < lo ∨ hi < x.toInt) (ht : (pc : Int) + df = (tg : Int)) (kk : nW L xs d I Q tg ls st k n h) : nW L xs d I Q pc ls (.int x :: st) k n h := aw_of hd (Or.inr rfl) ⟨fun _ => aw_t (K := fun t => nW L xs d I Q t ls st k n h) ht kk, fun z => absurd h1 z⟩
theorem aw_get {I : ax_MI} {idx a ci kf : Nat} {ty : FieldType} {fin : Bool} {v : Value} (hd : decode I.1 pc = .ok (.getfield idx, 3)) (hpc : pc + 3 = pc') (hf : ns_tF I.2.1 idx = some (ci, kf, ty, fin)) (hg : gfv h a ci kf v) (kk : nW L xs d I Q pc' ls (v :: st) k n h) : nW L xs d I Q pc ls (.ref a :: st) k n h := by
  subst hpc
  refine aw_of hd (Or.inl rfl) ?_
  show ax_op (ns_tF I.2.1 idx) _
  rw [hf]
  obtain ⟨fs, g1, g2⟩ := hg
  show ax_gf h a ci kf _
  unfold ax_gf
  rw [g1]
  refine ⟨rfl, ?_⟩
  rw [g2]
  exact kk
theorem aw_put {I : ax_MI} {idx a ci kf : Nat} {ty : FieldType} {v : Value} (hd : decode I.1 pc = .ok (.putfield idx, 3)) (hpc : pc + 3 = pc') (hf : ns_tF I.2.1 idx = some (ci, kf, ty, false)) (hv : ax_ft ty v) (hg : pfv h a ci kf v h') (kk : nW L xs d I Q pc' ls st k n h') : nW L xs d I Q pc ls (v :: .ref a :: st) k n h := by
  subst hpc
  refine aw_of hd (Or.inl rfl) ?_
  show ax_op (ns_tF I.2.1 idx) _
  rw [hf]
  obtain ⟨fs, g1, g2, g3⟩ := hg
  refine ⟨hv, (fun z => by cases z), ?_⟩
  show ax_pf h a ci kf v _
  unfold ax_pf
  rw [g1]
  refine ⟨rfl, g2, ?_⟩
  rw [← g3]
  exact kk
theorem aw_putF {I : ax_MI} {idx a ci kf : Nat} {ty : FieldType} {v : Value} (hd : decode I.1 pc = .ok (.putfield idx, 3)) (hpc : pc + 3 = pc') (hf : ns_tF I.2.1 idx = some (ci, kf, ty, true)) (hini : I.2.2.1 = true ∧ ci = I.2.1) (hv : ax_ft ty v) (hg : pfv h a ci kf v h') (kk : nW L xs d I Q pc' ls st k n h') : nW L xs d I Q pc ls (v :: .ref a :: st) k n h := by
  subst hpc
  refine aw_of hd (Or.inl rfl) ?_
  show ax_op (ns_tF I.2.1 idx) _
  rw [hf]
  obtain ⟨fs, g1, g2, g3⟩ := hg
  refine ⟨hv, fun _ => hini, ?_⟩
  show ax_pf h a ci kf v _
  unfold ax_pf
  rw [g1]
  refine ⟨rfl, g2, ?_⟩
  rw [← g3]
  exact kk
theorem aw_iald {I : ax_MI} {a N : Nat} {f : Nat → Int32} {i : Int32} (hd : decode I.1 pc = .ok (.iaload, 1)) (hpc : pc + 1 = pc') (hg : gav h a .int N f) (j : Nat) (hi : i = nI j) (hj : j < N) (kk : nW L xs d I Q pc' ls (.int (f j) :: st) k n h) : nW L xs d I Q pc ls (.int i :: .ref a :: st) k n h := by
  subst hpc; subst hi
  refine aw_of hd (Or.inl rfl) ?_
  show ax_ga h a .int (nI j) (fun v => nW L xs d I Q (pc + 1) ls (.int v :: st) k n h)
  unfold ax_ga
  rw [hg.1]
  refine ⟨rfl, vp_in_nI hj hg.2, ?_⟩
  rw [nI_clamp (Nat.lt_trans hj hg.2)]
  exact kk
theorem aw_cald {I : ax_MI} {a N : Nat} {f : Nat → Int32} {i : Int32} (hd : decode I.1 pc = .ok (.caload, 1)) (hpc : pc + 1 = pc') (hg : gav h a .char N f) (j : Nat) (hi : i = nI j) (hj : j < N) (kk : nW L xs d I Q pc' ls (.int (f j) :: st) k n h) : nW L xs d I Q pc ls (.int i :: .ref a :: st) k n h := by
  subst hpc; subst hi
  refine aw_of hd (Or.inl rfl) ?_
  show ax_ga h a .char (nI j) (fun v => nW L xs d I Q (pc + 1) ls (.int v :: st) k n h)
  unfold ax_ga
  rw [hg.1]
  refine ⟨rfl, vp_in_nI hj hg.2, ?_⟩
  rw [nI_clamp (Nat.lt_trans hj hg.2)]
  exact kk
theorem aw_bald {I : ax_MI} {a N : Nat} {f : Nat → Int32} {i : Int32} (hd : decode I.1 pc = .ok (.baload, 1)) (hpc : pc + 1 = pc') (hg : gav h a .boolean N f) (j : Nat) (hi : i = nI j) (hj : j < N) (kk : nW L xs d I Q pc' ls (.int (f j) :: st) k n h) : nW L xs d I Q pc ls (.int i :: .ref a :: st) k n h := by
  subst hpc; subst hi
  refine aw_of hd (Or.inl rfl) ?_
  show ax_ga h a .boolean (nI j) (fun v => nW L xs d I Q (pc + 1) ls (.int v :: st) k n h)
  unfold ax_ga
  rw [hg.1]
  refine ⟨rfl, vp_in_nI hj hg.2, ?_⟩
  rw [nI_clamp (Nat.lt_trans hj hg.2)]
  exact kk
theorem aw_lald {I : ax_MI} {a N : Nat} {f : Nat → Int64} {i : Int32} (hd : decode I.1 pc = .ok (.laload, 1)) (hpc : pc + 1 = pc') (hg : glv h a N f) (j : Nat) (hi : i = nI j) (hj : j < N) (kk : nW L xs d I Q pc' ls (.long (f j) :: st) k n h) : nW L xs d I Q pc ls (.int i :: .ref a :: st) k n h := by
  subst hpc; subst hi
  refine aw_of hd (Or.inl rfl) ?_
  show ax_gl h a (nI j) (fun v => nW L xs d I Q (pc + 1) ls (.long v :: st) k n h)
  unfold ax_gl
  rw [hg.1]
  refine ⟨rfl, vp_in_nI hj hg.2, ?_⟩
  rw [nI_clamp (Nat.lt_trans hj hg.2)]
  exact kk
theorem aw_aald {I : ax_MI} {a N : Nat} {C : String} {f : Nat → Option Nat} {i : Int32} (hd : decode I.1 pc = .ok (.aaload, 1)) (hpc : pc + 1 = pc') (hg : h.2 a = some (.inl (.object C, N, .inr (.inr (.inr (.inr f)))))) (hN : N < 2 ^ 31) (j : Nat) (hi : i = nI j) (hj : j < N) (kk : nW L xs d I Q pc' ls (va_rf (f j) :: st) k n h) : nW L xs d I Q pc ls (.int i :: .ref a :: st) k n h := by
  subst hpc; subst hi
  refine aw_of hd (Or.inl rfl) ?_
  show ax_gq h a (nI j) (fun v => nW L xs d I Q (pc + 1) ls (va_rf v :: st) k n h)
  unfold ax_gq
  rw [hg]
  refine ⟨rfl, vp_in_nI hj hN, ?_⟩
  rw [nI_clamp (Nat.lt_trans hj hN)]
  exact kk
theorem aw_sld {I : ax_MI} {i : Int32} (hd : decode I.1 pc = .ok (.iaload, 1)) (hpc : pc + 1 = pc') (hin : vp_in i L) (kk : nW L xs d I Q pc' ls (.int (xs i.toNatClampNeg) :: st) k n h) : nW L xs d I Q pc ls (.int i :: .retAddr 0 :: st) k n h := by subst hpc; exact aw_of hd (Or.inl rfl) ⟨hin, kk⟩
theorem aw_slen {I : ax_MI}  (hd : decode I.1 pc = .ok (.arraylength, 1)) (hpc : pc + 1 = pc') (kk : nW L xs d I Q pc' ls (.int (nI L) :: st) k n h) : nW L xs d I Q pc ls (.retAddr 0 :: st) k n h := by subst hpc; exact aw_of hd (Or.inl rfl) kk
theorem aw_iast {I : ax_MI} {a N : Nat} {i x y : Int32} (hd : decode I.1 pc = .ok (.iastore, 1)) (hpc : pc + 1 = pc') (hy : x = y) (j : Nat) (hi : i = nI j) (hj : j < N) (hg : pav h a .int N j y h') (kk : nW L xs d I Q pc' ls st k n h') : nW L xs d I Q pc ls (.int x :: .int i :: .ref a :: st) k n h := by
  subst hpc; subst hi; subst hy
  refine aw_of hd (Or.inl rfl) ?_
  obtain ⟨f, g1, g2, g3⟩ := hg
  show ax_pa h a .int (nI j) _ _
  unfold ax_pa
  rw [g1]
  refine ⟨rfl, vp_in_nI hj g2, ?_⟩
  rw [nI_clamp (Nat.lt_trans hj g2), ← g3]
  exact kk
theorem aw_cast {I : ax_MI} {a N : Nat} {i x y : Int32} (hd : decode I.1 pc = .ok (.castore, 1)) (hpc : pc + 1 = pc') (hy : (vp_nar .char x) = y) (j : Nat) (hi : i = nI j) (hj : j < N) (hg : pav h a .char N j y h') (kk : nW L xs d I Q pc' ls st k n h') : nW L xs d I Q pc ls (.int x :: .int i :: .ref a :: st) k n h := by
  subst hpc; subst hi; subst hy
  refine aw_of hd (Or.inl rfl) ?_
  obtain ⟨f, g1, g2, g3⟩ := hg
  show ax_pa h a .char (nI j) _ _
  unfold ax_pa
  rw [g1]
  refine ⟨rfl, vp_in_nI hj g2, ?_⟩
  rw [nI_clamp (Nat.lt_trans hj g2), ← g3]
  exact kk
theorem aw_bast {I : ax_MI} {a N : Nat} {i x y : Int32} (hd : decode I.1 pc = .ok (.bastore, 1)) (hpc : pc + 1 = pc') (hy : (vp_nar .boolean x) = y) (j : Nat) (hi : i = nI j) (hj : j < N) (hg : pav h a .boolean N j y h') (kk : nW L xs d I Q pc' ls st k n h') : nW L xs d I Q pc ls (.int x :: .int i :: .ref a :: st) k n h := by
  subst hpc; subst hi; subst hy
  refine aw_of hd (Or.inl rfl) ?_
  obtain ⟨f, g1, g2, g3⟩ := hg
  show ax_pa h a .boolean (nI j) _ _
  unfold ax_pa
  rw [g1]
  refine ⟨rfl, vp_in_nI hj g2, ?_⟩
  rw [nI_clamp (Nat.lt_trans hj g2), ← g3]
  exact kk
theorem aw_last {I : ax_MI} {a N : Nat} {i : Int32} {x : Int64} (hd : decode I.1 pc = .ok (.lastore, 1)) (hpc : pc + 1 = pc') (j : Nat) (hi : i = nI j) (hj : j < N) (hg : plv h a N j x h') (kk : nW L xs d I Q pc' ls st k n h') : nW L xs d I Q pc ls (.long x :: .int i :: .ref a :: st) k n h := by
  subst hpc; subst hi
  refine aw_of hd (Or.inl rfl) ?_
  obtain ⟨f, g1, g2, g3⟩ := hg
  show ax_pl h a (nI j) _ _
  unfold ax_pl
  rw [g1]
  refine ⟨rfl, vp_in_nI hj g2, ?_⟩
  rw [nI_clamp (Nat.lt_trans hj g2), ← g3]
  exact kk
theorem aw_alen {I : ax_MI} {a N : Nat} {t : FieldType} {f : (Nat → Int32) ⊕ (Nat → Int64) ⊕ (Nat → UInt32) ⊕ (Nat → UInt64) ⊕ (Nat → Option Nat)} (hd : decode I.1 pc = .ok (.arraylength, 1)) (hpc : pc + 1 = pc') (hg : h.2 a = some (.inl (t, N, f))) (kk : nW L xs d I Q pc' ls (.int (nI N) :: st) k n h) : nW L xs d I Q pc ls (.ref a :: st) k n h := by
  subst hpc
  refine aw_of hd (Or.inl rfl) ?_
  show ax_al h a _
  unfold ax_al
  rw [hg]
  exact kk
theorem aw_newa {I : ax_MI} {ty : ArrayType} {t : FieldType} {x : Int32} {N : Nat} {a : vp_A} (hd : decode I.1 pc = .ok (.newarray ty, 2)) (hpc : pc + 2 = pc') (hx : x = nI N) (hN : N ≤ 1000) (hk : k + 1 ≤ I.2.2.2.2.2.1) (hn : n + N ≤ I.2.2.2.2.2.2) (ht : newarray.typeOf ty = t) (ha : ax_zero t N = some a) (kk : nW L xs d I Q pc' ls (.ref h.1 :: st) (k + 1) (n + N) (ax_nw h (.inl (t, a)))) : nW L xs d I Q pc ls (.int x :: st) k n h := by
  subst hpc; subst ht; subst hx
  have e : (nI N).toNatClampNeg = N := nI_clamp (by omega)
  refine aw_of hd (Or.inl rfl) ⟨nI_pos (by omega), by rw [e]; exact hN, hk, by rw [e]; exact hn, ?_⟩
  rw [e, ha]
  exact kk
theorem aw_newq {I : ax_MI} {idx ci : Nat} {fs : List Value} {C : String} {x : Int32} {N : Nat} (hd : decode I.1 pc = .ok (.anewarray idx, 3)) (hpc : pc + 3 = pc') (hx : x = nI N) (hN : N ≤ 1000) (hk : k + 1 ≤ I.2.2.2.2.2.1) (hn : n + N ≤ I.2.2.2.2.2.2) (hf : ns_tN I.2.1 idx = some (ci, fs, C)) (hC : ax_kt (.object C) = true) (kk : nW L xs d I Q pc' ls (.ref h.1 :: st) (k + 1) (n + N) (ax_nw h (.inl (.object C, N, .inr (.inr (.inr (.inr (fun _ => none)))))))) : nW L xs d I Q pc ls (.int x :: st) k n h := by
  subst hpc; subst hx
  have e : (nI N).toNatClampNeg = N := nI_clamp (by omega)
  refine aw_of hd (Or.inl rfl) ⟨nI_pos (by omega), by rw [e]; exact hN, hk, by rw [e]; exact hn, ?_⟩
  show ax_op (ns_tN I.2.1 idx) _
  rw [hf, e]
  exact ⟨hC, kk⟩
theorem aw_new {I : ax_MI} {idx ci : Nat} {fs : List Value} {C : String} (hd : decode I.1 pc = .ok (.new idx, 3)) (hpc : pc + 3 = pc') (hf : ns_tN I.2.1 idx = some (ci, fs, C)) (hk : k + 1 ≤ I.2.2.2.2.2.1) (hn : n + fs.length ≤ I.2.2.2.2.2.2) (kk : nW L xs d I Q pc' ls (.ref h.1 :: st) (k + 1) (n + fs.length) (ax_nw h (.inr (ci, fs)))) : nW L xs d I Q pc ls st k n h := by
  subst hpc
  refine aw_of hd (Or.inl rfl) ?_
  show ax_op (ns_tN I.2.1 idx) _
  rw [hf]
  exact ⟨hk, hn, kk⟩
theorem aw_aast {I : ax_MI} {a v N ci : Nat} {t : FieldType} {f : Nat → Option Nat} {vs : List Value} {i : Int32} (hd : decode I.1 pc = .ok (.aastore, 1)) (hpc : pc + 1 = pc') (j : Nat) (hi : i = nI j) (hj : j < N) (hN : N < 2 ^ 31) (hg : h.2 a = some (.inl (t, N, .inr (.inr (.inr (.inr f)))))) (hv : h.2 v = some (.inr (ci, vs))) (ht : (ns_cl[ci]?).map (fun q => FieldType.object q.1) = some t) (kk : nW L xs d I Q pc' ls st k n (ax_up h a (.inl (t, N, .inr (.inr (.inr (.inr (va_up f j (some v))))))))) : nW L xs d I Q pc ls (.ref v :: .int i :: .ref a :: st) k n h := by
  subst hpc; subst hi
  refine aw_of hd (Or.inl rfl) ?_
  show ax_pq ns_cl h a (nI j) v _
  unfold ax_pq
  rw [hg, hv]
  refine ⟨ht, vp_in_nI hj hN, ?_⟩
  rw [nI_clamp (Nat.lt_trans hj hN)]
  exact kk
theorem aw_callS {I : ax_MI} {idx y np mc' ms' ci a : Nat} {as st0 : List Value} (hd : decode I.1 pc = .ok (.invokestatic idx, 3)) (hpc : pc + 3 = pc') (hc : ns_tC I.2.1 idx = some (.inl y, np, mc', ms', ci, 0)) (hs : np ≤ st0.length ∧ (st0.take np).reverse = as ∧ st0.drop np = st) (hw : ax_w8 st) (hk : k + mc' ≤ I.2.2.2.2.2.1) (hn : n + ms' ≤ I.2.2.2.2.2.2) (kk : nM L xs d y as h fun v h' => nW L xs d I Q pc' ls (v.toList ++ st) (k + mc') (n + ms') h') : nW L xs d I Q pc ls st0 k n h := by
  subst hpc
  refine aw_of hd (Or.inl rfl) ?_
  show ax_op (ns_tC I.2.1 idx) _
  rw [hc]
  obtain ⟨h1, h2, h3⟩ := hs
  refine ⟨rfl, h1, ?_⟩
  rw [h2, h3]
  exact ⟨hw, hk, hn, kk⟩
theorem aw_callV {I : ax_MI} {idx y np mc' ms' ci a : Nat} {as st0 : List Value} (hd : decode I.1 pc = .ok (.invokevirtual idx, 3)) (hpc : pc + 3 = pc') (hc : ns_tC I.2.1 idx = some (.inl y, np, mc', ms', ci, 1)) (hs : np ≤ st0.length ∧ (st0.take np).reverse = as ∧ st0.drop np = .ref a :: st) (hio : ax_io h a ci) (hw : ax_w8 st) (hk : k + mc' ≤ I.2.2.2.2.2.1) (hn : n + ms' ≤ I.2.2.2.2.2.2) (kk : nM L xs d y (.ref a :: as) h fun v h' => nW L xs d I Q pc' ls (v.toList ++ st) (k + mc') (n + ms') h') : nW L xs d I Q pc ls st0 k n h := by
  subst hpc
  refine aw_of hd (Or.inl rfl) ?_
  show ax_op (ns_tC I.2.1 idx) _
  rw [hc]
  obtain ⟨h1, h2, h3⟩ := hs
  refine ⟨rfl, h1, ?_⟩
  rw [h2, h3]
  exact ⟨hio, hw, hk, hn, kk⟩
theorem aw_callI {I : ax_MI} {idx y np mc' ms' ci a : Nat} {as st0 : List Value} (hd : decode I.1 pc = .ok (.invokespecial idx, 3)) (hpc : pc + 3 = pc') (hc : ns_tC I.2.1 idx = some (.inl y, np, mc', ms', ci, 2)) (hs : np ≤ st0.length ∧ (st0.take np).reverse = as ∧ st0.drop np = .ref a :: st) (hw : ax_w8 st) (hk : k + mc' ≤ I.2.2.2.2.2.1) (hn : n + ms' ≤ I.2.2.2.2.2.2) (kk : nM L xs d y (.ref a :: as) h fun v h' => nW L xs d I Q pc' ls (v.toList ++ st) (k + mc') (n + ms') h') : nW L xs d I Q pc ls st0 k n h := by
  subst hpc
  refine aw_of hd (Or.inl rfl) ?_
  show ax_op (ns_tC I.2.1 idx) _
  rw [hc]
  obtain ⟨h1, h2, h3⟩ := hs
  refine ⟨rfl, h1, ?_⟩
  rw [h2, h3]
  exact ⟨hw, hk, hn, kk⟩
theorem aw_objInit {I : ax_MI} {idx np mc' ms' ci a : Nat} {x y : Int32} (hd : decode I.1 pc = .ok (.invokespecial idx, 3)) (hpc : pc + 3 = pc') (hc : ns_tC I.2.1 idx = some (.inr 0, np, mc', ms', ci, 2)) (hw : ax_w8 st) (kk : nW L xs d I Q pc' ls st k n h) : nW L xs d I Q pc ls (.ref a :: st) k n h := by
  subst hpc
  refine aw_of hd (Or.inl rfl) ?_
  show ax_op (ns_tC I.2.1 idx) _
  rw [hc]
  exact ⟨rfl, hw, kk⟩
theorem aw_max {I : ax_MI} {idx np mc' ms' ci a : Nat} {x y : Int32} (hd : decode I.1 pc = .ok (.invokestatic idx, 3)) (hpc : pc + 3 = pc') (hc : ns_tC I.2.1 idx = some (.inr 1, np, mc', ms', ci, 0)) (hw : ax_w8 st) (kk : nW L xs d I Q pc' ls (.int (if x < y then y else x) :: st) k n h) : nW L xs d I Q pc ls (.int y :: .int x :: st) k n h := by
  subst hpc
  refine aw_of hd (Or.inl rfl) ?_
  show ax_op (ns_tC I.2.1 idx) _
  rw [hc]
  exact ⟨rfl, hw, kk⟩
theorem aw_min {I : ax_MI} {idx np mc' ms' ci a : Nat} {x y : Int32} (hd : decode I.1 pc = .ok (.invokestatic idx, 3)) (hpc : pc + 3 = pc') (hc : ns_tC I.2.1 idx = some (.inr 2, np, mc', ms', ci, 0)) (hw : ax_w8 st) (kk : nW L xs d I Q pc' ls (.int (if y < x then y else x) :: st) k n h) : nW L xs d I Q pc ls (.int y :: .int x :: st) k n h := by
  subst hpc
  refine aw_of hd (Or.inl rfl) ?_
  show ax_op (ns_tC I.2.1 idx) _
  rw [hc]
  exact ⟨rfl, hw, kk⟩
theorem aw_indexOf {I : ax_MI} {idx np mc' ms' ci : Nat} {x : Int32} (hd : decode I.1 pc = .ok (.invokevirtual idx, 3)) (hpc : pc + 3 = pc') (hc : ns_tC I.2.1 idx = some (.inr 4, np, mc', ms', ci, 1)) (h8 : 8 ≤ d + 1) (hw : ax_w8 st) (kk : nW L xs d I Q pc' ls (.int (ax_ix x) :: st) k n h) : nW L xs d I Q pc ls (.int x :: .retAddr 1 :: st) k n h := by
  subst hpc
  refine aw_of hd (Or.inl rfl) ?_
  show ax_op (ns_tC I.2.1 idx) _
  rw [hc]
  exact ⟨rfl, h8, hw, kk⟩
theorem aw_ireturn {I : ax_MI} {ty : FieldType} {x : Int32} (hd : decode I.1 pc = .ok (.ireturn, 1)) (ht : I.2.2.2.2.1 = some ty) (hn : narrow ty (.int x) = .int x) (hk : k ≤ I.2.2.2.2.2.1) (hs : n ≤ I.2.2.2.2.2.2) (hq : Q (some (.int x)) h) : nW L xs d I Q pc ls [.int x] k n h := by
  refine aw_of hd (Or.inl rfl) ⟨rfl, ?_⟩
  rw [ht]
  exact ⟨hn, hk, hs, hq⟩
theorem aw_lreturn {I : ax_MI} {x : Int64} (hd : decode I.1 pc = .ok (.lreturn, 1)) (ht : I.2.2.2.2.1 = some .long) (hk : k ≤ I.2.2.2.2.2.1) (hs : n ≤ I.2.2.2.2.2.2) (hq : Q (some (.long x)) h) : nW L xs d I Q pc ls [.long x] k n h := aw_of hd (Or.inl rfl) ⟨rfl, ht, hk, hs, hq⟩
theorem aw_return {I : ax_MI} (hd : decode I.1 pc = .ok (.return_, 1)) (ht : I.2.2.2.2.1 = none) (hk : k ≤ I.2.2.2.2.2.1) (hs : n ≤ I.2.2.2.2.2.2) (hq : Q none h) : nW L xs d I Q pc ls [] k n h := aw_of hd (Or.inl rfl) ⟨rfl, ht, hk, hs, hq⟩
end NR
