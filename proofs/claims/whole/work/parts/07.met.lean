/-- a contract out of a walk, for a method that no row of the natives stands for -/
theorem ax_ofW {l : Launch} {y : MethodName} {ws ws' : List Cond} {rm : Room} {Pc : Array Value → State → Prop} {Qc : Array Value → State → Outcome → State → Prop} {mc ms : Nat} {free : Addr → Prop} {cc : ByteArray} {maxL : Nat} {ret : Option FieldType}
    (hy : plainFor y = true) (hw : ws = Cond.code y cc maxL ret :: ws')
    (body : ∀ p e s m args below meth c s₁, BodyLoose p l y (headSpec ws rm) cc maxL ret e s m args below meth c s₁ → c.maxLocals = maxL → Pc args s →
      W p l e (headSpec ws rm).room s m args below meth c s.heap [] 0 0 (MQ below Qc args s mc ms free) (entryFrame m args maxL)) : Met l y ws rm Pc Qc mc ms free := by
  refine MetFree.of_bodySF (code := cc) (maxLocals := maxL) (ret := ret) hy ?_ ?_
  · intro args s m h hn
    obtain ⟨meth, c, h1, h2, h3, h4, h5, h6, -, -⟩ := Cond.code_spec hn (atoms_spec (ws := ws) h _ (by rw [hw]; exact List.mem_cons_self))
    exact ⟨meth, c, h1, h2, h3, h4, h5, h6⟩
  · intro p e s m args below meth c s₁ B hml hP _
    have hh0 : s₁.heap = s.heap := by rw [B.state]; rfl
    obtain ⟨t, a1, o, b1, b2, b3⟩ := body p e s m args below meth c s₁ B hml hP s₁ hh0 (Stand.of_body B)
    exact ⟨t, o, a1, b1, b2, ⟨b3.1, b3.2⟩⟩
section AXT
variable {l : Launch} {cl : List vw_C} {D : va_G} {cT : FieldType → ClassId} {tys : List (ClassId × FieldType)} {rc : Nat → Nat} {A : Nat → Prop} {G : State → Prop} {L : Nat} {xs : Nat → Int32} {tb : ax_Tb} {Tb : List Cond} {cn : Nat → String} {nm : Nat → MethodName} {mt : Nat → Option ax_MI}
/-- the JDK's indexOf in the constant text, wherever it is called -/
def ax_IxOK (l : Launch) (rc : Nat → Nat) (A : Nat → Prop) (G : State → Prop) (tb : ax_Tb) (Tb : List Cond) (cn : Nat → String) : Prop := ∀ (p : Program) (e : Env) (R : Room) (s : State) (m : MethodId) (args : Array Value) (below : List Frame) (meth : Method) (c : Code) (Qs : State → Prop) (I : ax_MI) (d : Nat), p.tables.exec = Jvm.exec → c.code = I.1 → c.maxLocals = I.2.2.2.1 → s.vm.findClass (cn I.2.1) = some m.cls → (∀ w ∈ Tb, w.before args s = true) → G s → (∀ q, s.heap.size ≤ q → A q) → d + 1 ≤ R.frames → 40 * (d + 1) ≤ R.locals →
  ∀ (idx pc : Nat) (ls : Array Slot) (rest : List Value) (ch : Int32) (H : Heap) (locs : List Loc) (cells slots : Nat), 8 ≤ d + 1 → decode I.1 pc = .ok (.invokevirtual idx, 3) → (∃ np mc ms ci, tb.2.1 I.2.1 idx = some (.inr 4, np, mc, ms, ci, 1)) → (rest.map fun v => v.category).sum ≤ 8 → ls.size = I.2.2.2.1 → va_S A s.heap H locs → cells ≤ R.cells → slots ≤ R.slots → (∀ (H1 : Heap) (locs1 : List Loc), H1 = H → locs1 = locs → W p l e R s m args below meth c H1 locs1 cells slots Qs (F0 m (pc + 3) ls (.int (ax_ix ch) :: rest))) → W p l e R s m args below meth c H locs cells slots Qs (F0 m pc ls (.int ch :: .ref (rc 1) :: rest))
/-- what the abstract machine says of a call, the machine does -/
theorem ax_met (hcn : ∀ (ci : Nat) (r : vw_C), cl[ci]? = some r → r.1 = cn ci) (hF : ax_okF cl Tb cn tb) (hN : ax_okN cl Tb cn tb G) (hKo : ax_okK Tb cn tb rc G) (hC : ax_okC Tb cn nm tb mt) (hM : ax_okM cn nm mt) (hAr : ax_okA Tb cT tys) (hG : ax_okG A G rc L xs) (hgood : GoodIn Tb Tb) (hIx : ax_IxOK l rc A G tb Tb cn) :
    ∀ (d y : Nat) (I : ax_MI) (av : List Value) (h : ax_H) (Q : ax_Q), mt y = some I → ax_M cl L xs tb mt d y av h Q → ax_hw h → ax_ak h → (∀ v ∈ av, ax_vw h.1 v) → ∀ ad, Met l (nm y) (Cond.code (nm y) I.1 I.2.2.2.1 I.2.2.2.2.1 :: Tb) (ax_rm d I.2.2.2.2.2.1 I.2.2.2.2.2.2) (ax_Pc cl D cT tys rc A G ad av h) (ax_Qc cl D cT rc A ad h Q) I.2.2.2.2.2.1 I.2.2.2.2.2.2 A := by
  intro d
  induction d with
  | zero => intro y I av h Q _ hm; exact hm.elim
  | succ d ih =>
    intro y I av h Q hy hm hw hak hav ad
    obtain ⟨I', hI', hlen, hwp⟩ := ax_op_of hm
    obtain rfl : I' = I := Option.some.inj (hI'.symm.trans hy)
    refine ax_ofW (cc := I'.1) (maxL := I'.2.2.2.1) (ret := I'.2.2.2.2.1) (hM y I' hy).1 rfl ?_
    intro p e s m args below meth c s₁ B hml hv
    obtain ⟨rfl, hA, hP, hK, hD, hGs⟩ := hv
    have hx := B.exec
    have hb := B.bytes
    have hr := B.returns
    have hts0 := atoms_spec (ws := Cond.code (nm y) I'.1 I'.2.2.2.1 I'.2.2.2.2.1 :: Tb) B.pre
    have hts := fun w hw2 => hts0 w (List.mem_cons_of_mem _ hw2)
    have hown : s.vm.findClass (cn I'.2.1) = some m.cls := by
      rw [← (hM y I' hy).2.1]
      exact findClass_of_methodNamed B.named
    have hlocks := B.notSynchronized
    have hin0 : I'.2.2.1 = true → meth.name = "<init>" := fun z => (name_of_methodNamed B.named B.method).1.trans ((hM y I' hy).2.2.1 z)
    rw [lg_entry_eq]
    have key := hwp (fun pc ls st k n h' => ∀ ad' lsA H locs, h.1 ≤ h'.1 → (∀ i, i < h.1 → ad' i = ad i) → k ≤ I'.2.2.2.2.2.1 → n ≤ I'.2.2.2.2.2.2 → ax_hw h' → ax_ak h' → (∀ v ∈ st, ax_vw h'.1 v) → ax_lw h'.1 ls → ax_lm ad' rc lsA I'.2.2.2.1 ls → va_P D cl (ax_w ad' rc cT h') H → va_D A (ax_w ad' rc cT h') → va_S A s.heap H locs → W p l e (headSpec (Cond.code (nm y) I'.1 I'.2.2.2.1 I'.2.2.2.2.1 :: Tb) (ax_rm (d + 1) I'.2.2.2.2.2.1 I'.2.2.2.2.2.2)).room s m (av.map (ax_v ad rc)).toArray below meth c H locs k n (MQ below (ax_Qc cl D cT rc A ad h Q) (av.map (ax_v ad rc)).toArray s I'.2.2.2.2.2.1 I'.2.2.2.2.2.2 A) (F0 m pc lsA (st.map (ax_v ad' rc))))
      (ax_one (d := d) (I := I') (Q := Q) (h0 := h) (ad0 := ad) (D := D) (cT := cT) (tys := tys) (rc := rc) (A := A) (G := G) (Tb := Tb) (cn := cn) (nm := nm) hcn hF hN hKo hC hM hAr hG hgood hx hb hml hown hin0 hts hK hGs hA (Nat.le_refl _) (Nat.le_refl _) (Nat.le_refl _) (Nat.le_refl _) (hIx p e _ s m _ below meth c _ I' d hx hb hml hown hts hGs hA (Nat.le_refl _) (Nat.le_refl _)) ih ?_ (fun _ _ _ _ _ _ z => z) (fun z => z))
    · exact key ad _ s.heap [] (Nat.le_refl _) (fun _ _ => rfl) (Nat.zero_le _) (Nat.zero_le _) hw hak (fun v hv => by cases hv) (ax_en_lw hav) (ax_en_lm ad rc hlen) hP hD va_S.rf
    · intro i pc lsA ad' h' H locs k n v hd hi hq b1 b2 b3 b4 b5 hP1 hD1 hS1 hk hn
      have fin : ∀ t : State, t.heap = H → ax_Qc cl D cT rc A ad h Q (av.map (ax_v ad rc)).toArray s (.returned (v.map (ax_v ad' rc))) t := fun t ht => ⟨⟨v, h', ad', rfl, hq, b1, b2, b3, b4, b5, by rw [ht]; exact hP1, hD1⟩, hS1.F ht⟩
      refine W.widen hk hn ?_
      rcases hi with ⟨rfl, x, ty, rfl, hty, hnar⟩ | ⟨rfl, ⟨x, rfl⟩, hty⟩ | ⟨rfl, rfl, hty⟩
      · exact W.zret hx hb (hr.trans hty) hnar (fun t ht _ => fin t ht) hS1.2.2 hd
      · exact W.lret hx hb (hr.trans hty) (fun t ht _ => fin t ht) hS1.2.2 hd
      · exact W.vret hx hb (hr.trans hty) (fun t ht _ => fin t ht) hS1.2.2 hd
end AXT
