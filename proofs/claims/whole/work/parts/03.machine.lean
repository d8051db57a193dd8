/-! The abstract machine: the same bytecode over cells by number. A value '.ref i' is cell number i; '.retAddr 0' the script, '.retAddr 1' .. constants that are never written. -/
abbrev ax_E : Type := (FieldType × vp_A) ⊕ (Nat × List Value)
abbrev ax_H : Type := Nat × (Nat → Option ax_E)
def ax_up (h : ax_H) (a : Nat) (e : ax_E) : ax_H := (h.1, fun i => if i = a then some e else h.2 i)
def ax_nw (h : ax_H) (e : ax_E) : ax_H := (h.1 + 1, fun i => if i = h.1 then some e else h.2 i)
def ax_i (st : List Value) (K : Int32 → List Value → Prop) : Prop := match st with
  | .int x :: r => K x r
  | _ => False
def ax_l (st : List Value) (K : Int64 → List Value → Prop) : Prop := match st with
  | .long x :: r => K x r
  | _ => False
def ax_r (st : List Value) (K : Nat → List Value → Prop) : Prop := match st with
  | .ref x :: r => K x r
  | _ => False
def ax_isa : Value → Bool
  | .ref _ => true
  | .null => true
  | .retAddr _ => true
  | _ => false
def ax_c1 : Value → Bool
  | .long _ => false
  | .double _ => false
  | _ => true
def ax_1 (st : List Value) (K : Value → List Value → Prop) : Prop := match st with
  | v :: r => ax_c1 v = true ∧ K v r
  | _ => False
def ax_1' (st : List Value) (K : Value → List Value → Prop) : Prop := match st with
  | v :: r => K v r
  | _ => False
def ax_ld (ls : List (Option Value)) (i : Nat) (K : Value → Prop) : Prop := match ls[i]? with
  | some (some v) => K v
  | _ => False
def ax_vi (v : Value) (K : Int32 → Prop) : Prop := match v with
  | .int x => K x
  | _ => False
def ax_vl (v : Value) (K : Int64 → Prop) : Prop := match v with
  | .long x => K x
  | _ => False
def ax_kl : Option Value → Option Value
  | some (.long _) => none
  | some (.double _) => none
  | o => o
def ax_s1 (ls : List (Option Value)) (i : Nat) (v : Value) : List (Option Value) := match i with
  | 0 => ls.set 0 (some v)
  | j + 1 => (ls.modify j ax_kl).set (j + 1) (some v)
def ax_s2 (ls : List (Option Value)) (i : Nat) (v : Value) : List (Option Value) := (ax_s1 ls i v).set (i + 1) none
def ax_t (pc : Nat) (off : Int) (K : Nat → Prop) : Prop := 0 ≤ (pc : Int) + off ∧ K ((pc : Int) + off).toNat
def ax_c (cond : Jvm.ClassFile.Cond) (x y : Int32) : Prop := match cond with
  | .eq => x = y
  | .ne => ¬ x = y
  | .lt => x < y
  | .ge => y ≤ x
  | .gt => y < x
  | .le => x ≤ y
def ax_br (c A B : Prop) : Prop := (c → A) ∧ (¬ c → B)
/-- an object's field -/
def ax_gf (h : ax_H) (a ci kf : Nat) (K : Value → Prop) : Prop := match h.2 a with
  | some (.inr (c', fs)) => c' = ci ∧ match fs[kf]? with
    | some v => K v
    | none => False
  | _ => False
def ax_pf (h : ax_H) (a ci kf : Nat) (v : Value) (K : ax_H → Prop) : Prop := match h.2 a with
  | some (.inr (c', fs)) => c' = ci ∧ kf < fs.length ∧ K (ax_up h a (.inr (c', fs.set kf v)))
  | _ => False
/-- a value that a field, or an answer, of this type may hold as it is -/
def ax_ft (ty : FieldType) (v : Value) : Prop := match ty, v with
  | .int, .int _ => True
  | .long, .long _ => True
  | .boolean, .int x => x = 0 ∨ x = 1
  | .object _, .ref _ => True
  | .object _, .null => True
  | .array _, .ref _ => True
  | .array _, .null => True
  | _, _ => False
def ax_ga (h : ax_H) (a : Nat) (ty : FieldType) (i : Int32) (K : Int32 → Prop) : Prop := match h.2 a with
  | some (.inl (t, n, .inl f)) => t = ty ∧ vp_in i n ∧ K (f i.toNatClampNeg)
  | _ => False
def ax_gl (h : ax_H) (a : Nat) (i : Int32) (K : Int64 → Prop) : Prop := match h.2 a with
  | some (.inl (t, n, .inr (.inl f))) => t = .long ∧ vp_in i n ∧ K (f i.toNatClampNeg)
  | _ => False
def ax_isO : FieldType → Bool
  | .object _ => true
  | _ => false
def ax_gq (h : ax_H) (a : Nat) (i : Int32) (K : Option Nat → Prop) : Prop := match h.2 a with
  | some (.inl (t, n, .inr (.inr (.inr (.inr f))))) => ax_isO t = true ∧ vp_in i n ∧ K (f i.toNatClampNeg)
  | _ => False
def ax_pa (h : ax_H) (a : Nat) (ty : FieldType) (i x : Int32) (K : ax_H → Prop) : Prop := match h.2 a with
  | some (.inl (t, n, .inl f)) => t = ty ∧ vp_in i n ∧ K (ax_up h a (.inl (t, n, .inl (upd f i.toNatClampNeg x))))
  | _ => False
def ax_pl (h : ax_H) (a : Nat) (i : Int32) (x : Int64) (K : ax_H → Prop) : Prop := match h.2 a with
  | some (.inl (t, n, .inr (.inl f))) => t = .long ∧ vp_in i n ∧ K (ax_up h a (.inl (t, n, .inr (.inl (vp_updL f i.toNatClampNeg x)))))
  | _ => False
/-- an object into an array of its class: cl names the classes -/
def ax_pq (cl : List vw_C) (h : ax_H) (a : Nat) (i : Int32) (v : Nat) (K : ax_H → Prop) : Prop := match h.2 a, h.2 v with
  | some (.inl (t, n, .inr (.inr (.inr (.inr f))))), some (.inr (ci, _)) => (cl[ci]?).map (fun q => FieldType.object q.1) = some t ∧ vp_in i n ∧ K (ax_up h a (.inl (t, n, .inr (.inr (.inr (.inr (va_up f i.toNatClampNeg (some v))))))))
  | _, _ => False
def ax_al (h : ax_H) (a : Nat) (K : Nat → Prop) : Prop := match h.2 a with
  | some (.inl (_, n, _)) => K n
  | _ => False
def ax_io (h : ax_H) (a ci : Nat) : Prop := match h.2 a with
  | some (.inr (c', _)) => c' = ci
  | _ => False
def ax_zero (ty : FieldType) (n : Nat) : Option vp_A := match ty with
  | .int => some (n, .inl (fun _ => 0))
  | .char => some (n, .inl (fun _ => 0))
  | .boolean => some (n, .inl (fun _ => 0))
  | .long => some (n, .inr (.inl (fun _ => 0)))
  | _ => none
def ax_w8 (st : List Value) : Prop := (st.map fun v => v.category).sum ≤ 8
/-- a field by its place in a class file's pool: (class's number, the field's number, its type, final) -/
abbrev ax_TF : Type := Nat → Nat → Option (Nat × Nat × FieldType × Bool)
/-- a call: (method or one of the JDK's, parameters, cells, slots, the class's number, kind: 0 static, 1 virtual, 2 special) -/
abbrev ax_TC : Type := Nat → Nat → Option ((Nat ⊕ Nat) × Nat × Nat × Nat × Nat × Nat)
/-- a constant -/
abbrev ax_TK : Type := Nat → Nat → Option Value
/-- a class to be made, or an array's element class: (its number, its fields at the start, its name) -/
abbrev ax_TN : Type := Nat → Nat → Option (Nat × List Value × String)
def ax_kt : FieldType → Bool
  | .int => true
  | .char => true
  | .boolean => true
  | .long => true
  | .object C => C == "NoteSheet$Cell"
  | _ => false
abbrev ax_Tb : Type := ax_TF × ax_TC × ax_TK × ax_TN
def ax_len : Instr → Nat
  | .bipush _ | .ldc _ | .iload _ | .lload _ | .aload _ | .istore _ | .lstore _ | .astore _ | .newarray _ => 2
  | .sipush _ | .ldc2_w _ | .iinc _ _ | .if_icmp _ _ | .ifCond _ _ | .ifnull _ | .ifnonnull _ | .goto _ | .getfield _ | .putfield _ | .anewarray _ | .new _ | .invokevirtual _ | .invokespecial _ | .invokestatic _ => 3
  | .tableswitch _ _ _ _ | .lookupswitch _ _ => 0
  | _ => 1
def ax_op {α : Type} (o : Option α) (K : α → Prop) : Prop := match o with
  | some a => K a
  | none => False
def ax_sl {α β : Type} (q : α ⊕ β) (K : α → Prop) : Prop := match q with
  | .inl a => K a
  | .inr _ => False
def ax_sr {α β : Type} (q : α ⊕ β) (K : β → Prop) : Prop := match q with
  | .inl _ => False
  | .inr a => K a
def ax_sm {α β : Type} (q : α ⊕ β) (K : α → Prop) (K1 : β → Prop) : Prop := match q with
  | .inl a => K a
  | .inr a => K1 a
def ax_ki : Value → Bool
  | .int _ => true
  | .retAddr 1 => true
  | _ => false
/-- the script, or a cell -/
def ax_sc (st : List Value) (K0 : List Value → Prop) (K : Nat → List Value → Prop) : Prop := match st with
  | .retAddr 0 :: r => K0 r
  | .ref a :: r => K a r
  | _ => False
def ax_nu (st : List Value) (K0 K : List Value → Prop) : Prop := match st with
  | .null :: r => K0 r
  | .ref _ :: r => K r
  | _ => False
abbrev ax_P : Type := Nat → List (Option Value) → List Value → Nat → Nat → ax_H → Prop
abbrev ax_Q : Type := Option Value → ax_H → Prop
abbrev ax_MT : Type := Nat → List Value → ax_H → ax_Q → Prop
/-- where a character stands in the constant text "?:<=+-*()@", or -1 -/
def ax_ix (c : Int32) : Int32 := if c = 63 then 0 else if c = 58 then 1 else if c = 60 then 2 else if c = 61 then 3 else if c = 43 then 4 else if c = 45 then 5 else if c = 42 then 6 else if c = 40 then 7 else if c = 41 then 8 else if c = 64 then 9 else -1
def ax_cp (h : ax_H) (st : List Value) (K : List Value → ax_H → Prop) : Prop := match st with
  | .int n :: .int dp :: .ref a :: .int sp :: .ref b :: r => match h.2 b, h.2 a with
    | some (.inl (t0, n0, .inl f)), some (.inl (t1, n1, .inl g)) => t0 = t1 ∧ refKind t1 = false ∧ ¬ sp < 0 ∧ ¬ dp < 0 ∧ ¬ n < 0 ∧ sp.toNatClampNeg + n.toNatClampNeg ≤ n0 ∧ dp.toNatClampNeg + n.toNatClampNeg ≤ n1 ∧ (∀ i, i < n.toNatClampNeg → fits t1 (.int (f (sp.toNatClampNeg + i))) = true) ∧ ax_w8 r ∧ K r (ax_up h a (.inl (t1, n1, .inl (va_cpy f g sp.toNatClampNeg dp.toNatClampNeg n.toNatClampNeg))))
    | _, _ => False
  | _ => False
/-- the JDK's own: 0 Object(), 1 max, 2 min, 4 indexOf in the constant text, 5 arraycopy -/
def ax_prim (d : Nat) (h : ax_H) (y : Nat) (st : List Value) (K : List Value → ax_H → Prop) : Prop := match y with
  | 0 => ax_r st fun _ st => ax_w8 st ∧ K st h
  | 1 => ax_i st fun b st => ax_i st fun a st => ax_w8 st ∧ K (.int (if a < b then b else a) :: st) h
  | 2 => ax_i st fun b st => ax_i st fun a st => ax_w8 st ∧ K (.int (if b < a then b else a) :: st) h
  | 4 => ax_i st fun ch st => match st with
    | .retAddr 1 :: st => 8 ≤ d ∧ ax_w8 st ∧ K (.int (ax_ix ch) :: st) h
    | _ => False
  | 5 => ax_cp h st K
  | _ => False
def ax_tk (np : Nat) (st : List Value) (K : List Value → List Value → Prop) : Prop := np ≤ st.length ∧ K (st.take np).reverse (st.drop np)
/-- one instruction: what must hold so that the machine comes to Q; P: where it goes on, PC: behind a call -/
def ax_ins (cl : List vw_C) (L : Nat) (xs : Nat → Int32) (tb : ax_Tb) (d co : Nat) (ini : Bool) (rt : Option FieldType) (mc ms : Nat) (M : ax_MT) (Q : ax_Q) (P PC : ax_P) (pc : Nat) (ls : List (Option Value)) (st : List Value) (k n : Nat) (h : ax_H) (i : Instr) : Prop := match i with
  | .iconst v => P (pc + 1) ls (.int (Int32.ofInt v) :: st) k n h
  | .bipush v => P (pc + 2) ls (.int (Int8.ofInt v).toInt32 :: st) k n h
  | .sipush v => P (pc + 3) ls (.int (Int16.ofInt v).toInt32 :: st) k n h
  | .lconst v => P (pc + 1) ls (.long (Int64.ofNat (v : Nat)) :: st) k n h
  | .aconst_null => P (pc + 1) ls (.null :: st) k n h
  | .ldc idx => ax_op (tb.2.2.1 co idx) fun v => ax_ki v = true ∧ P (pc + 2) ls (v :: st) k n h
  | .ldc2_w idx => ax_op (tb.2.2.1 co idx) fun v => ax_vl v fun x => P (pc + 3) ls (.long x :: st) k n h
  | .iload j => ax_ld ls j fun v => ax_vi v fun x => P (pc + 2) ls (.int x :: st) k n h
  | .iload_n j => ax_ld ls j fun v => ax_vi v fun x => P (pc + 1) ls (.int x :: st) k n h
  | .lload j => ax_ld ls j fun v => ax_vl v fun x => P (pc + 2) ls (.long x :: st) k n h
  | .lload_n j => ax_ld ls j fun v => ax_vl v fun x => P (pc + 1) ls (.long x :: st) k n h
  | .aload j => ax_ld ls j fun v => ax_isa v = true ∧ P (pc + 2) ls (v :: st) k n h
  | .aload_n j => ax_ld ls j fun v => ax_isa v = true ∧ P (pc + 1) ls (v :: st) k n h
  | .istore j => ax_i st fun x st => j < ls.length ∧ P (pc + 2) (ax_s1 ls j (.int x)) st k n h
  | .istore_n j => ax_i st fun x st => (j : Nat) < ls.length ∧ P (pc + 1) (ax_s1 ls j (.int x)) st k n h
  | .lstore j => ax_l st fun x st => j + 1 < ls.length ∧ P (pc + 2) (ax_s2 ls j (.long x)) st k n h
  | .lstore_n j => ax_l st fun x st => (j : Nat) + 1 < ls.length ∧ P (pc + 1) (ax_s2 ls j (.long x)) st k n h
  | .astore j => ax_1 st fun v st => ax_isa v = true ∧ j < ls.length ∧ P (pc + 2) (ax_s1 ls j v) st k n h
  | .astore_n j => ax_1 st fun v st => ax_isa v = true ∧ (j : Nat) < ls.length ∧ P (pc + 1) (ax_s1 ls j v) st k n h
  | .iinc j v => ax_ld ls j fun w => ax_vi w fun x => P (pc + 3) (ax_s1 ls j (.int (x + Int32.ofInt v))) st k n h
  | .iadd => ax_i st fun y st => ax_i st fun x st => P (pc + 1) ls (.int (x + y) :: st) k n h
  | .isub => ax_i st fun y st => ax_i st fun x st => P (pc + 1) ls (.int (x - y) :: st) k n h
  | .imul => ax_i st fun y st => ax_i st fun x st => P (pc + 1) ls (.int (x * y) :: st) k n h
  | .iand => ax_i st fun y st => ax_i st fun x st => P (pc + 1) ls (.int (x &&& y) :: st) k n h
  | .ixor => ax_i st fun y st => ax_i st fun x st => P (pc + 1) ls (.int (x ^^^ y) :: st) k n h
  | .idiv => ax_i st fun y st => ax_i st fun x st => ¬ y = 0 ∧ P (pc + 1) ls (.int (x / y) :: st) k n h
  | .irem => ax_i st fun y st => ax_i st fun x st => ¬ y = 0 ∧ P (pc + 1) ls (.int (x - x / y * y) :: st) k n h
  | .ineg => ax_i st fun x st => P (pc + 1) ls (.int (-x) :: st) k n h
  | .i2l => ax_i st fun x st => P (pc + 1) ls (.long x.toInt64 :: st) k n h
  | .l2i => ax_l st fun x st => P (pc + 1) ls (.int x.toInt32 :: st) k n h
  | .i2c => ax_i st fun x st => P (pc + 1) ls (.int (x.toUInt32 % 65536).toInt32 :: st) k n h
  | .lcmp => ax_l st fun y st => ax_l st fun x st => P (pc + 1) ls (.int (lg_cmp x y) :: st) k n h
  | .dup => ax_1 st fun v st => P (pc + 1) ls (v :: v :: st) k n h
  | .pop => ax_1 st fun _ st => P (pc + 1) ls st k n h
  | .dup_x1 => ax_1 st fun v st => ax_1 st fun w st => P (pc + 1) ls (v :: w :: v :: st) k n h
  | .dup_x2 => ax_1 st fun v st => ax_1 st fun w st => ax_1 st fun u st => P (pc + 1) ls (v :: w :: u :: v :: st) k n h
  | .dup2 => ax_1 st fun v st => ax_1 st fun w st => P (pc + 1) ls (v :: w :: v :: w :: st) k n h
  | .goto off => ax_t pc off fun t => P t ls st k n h
  | .if_icmp cd off => ax_i st fun y st => ax_i st fun x st => ax_t pc off fun t => ax_br (ax_c cd x y) (P t ls st k n h) (P (pc + 3) ls st k n h)
  | .ifCond cd off => ax_i st fun x st => ax_t pc off fun t => ax_br (ax_c cd x 0) (P t ls st k n h) (P (pc + 3) ls st k n h)
  | .ifnull off => ax_t pc off fun t => ax_nu st (fun st => P t ls st k n h) (fun st => P (pc + 3) ls st k n h)
  | .ifnonnull off => ax_t pc off fun t => ax_nu st (fun st => P (pc + 3) ls st k n h) (fun st => P t ls st k n h)
  | .tableswitch df lo hi offs => ax_i st fun x st => ax_br (x.toInt < lo ∨ hi < x.toInt) (ax_t pc df fun t => P t ls st k n h) (ax_op offs[(x.toInt - lo).toNat]? fun off => ax_t pc off fun t => P t ls st k n h)
  | .lookupswitch df ps => ax_i st fun x st => (ps.toList.zip (ps.toList.drop 1)).all (fun (a, next) => a.1 < next.1) = true ∧ ax_t pc (Op.lookupswitch.offset ps.toList df x.toInt) fun t => P t ls st k n h
  | .getfield idx => ax_op (tb.1 co idx) fun q => ax_r st fun a st => ax_gf h a q.1 q.2.1 fun v => P (pc + 3) ls (v :: st) k n h
  | .putfield idx => ax_op (tb.1 co idx) fun q => ax_1' st fun v st => ax_ft q.2.2.1 v ∧ (q.2.2.2 = true → ini = true ∧ q.1 = co) ∧ ax_r st fun a st => ax_pf h a q.1 q.2.1 v fun h => P (pc + 3) ls st k n h
  | .iaload => ax_i st fun i st => ax_sc st (fun st => vp_in i L ∧ P (pc + 1) ls (.int (xs i.toNatClampNeg) :: st) k n h) fun a st => ax_ga h a .int i fun v => P (pc + 1) ls (.int v :: st) k n h
  | .caload => ax_i st fun i st => ax_r st fun a st => ax_ga h a .char i fun v => P (pc + 1) ls (.int v :: st) k n h
  | .baload => ax_i st fun i st => ax_r st fun a st => ax_ga h a .boolean i fun v => P (pc + 1) ls (.int v :: st) k n h
  | .laload => ax_i st fun i st => ax_r st fun a st => ax_gl h a i fun v => P (pc + 1) ls (.long v :: st) k n h
  | .aaload => ax_i st fun i st => ax_r st fun a st => ax_gq h a i fun v => P (pc + 1) ls (va_rf v :: st) k n h
  | .iastore => ax_i st fun x st => ax_i st fun i st => ax_r st fun a st => ax_pa h a .int i x fun h => P (pc + 1) ls st k n h
  | .castore => ax_i st fun x st => ax_i st fun i st => ax_r st fun a st => ax_pa h a .char i (vp_nar .char x) fun h => P (pc + 1) ls st k n h
  | .bastore => ax_i st fun x st => ax_i st fun i st => ax_r st fun a st => ax_pa h a .boolean i (vp_nar .boolean x) fun h => P (pc + 1) ls st k n h
  | .lastore => ax_l st fun x st => ax_i st fun i st => ax_r st fun a st => ax_pl h a i x fun h => P (pc + 1) ls st k n h
  | .aastore => ax_r st fun v st => ax_i st fun i st => ax_r st fun a st => ax_pq cl h a i v fun h => P (pc + 1) ls st k n h
  | .arraylength => ax_sc st (fun st => P (pc + 1) ls (.int (Int32.ofNat L) :: st) k n h) fun a st => ax_al h a fun z => P (pc + 1) ls (.int (Int32.ofNat z) :: st) k n h
  | .newarray ty => ax_i st fun x st => ¬ x < 0 ∧ x.toNatClampNeg ≤ 1000 ∧ k + 1 ≤ mc ∧ n + x.toNatClampNeg ≤ ms ∧ ax_op (ax_zero (newarray.typeOf ty) x.toNatClampNeg) fun a => P (pc + 2) ls (.ref h.1 :: st) (k + 1) (n + x.toNatClampNeg) (ax_nw h (.inl (newarray.typeOf ty, a)))
  | .anewarray idx => ax_i st fun x st => ¬ x < 0 ∧ x.toNatClampNeg ≤ 1000 ∧ k + 1 ≤ mc ∧ n + x.toNatClampNeg ≤ ms ∧ ax_op (tb.2.2.2 co idx) fun q => ax_kt (.object q.2.2) = true ∧ P (pc + 3) ls (.ref h.1 :: st) (k + 1) (n + x.toNatClampNeg) (ax_nw h (.inl (.object q.2.2, x.toNatClampNeg, .inr (.inr (.inr (.inr (fun _ => none)))))))
  | .new idx => ax_op (tb.2.2.2 co idx) fun q => k + 1 ≤ mc ∧ n + q.2.1.length ≤ ms ∧ P (pc + 3) ls (.ref h.1 :: st) (k + 1) (n + q.2.1.length) (ax_nw h (.inr (q.1, q.2.1)))
  | .invokevirtual idx => ax_op (tb.2.1 co idx) fun q => ax_sm q.1 (fun y => q.2.2.2.2.2 = 1 ∧ ax_tk q.2.1 st fun as st => ax_r st fun a st => ax_io h a q.2.2.2.2.1 ∧ ax_w8 st ∧ k + q.2.2.1 ≤ mc ∧ n + q.2.2.2.1 ≤ ms ∧ M y (.ref a :: as) h fun v h => PC (pc + 3) ls (v.toList ++ st) (k + q.2.2.1) (n + q.2.2.2.1) h) fun y => q.2.2.2.2.2 = 1 ∧ ax_prim d h y st fun st h => P (pc + 3) ls st k n h
  | .invokespecial idx => ax_op (tb.2.1 co idx) fun q => ax_sm q.1 (fun y => q.2.2.2.2.2 = 2 ∧ ax_tk q.2.1 st fun as st => ax_r st fun a st => ax_w8 st ∧ k + q.2.2.1 ≤ mc ∧ n + q.2.2.2.1 ≤ ms ∧ M y (.ref a :: as) h fun v h => PC (pc + 3) ls (v.toList ++ st) (k + q.2.2.1) (n + q.2.2.2.1) h) fun y => q.2.2.2.2.2 = 2 ∧ ax_prim d h y st fun st h => P (pc + 3) ls st k n h
  | .invokestatic idx => ax_op (tb.2.1 co idx) fun q => ax_sm q.1 (fun y => q.2.2.2.2.2 = 0 ∧ ax_tk q.2.1 st fun as st => ax_w8 st ∧ k + q.2.2.1 ≤ mc ∧ n + q.2.2.2.1 ≤ ms ∧ M y as h fun v h => PC (pc + 3) ls (v.toList ++ st) (k + q.2.2.1) (n + q.2.2.2.1) h) fun y => q.2.2.2.2.2 = 0 ∧ ax_prim d h y st fun st h => P (pc + 3) ls st k n h
  | .ireturn => ax_i st fun v r => r = [] ∧ ax_op rt fun ty => narrow ty (.int v) = .int v ∧ k ≤ mc ∧ n ≤ ms ∧ Q (some (.int v)) h
  | .lreturn => ax_l st fun v r => r = [] ∧ rt = some .long ∧ k ≤ mc ∧ n ≤ ms ∧ Q (some (.long v)) h
  | .return_ => st = [] ∧ rt = none ∧ k ≤ mc ∧ n ≤ ms ∧ Q none h
  | _ => False
/-- a method: its code, its class's number, whether it is a constructor, its locals, its answer's type, the cells and slots that it makes -/
abbrev ax_MI : Type := ByteArray × Nat × Bool × Nat × Option FieldType × Nat × Nat
def ax_step (cl : List vw_C) (L : Nat) (xs : Nat → Int32) (tb : ax_Tb) (d : Nat) (I : ax_MI) (M : ax_MT) (Q : ax_Q) (P PC : ax_P) : ax_P := fun pc ls st k n h => match decode I.1 pc with
  | .ok (i, len) => (len = ax_len i ∨ ax_len i = 0) ∧ ax_ins cl L xs tb d I.2.1 I.2.2.1 I.2.2.2.2.1 I.2.2.2.2.2.1 I.2.2.2.2.2.2 M Q P PC pc ls st k n h i
  | .error _ => False
/-- the machine comes from here to Q -/
def ax_W (cl : List vw_C) (L : Nat) (xs : Nat → Int32) (tb : ax_Tb) (d : Nat) (I : ax_MI) (M : ax_MT) (Q : ax_Q) : ax_P := fun pc ls st k n h =>
  ∀ P : ax_P, (∀ pc ls st k n h, ax_step cl L xs tb d I M Q P P pc ls st k n h → P pc ls st k n h) → P pc ls st k n h
def ax_el : List Value → List (Option Value)
  | [] => []
  | v :: vs => if ax_c1 v = true then some v :: ax_el vs else some v :: none :: ax_el vs
def ax_en (ml : Nat) (args : List Value) : List (Option Value) := ax_el args ++ List.replicate (ml - (ax_el args).length) none
/-- a call at most d deep -/
def ax_M (cl : List vw_C) (L : Nat) (xs : Nat → Int32) (tb : ax_Tb) (mt : Nat → Option ax_MI) : Nat → ax_MT
  | 0 => fun _ _ _ _ => False
  | d + 1 => fun y args h Q => ax_op (mt y) fun I => (ax_el args).length ≤ I.2.2.2.1 ∧ ax_W cl L xs tb (d + 1) I (ax_M cl L xs tb mt d) Q 0 (ax_en I.2.2.2.1 args) [] 0 0 h
/-- j steps from here, no step at the places S, none behind a call -/
def ax_go (cl : List vw_C) (L : Nat) (xs : Nat → Int32) (tb : ax_Tb) (d : Nat) (I : ax_MI) (M : ax_MT) (Q : ax_Q) (S : List Nat) (P : ax_P) : Nat → ax_P
  | 0 => P
  | j + 1 => fun pc ls st k n h => if S.contains pc = true then P pc ls st k n h else ax_step cl L xs tb d I M Q (ax_go cl L xs tb d I M Q S P j) P pc ls st k n h
