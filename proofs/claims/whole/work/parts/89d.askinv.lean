/-! asking: where it writes -/
def wA (a j : Nat) : Prop := (∃ k, k < 12 ∧ (a = nN k ∨ a = nR k ∨ a = nY k ∨ a = nK k ∨ (a = nC k ∧ (j = 9 ∨ j = 10)))) ∨ (a = 0 ∧ j = 7) ∨ a = 99
def KZ (γ γ' : nMem) : Prop := (∀ a j, ¬ wA a j → γ'.1 a j = γ.1 a j) ∧ ∀ a, (∀ k, k < 12 → ¬ a = nN k) → γ'.2 a = γ.2 a
theorem KZ.rfl {γ : nMem} : KZ γ γ := ⟨fun _ _ _ => Eq.refl _, fun _ _ => Eq.refl _⟩
theorem KZ.trans {a b c : nMem} (h1 : KZ a b) (h2 : KZ b c) : KZ a c := ⟨fun x j h => (h2.1 x j h).trans (h1.1 x j h), fun x h => (h2.2 x h).trans (h1.2 x h)⟩
theorem KZ.st {γ : nMem} {a j : Nat} {x : Int32} (h : wA a j) : KZ γ (ms γ a j x) := ⟨fun b i hb => by
  rw [ms_r, if_neg]
  rintro ⟨rfl, rfl⟩
  exact hb h, fun _ _ => Eq.refl _⟩
theorem KZ.lg {γ : nMem} {k j : Nat} {x : Int64} (h : k < 12) : KZ γ (ml γ (nN k) j x) := ⟨fun _ _ _ => Eq.refl _, fun a ha => ml_o (ha k h)⟩
theorem wN {k j : Nat} (h : k < 12) : wA (nN k) j := Or.inl ⟨k, h, Or.inl rfl⟩
theorem wR {k j : Nat} (h : k < 12) : wA (nR k) j := Or.inl ⟨k, h, Or.inr (Or.inl rfl)⟩
theorem wY {k j : Nat} (h : k < 12) : wA (nY k) j := Or.inl ⟨k, h, Or.inr (Or.inr (Or.inl rfl))⟩
theorem wKk {k j : Nat} (h : k < 12) : wA (nK k) j := Or.inl ⟨k, h, Or.inr (Or.inr (Or.inr (Or.inl rfl)))⟩
theorem wC9 {k : Nat} (h : k < 12) : wA (nC k) 9 := Or.inl ⟨k, h, Or.inr (Or.inr (Or.inr (Or.inr ⟨rfl, Or.inl rfl⟩)))⟩
theorem wC10 {k : Nat} (h : k < 12) : wA (nC k) 10 := Or.inl ⟨k, h, Or.inr (Or.inr (Or.inr (Or.inr ⟨rfl, Or.inr rfl⟩)))⟩
theorem w07 : wA 0 7 := Or.inr (Or.inl ⟨rfl, rfl⟩)
theorem w99 {j : Nat} : wA 99 j := Or.inr (Or.inr rfl)
theorem mU_Z {γ : nMem} {k : Nat} (h : k < 12) : KZ γ (mU γ k) := (KZ.st w07).trans (KZ.st (wC10 h))
theorem tly_Z {γ : nMem} {k j : Nat} (h : k < 12) : KZ γ (tly γ k j) := (KZ.st (wY h)).trans (KZ.st w99)
theorem vfy_Z {γ : nMem} {k j : Nat} (h : k < 12) : KZ γ (vfy γ k j) := ((KZ.st (wN h)).trans (KZ.st (wY h))).trans (KZ.st w99)
theorem kvs_Z {γ : nMem} {k : Nat} {v : Int64} {r : Int32} (h : k < 12) : KZ γ (kvs γ k v r) := by
  unfold kvs
  split
  · split
    · exact KZ.st (wN h)
    · exact KZ.rfl
  · exact KZ.rfl
theorem kv_Z {γ : nMem} {k : Nat} {v : Int64} {r : Int32} (h : k < 12) : KZ γ (kv γ k v r) := ((((kvs_Z h).trans (KZ.st (wN h))).trans (KZ.st (wN h))).trans (KZ.lg h)).trans (KZ.st (wN h))
theorem adR_Z {γ : nMem} {k s : Nat} (h : k < 12) : KZ γ (adR γ k s) := by
  unfold adR
  split
  · exact KZ.rfl
  · exact (KZ.st (wR h)).trans (KZ.st (wN h))
theorem wEnd_Z {γ : nMem} {k : Nat} {v : Int64} (h : k < 12) : KZ γ (wEnd γ k v) := ((((KZ.st (wN h)).trans (kv_Z h)).trans (mU_Z h)).trans (tly_Z h)).trans (KZ.st (wC9 h))
section ZZ
variable {cd : Nat → pC} {d : Nat}
def QB (cd : Nat → pC) (d : Nat) (B : nMem → Nat → nMem) : Prop := ∀ μ k, WF cd μ → k < 12 → fw μ 12 ≤ d → KZ μ (B μ k)
def QW (cd : Nat → pC) (d : Nat) (W : nMem → Nat → nMem) : Prop := ∀ μ k, WF cd μ → k < 12 → ¬ μ.1 (nC k) 4 = 0 → fw (ms μ (nC k) 9 1) 12 < d → KZ μ (W μ k)
theorem uF_Z {B W : nMem → Nat → nMem} (hB : PB cd d B) (qB : QB cd d B) (qW : QW cd d W) {μ : nMem} {k : Nat} (h : WF cd μ) (hk : k < 12) (h9 : μ.1 (nC k) 9 = 0) (hf : fw μ 12 ≤ d) : KZ μ (uF B W μ k).2 := by
  unfold uF
  split
  · exact KZ.rfl
  · rename_i h4
    obtain ⟨b1, b2⟩ := hB μ k h hk hf
    have z := qB μ k h hk hf
    dsimp only
    split
    · have e4 := (b2 k hk).1
      have e9 := (b2 k hk).2
      have hfw := fw_set (μ := B μ k) (k := k) (x := 1) (by decide) (by rw [e4]; exact h4) (by rw [e9]; exact h9) 12 (by omega)
      rw [if_pos hk, fw_FL b2 12 (by omega)] at hfw
      exact (z.trans (qW (B μ k) k b1 hk (by rw [e4]; exact h4) (by omega))).trans (mU_Z hk)
    · exact z.trans (mU_Z hk)
theorem gF_Z {B W : nMem → Nat → nMem} (hB : PB cd d B) (qB : QB cd d B) (qW : QW cd d W) {μ : nMem} {k s : Nat} (h : WF cd μ) (hk : k < 12) (hs : s < 12) (hf : fw μ 12 ≤ d) : KZ μ (gF B W μ k s).2 := by
  have a1 := adR_W h hk hs
  have a2 : FL μ (adR μ k s) := adR_L
  unfold gF
  split
  · rename_i h9
    exact (adR_Z hk).trans (uF_Z hB qB qW a1 hs h9 (by rw [fw_FL a2 12 (by omega)]; exact hf))
  · exact adR_Z hk
theorem evl_Z {G : nMem → Nat → Int64 × nMem} {cs : pC} {k : Nat} (hk : k < 12) (hG : ∀ μ s, WF cd μ → s < 12 → fw μ 12 ≤ d → WF cd (G μ s).2 ∧ FL μ (G μ s).2) (hZ : ∀ μ s, WF cd μ → s < 12 → fw μ 12 ≤ d → KZ μ (G μ s).2) (hT : ∀ (i : Nat) (q : Nat × Nat), cs[i]? = some q → q.1 = 1 → q.2 < 12) : ∀ g μ tp at_, WF cd μ → fw μ 12 ≤ d → KZ μ (evl G cs k g μ tp at_).2 := by
  intro g
  induction g with
  | zero => intro μ tp at_ h _; exact KZ.rfl
  | succ g ih =>
    intro μ tp at_ h hf
    have step : ∀ (j : Nat) (x : Int32) (μ1 : nMem), WF cd μ1 → FL μ μ1 → KZ μ μ1 → ∀ tp' at', KZ μ (evl G cs k g (ms μ1 (nK k) j x) tp' at').2 := by
      intro j x μ1 w l z tp' at'
      have l2 : FL μ (ms μ1 (nK k) j x) := l.trans (FL.ms fl_K)
      exact (z.trans (KZ.st (wKk hk))).trans (ih (ms μ1 (nK k) j x) tp' at' (w.cong (WE.ms (free_K hk))) (by rw [fw_FL l2 12 (by omega)]; exact hf))
    unfold evl
    split
    · exact KZ.rfl
    · rename_i q hq
      split
      · exact step _ _ μ h FL.rfl KZ.rfl _ _
      split
      · rename_i h1
        obtain ⟨g1, g2⟩ := hG μ q.2 h (hT at_ q hq h1) hf
        have g3 := hZ μ q.2 h (hT at_ q hq h1) hf
        split
        rename_i v μ1 he
        rw [he] at g1 g2 g3
        split
        · exact g3
        · exact step _ _ μ1 g1 g2 g3 _ _
      split
      · obtain ⟨g1, g2⟩ := hG μ (fm (μ.1 (nK k) (tp - 1))) h (fmI_of _).2 hf
        have g3 := hZ μ (fm (μ.1 (nK k) (tp - 1))) h (fmI_of _).2 hf
        split
        rename_i v μ1 he
        rw [he] at g1 g2 g3
        split
        · exact g3
        · exact step _ _ μ1 g1 g2 g3 _ _
      split
      · exact step _ _ μ h FL.rfl KZ.rfl _ _
      split
      · exact ih μ _ _ h hf
      split
      · exact ih μ _ _ h hf
      · exact step _ _ μ h FL.rfl KZ.rfl _ _
theorem wF_Z {B W : nMem → Nat → nMem} (hB : PB cd d B) (hW : PW cd d W) (qB : QB cd d B) (qW : QW cd d W) : QW cd (d + 1) (wF cd B W) := by
  intro μ k h hk h4 hf
  have w1 : WF cd (ms μ (nC k) 9 1) := h.cong (WE.ms (free_C hk (by decide)))
  have w2 : WF cd (ms (ms μ (nC k) 9 1) (nN k) 1 0) := w1.n0 hk
  have l2 : FL (ms μ (nC k) 9 1) (ms (ms μ (nC k) 9 1) (nN k) 1 0) := FL.ms fl_N
  have hT := ((h k hk).2.2 h4).1.a1
  have e1 := evl_Z (cd := cd) (d := d) (k := k) (G := fun m s => gF B W m k s) hk (fun m s wm hs hfm => gF_P hB hW wm hk hs hfm) (fun m s wm hs hfm => gF_Z hB qB qW wm hk hs hfm) hT 30 (ms (ms μ (nC k) 9 1) (nN k) 1 0) 0 0 w2 (by rw [fw_FL l2 12 (by omega)]; omega)
  unfold wF
  split
  rename_i v μ1 he
  rw [he] at e1
  exact (((KZ.st (wC9 hk)).trans (KZ.st (wN hk))).trans e1).trans (wEnd_Z hk)
theorem ruL_Z {B : nMem → Nat → nMem} (hB : PB cd d B) (qB : QB cd d B) {k : Nat} (hk : k < 12) : ∀ g μ i, WF cd μ → fw μ 12 ≤ d → KZ μ (ruL B k g μ i).2 := by
  intro g
  induction g with
  | zero => intro μ i h _; exact KZ.rfl
  | succ g ih =>
    intro μ i h hf
    unfold ruL
    split
    · rename_i hi
      have hr := ((h k hk).1.n.2.2 i hi).2
      obtain ⟨b1, b2⟩ := hB μ (rN μ k i) h hr hf
      have z := qB μ (rN μ k i) h hr hf
      have r := ih (B μ (rN μ k i)) (i + 1) b1 (by rw [fw_FL b2 12 (by omega)]; exact hf)
      (repeat' split) <;> first
        | exact z.trans r
        | exact z
    · exact KZ.rfl
theorem ruF_Z {B : nMem → Nat → nMem} (hB : PB cd d B) (qB : QB cd d B) {μ : nMem} {k : Nat} (h : WF cd μ) (hk : k < 12) (hf : fw μ 12 ≤ d) : KZ μ (ruF B μ k).2 := by
  unfold ruF
  split
  · exact KZ.rfl
  split
  · exact ruL_Z hB qB hk 13 μ 0 h hf
  · exact KZ.rfl
theorem bIn_Z {B W : nMem → Nat → nMem} (hB : PB cd d B) (hW : PW cd d W) (qB : QB cd d B) (qW : QW cd d W) {μ : nMem} {k : Nat} (h : WF cd μ) (hk : k < 12) (h4 : ¬ μ.1 (nC k) 4 = 0) (h9 : μ.1 (nC k) 9 = 1) (hf : fw μ 12 ≤ d) : KZ μ (bIn cd B W μ k) := by
  unfold bIn
  split
  · obtain ⟨r1, r2⟩ := ruF_P hB h hk hf
    have r3 := ruF_Z hB qB h hk hf
    split
    · rename_i μ1 he
      rw [he] at r3
      exact (r3.trans (KZ.st (wN hk))).trans (vfy_Z hk)
    · rename_i μ1 he
      rw [he] at r1 r2 r3
      dsimp only at r1 r2
      have e4 := (r2 k hk).1
      have e9 := (r2 k hk).2
      have efw : fw (ms μ1 (nC k) 9 1) 12 = fw μ1 12 := by rw [ms_id (by rw [e9, h9])]
      exact r3.trans (wF_Z hB hW qB qW μ1 k r1 hk (by rw [e4]; exact h4) (by rw [efw, fw_FL r2 12 (by omega)]; omega))
  · exact vfy_Z hk
theorem bF_Z {B W : nMem → Nat → nMem} (hB : PB cd d B) (hW : PW cd d W) (qB : QB cd d B) (qW : QW cd d W) : QB cd (d + 1) (bF cd B W) := by
  intro μ k h hk hf
  unfold bF
  split
  · exact KZ.rfl
  rename_i h4
  split
  · exact KZ.rfl
  rename_i h9
  have h9 : μ.1 (nC k) 9 = 0 := Classical.not_not.mp h9
  split
  · exact KZ.rfl
  have hfw := fw_set (μ := μ) (k := k) (x := 1) (by decide) h4 h9 12 (by omega)
  rw [if_pos hk] at hfw
  have e4 : (ms μ (nC k) 9 1).1 (nC k) 4 = μ.1 (nC k) 4 := by rw [ms_r, if_neg (fun z => by omega)]
  have r := bIn_Z hB hW qB qW (h.cong (WE.ms (μ := μ) (a := nC k) (j := 9) (x := 1) (free_C hk (by decide)))) hk (by rw [e4]; exact h4) (by rw [ms_s, pk_us]) (by omega)
  exact ((KZ.st (wC9 hk)).trans r).trans (KZ.st (wC9 hk))
theorem bw_Z (cd : Nat → pC) : ∀ d, QB cd d (bw cd d).1 ∧ QW cd d (bw cd d).2 := by
  intro d
  induction d with
  | zero => exact ⟨fun μ k h _ _ => KZ.rfl, fun μ k _ _ _ h => (Nat.not_lt_zero _ h).elim⟩
  | succ d ih => exact ⟨bF_Z (bw_P cd d).1 (bw_P cd d).2 ih.1 ih.2, wF_Z (bw_P cd d).1 (bw_P cd d).2 ih.1 ih.2⟩
end ZZ
theorem lz_Z {γ : nMem} : ∀ i, KZ γ (lz i γ) := by
  intro i
  induction i with
  | zero => exact KZ.rfl
  | succ i ih => exact ih.trans (KZ.st w99)
theorem dl_Z {γ : nMem} : KZ γ (dl γ) := by
  unfold dl
  split
  · exact KZ.rfl
  · rename_i o e; exact KZ.st (wN (od_lt e))
theorem dk_Z : ∀ z (γ : nMem), KZ γ (dk z γ) := by
  intro z
  induction z with
  | zero => intro γ; exact KZ.rfl
  | succ z ih => intro γ; rw [dk]; exact dl_Z.trans (ih _)
theorem dl_E {γ : nMem} : WE γ (dl γ) := by
  unfold dl
  split
  · exact WE.rfl
  · rename_i o e; exact WE.ms (free_N (od_lt e) (by decide))
theorem dl_L {γ : nMem} : FL γ (dl γ) := by
  unfold dl
  split
  · exact FL.rfl
  · exact FL.ms fl_N
theorem dk_E : ∀ z (γ : nMem), WE γ (dk z γ) ∧ FL γ (dk z γ) := by
  intro z
  induction z with
  | zero => intro γ; exact ⟨WE.rfl, FL.rfl⟩
  | succ z ih => intro γ; rw [dk]; exact ⟨dl_E.trans (ih _).1, dl_L.trans (ih _).2⟩
theorem dk_v : ∀ z (γ : nMem), vcn (dk z γ) 12 = vcn γ 12 - z := by
  intro z
  induction z with
  | zero => intro γ; rfl
  | succ z ih =>
    intro γ
    rw [dk, ih]
    rcases e : od γ 12 with _ | o
    · have h0 := od_none 12 e
      have : dl γ = γ := by unfold dl; rw [e]
      rw [this]; omega
    · have h1 := od_val 12 o e
      have hd := vcn_drop h1.2 12
      rw [if_pos h1.1] at hd
      rw [dl_some e]; omega
theorem ask_K {cd : Nat → pC} {kp k : Nat} {γ : nMem} (h : WF cd γ) (h9 : ∀ j, j < 12 → γ.1 (nC j) 9 = 0) (hk : k < 12) : KZ γ (askF cd kp γ k).2 ∧ WF cd (askF cd kp γ k).2 ∧ FL γ (askF cd kp γ k).2 ∧ vcn (askF cd kp γ k).2 12 ≤ kp ∧ KZ γ (uF (bw cd 12).1 (bw cd 12).2 (lz 3 γ) k).2 := by
  have hw0 : WF cd (lz 3 γ) := h.cong lz_E
  have h90 : (lz 3 γ).1 (nC k) 9 = 0 := by rw [lz_o (by unfold nC; omega)]; exact h9 k hk
  have hu := uF_P (bw_P cd 12).1 (bw_P cd 12).2 hw0 hk h90 (fw_12 _)
  have hz := (lz_Z 3).trans (uF_Z (bw_P cd 12).1 (bw_Z cd 12).1 (bw_Z cd 12).2 hw0 hk h90 (fw_12 _))
  have e : (askF cd kp γ k).2 = dk (vcn (uF (bw cd 12).1 (bw cd 12).2 (lz 3 γ) k).2 12 - kp) (uF (bw cd 12).1 (bw cd 12).2 (lz 3 γ) k).2 := rfl
  rw [e]
  refine ⟨hz.trans (dk_Z _ _), hu.1.cong (dk_E _ _).1, (lz_L.trans hu.2).trans (dk_E _ _).2, ?_, hz⟩
  rw [dk_v]
  omega
theorem wA_no {b j : Nat} (h : ∀ k, k < 12 → ¬ b = nN k ∧ ¬ b = nR k ∧ ¬ b = nY k ∧ ¬ b = nK k ∧ ¬ b = nC k) (h0 : ¬ b = 0) (h99 : ¬ b = 99) : ¬ wA b j := by
  rintro (⟨k, hk, z | z | z | z | z⟩ | z | z)
  · exact (h k hk).1 z
  · exact (h k hk).2.1 z
  · exact (h k hk).2.2.1 z
  · exact (h k hk).2.2.2.1 z
  · exact (h k hk).2.2.2.2 z.1
  · exact h0 z.1
  · exact h99 z
theorem KZ.big {γ γ' : nMem} (h : KZ γ γ') {b : Nat} (hb : 100 ≤ b) : γ'.1 b = γ.1 b ∧ γ'.2 b = γ.2 b :=
  ⟨funext fun j => h.1 b j (wA_no (fun k hk => by unfold nN nR nY nK nC; omega) (by omega) (by omega)), h.2 b (fun k hk => by unfold nN; omega)⟩
theorem KZ.mp {γ γ' : nMem} (h : KZ γ γ') : MP γ γ' := fun i hi => h.big (by omega)
theorem op_ask {L : Nat} {xs : Nat → Int32} (a : Int32) : lwJ L xs 203 INV 4 67 [.int a] := by
  intro μ hI
  obtain ⟨cd, n, kp, h⟩ := hI
  refine c_N_ask (d := 137) (kp := kp) h.wf h.nw h.k12 (fun k hk e => ?_) (fun hx => ⟨_, μ, rfl, rfl, ?_⟩) (fun k hk e => ⟨_, _, rfl, rfl, ?_⟩)
  · rw [(ask_K (kp := kp) h.wf h.nw hk).2.2.2.2.1 0 5 (by
      rintro (⟨k, hk, z | z | z | z | z⟩ | z | z)
      · unfold nN at z; omega
      · unfold nR at z; omega
      · unfold nY at z; omega
      · unfold nK at z; omega
      · unfold nC at z; omega
      · omega
      · omega)]
    exact h.kc
  · exact c_M_ask (d := 196) (kp := kp) h.wf h.mst h.rl h.nw h.k12 h.km h.vk (fun _ => ⟨rfl, μ, rfl, cd, n, kp, h⟩) (fun k hk e => by rw [e, ic_nI hk] at hx; cases hx)
  · obtain ⟨z1, z2, z3, z4, _⟩ := ask_K (kp := kp) h.wf h.nw hk
    have hh := h.move CP.rfl z1.mp
    refine c_M_ask (d := 196) (cd := cd) (γ := μ) (kp := kp) h.wf hh.mst hh.rl h.nw h.k12 hh.km h.vk (fun z => by rw [e, ic_nI hk] at z; cases z) (fun k' hk' e' μ2 hrl hL => ?_)
    have : k' = k := (nI_eq (by omega) (by omega)).mp (e'.symm.trans e)
    subst this
    refine ⟨rfl, μ2, rfl, cd, n, kp, ?_⟩
    generalize hμ1 : (askF cd kp μ k').2 = μ1 at z1 z2 z3 z4 hh hrl hL
    have hCP : CP μ1 μ2 := fun i hi => ⟨hL.1 i (by omega) (by omega), hL.2.2.1 i (by omega) (by omega)⟩
    refine INVx.move (γ := μ1) (μ := μ2) ?_ hCP MP.rfl
    obtain ⟨i1, i2, i3, i4, i5, i6, i7, i8, i9, j1, j2, j3, j4, j5, j6⟩ := hh
    have m : ∀ b, 104 < b → b < 117 → μ2.1 b = μ1.1 b := fun b h1 h2 => hL.1 b (by omega) (by omega)
    have wF' : ∀ k, k < 12 → ∀ j, ¬ wA (nF k) j := fun k hk j => wA_no (fun i hi => by unfold nN nR nY nK nC nF; split <;> omega) (by unfold nF; split <;> omega) (by unfold nF; split <;> omega)
    have wT' : ∀ k, k < 12 → ∀ j, ¬ wA (nT k) j := fun k hk j => wA_no (fun i hi => by unfold nN nR nY nK nC nT; split <;> omega) (by unfold nT; split <;> omega) (by unfold nT; split <;> omega)
    refine ⟨z2, hrl, i3.keep hL, fun j hj => ?_, ?_, ?_, i7, ?_, fun j hj => ?_, fun k hk => ?_, ?_, ?_, j4, j5, z4⟩
    · rw [(z3 j hj).2]; exact h.nw j hj
    · rw [(z1.big (by decide)).1]; exact i5
    · rw [hL.2.1 2 (by omega) (by omega)]; exact i6
    · rw [m 105 (by omega) (by omega), (z1.big (b := nT 12) (by decide)).1]; exact i8
    · rw [(z1.big (b := nT 12) (by decide)).1]; exact i9 j hj
    · obtain ⟨aa, t1, t2, t3⟩ := j1 k hk
      refine ⟨aa, by rw [z1.1 (nF k) 2 (wF' k hk 2)]; exact t1, t2, fun h4 => ?_⟩
      rw [(z3 k hk).1] at h4
      rw [m 109 (by omega) (by omega), m 108 (by omega) (by omega)]
      refine ⟨(t3 h4).1, fun i hi => ?_⟩
      rw [z1.1 (nT k) i (wT' k hk i)]
      exact (t3 h4).2 i hi
    · rw [z1.1 0 5 (by
        rintro (⟨k, hk, z | z | z | z | z⟩ | z | z)
        · unfold nN at z; omega
        · unfold nR at z; omega
        · unfold nY at z; omega
        · unfold nK at z; omega
        · unfold nC at z; omega
        · omega
        · omega)]
      exact j2
    · rw [hL.2.1 0 (by omega) (by omega)]; exact j3
