/-! set -/
theorem sr_r {m : nMem} {v : Int32} {j : Nat} : ∀ i, (sr i m v).1 98 j = if j < i then v else m.1 98 j := by
  intro i
  induction i with
  | zero => rw [sr, if_neg (by omega)]
  | succ i ih =>
    rw [sr, ms_r, ih]
    by_cases e : j = i
    · rw [if_pos ⟨rfl, e⟩, if_pos (by omega)]
    · rw [if_neg (fun z => e z.2)]
      by_cases e2 : j < i
      · rw [if_pos e2, if_pos (by omega)]
      · rw [if_neg e2, if_neg (by omega)]
theorem srm_r {m : nMem} {v : Int32} {j : Nat} : ∀ i, (srm i m v).1 106 j = if j < i then v else m.1 106 j := by
  intro i
  induction i with
  | zero => rw [srm, if_neg (by omega)]
  | succ i ih =>
    rw [srm, ms_r, ih]
    by_cases e : j = i
    · rw [if_pos ⟨rfl, e⟩, if_pos (by omega)]
    · rw [if_neg (fun z => e z.2)]
      by_cases e2 : j < i
      · rw [if_pos e2, if_pos (by omega)]
      · rw [if_neg e2, if_neg (by omega)]
theorem srv_0 {γ : nMem} {o j : Nat} : (srv γ o).1 0 j = if j = 6 then γ.1 0 6 + 1 else γ.1 0 j := by
  unfold srv
  rw [sr_o (by decide), ms_r]
  by_cases e : j = 6
  · rw [if_pos ⟨rfl, e⟩, if_pos e]
  · rw [if_neg (fun z => e z.2), if_neg e]
theorem srv_98 {γ : nMem} {o j : Nat} : (srv γ o).1 98 j = if j ≤ o then γ.1 0 6 + 1 else γ.1 98 j := by
  unfold srv
  rw [sr_r, ms_o (by decide)]
  by_cases e : j ≤ o
  · rw [if_pos (by omega), if_pos e]
  · rw [if_neg (by omega), if_neg e]
theorem srv_2 {γ : nMem} {o : Nat} : (srv γ o).2 = γ.2 := by
  unfold srv; rw [sr_2]; rfl
theorem srmv_106 {μ : nMem} {o j : Nat} : (srmv μ o).1 106 j = if j ≤ o then μ.1 104 3 + 1 else μ.1 106 j := by
  unfold srmv
  rw [srm_r, ms_o (by decide)]
  by_cases e : j ≤ o
  · rw [if_pos (by omega), if_pos e]
  · rw [if_neg (by omega), if_neg e]
theorem srmv_104 {μ : nMem} {o j : Nat} : (srmv μ o).1 104 j = if j = 3 then μ.1 104 3 + 1 else μ.1 104 j := by
  rw [srmv_r]
  by_cases e : j = 3
  · rw [if_pos e, e, pk_us]
  · rw [if_neg e, pk_un e]
/-- a new revision, on both sides -/
theorem REL.rev {γ μ : nMem} {o : Nat} (h : REL γ μ) : REL (srv γ o) (srmv μ o) := by
  obtain ⟨⟨w1, w2, w3, w4⟩, hc, hr⟩ := h
  have gC : ∀ i, i < 12 → (srv γ o).1 (nC i) = γ.1 (nC i) := fun i hi => srv_o (by unfold nC; omega) (by unfold nC; omega)
  have gN : ∀ i, i < 12 → (srv γ o).1 (nN i) = γ.1 (nN i) := fun i hi => srv_o (by unfold nN; omega) (by unfold nN; omega)
  have gR : ∀ i, i < 12 → (srv γ o).1 (nR i) = γ.1 (nR i) := fun i hi => srv_o (by unfold nR; omega) (by unfold nR; omega)
  have gY : ∀ i, i < 12 → (srv γ o).1 (nY i) = γ.1 (nY i) := fun i hi => srv_o (by unfold nY; omega) (by unfold nY; omega)
  have m : ∀ b, ¬ b = 106 → ¬ b = 104 → (srmv μ o).1 b = μ.1 b := fun b h1 h2 => srmv_o h1 h2
  refine ⟨⟨?_, ?_, fun j hj => ?_, fun j hj => ?_⟩, fun i hi => ?_, fun i hi hz => ?_⟩
  · rw [srmv_104, srv_0, if_pos rfl, if_pos rfl, w1]
  · rw [srmv_104, srv_0, if_neg (by decide), if_neg (by decide), w2]
  · rw [srmv_106, srv_98, w1, w3 j hj]
  · rw [m 127 (by decide) (by decide), srv_o (by decide) (by decide)]; exact w4 j hj
  · have := hc i hi
    rw [RC, gC i hi, gN i hi, gY i hi, srv_2, srmv_2, m 107 (by decide) (by decide), m 113 (by decide) (by decide), m 114 (by decide) (by decide), m 115 (by decide) (by decide), m 116 (by decide) (by decide), m 117 (by decide) (by decide), m 118 (by decide) (by decide), m 120 (by decide) (by decide), m 121 (by decide) (by decide), m 122 (by decide) (by decide), m 125 (by decide) (by decide), m 126 (by decide) (by decide), m 135 (by decide) (by decide)]
    exact this
  · rw [gC i hi] at hz
    have := hr i hi hz
    unfold RR at this ⊢
    rw [gN i hi, gR i hi, m 123 (by decide) (by decide), m 124 (by decide) (by decide)]
    exact this
def mkI0 (m : nMem) (k : Nat) (b v y : Int32) : nMem := clr (ms (ms (ms (ms m (nC k) 8 b) (nC k) 4 0) (nC k) 6 v) (nC k) 7 y) k
theorem mkI_0 {γ : nMem} {k o : Nat} {v y : Int32} : mkI γ k o v y = mkI0 (srv γ o) k (if (srv γ o).1 (nC k) 4 = 0 ∧ (srv γ o).1 (nC k) 6 = v then (srv γ o).1 (nC k) 8 else (srv γ o).1 0 6) v y := by
  unfold mkI mkI0 mkB
  split
  · rw [ms_id rfl]
  · rfl
theorem REL.inp {γ μ : nMem} {k : Nat} {b v y : Int32} (h : REL γ μ) (hk : k < 12) (h9 : γ.1 (nC k) 9 = 0) : REL (mkI0 γ k b v y) (ms (ms (ms (ms (ms (ms μ 116 k b) 107 k 0) 117 k 0) 118 k 0) 114 k v) 115 k y) := by
  obtain ⟨⟨w1, w2, w3, w4⟩, hc, hr⟩ := h
  refine ⟨⟨?_, ?_, ?_, ?_⟩, fun i hi => ?_, fun i hi hz => ?_⟩
  · simp [mkI0, clr, ms_r, ml_r, ms_2, ml_1, ad_CC, ad_CN, ad_CR, ad_CY, ad_CK, ad_C0, ad_0C, ad_C99, ad_99C, ad_NN, ad_NC, ad_NR, ad_NY, ad_NK, ad_N0, ad_0N, ad_N99, ad_99N, ad_N98, ad_98N, ad_RR, ad_RC, ad_RN, ad_RY, ad_RK, ad_R0, ad_0R, ad_R99, ad_99R, ad_R98, ad_98R, ad_YY, ad_YC, ad_YN, ad_YR, ad_YK, ad_Y0, ad_0Y, ad_Y99, ad_99Y, ad_Y98, ad_98Y, ad_KK, ad_KC, ad_KN, ad_KR, ad_KY, ad_K0, ad_0K, ad_K99, ad_99K, ad_K98, ad_98K, w1]
  · simp [mkI0, clr, ms_r, ml_r, ms_2, ml_1, ad_CC, ad_CN, ad_CR, ad_CY, ad_CK, ad_C0, ad_0C, ad_C99, ad_99C, ad_NN, ad_NC, ad_NR, ad_NY, ad_NK, ad_N0, ad_0N, ad_N99, ad_99N, ad_N98, ad_98N, ad_RR, ad_RC, ad_RN, ad_RY, ad_RK, ad_R0, ad_0R, ad_R99, ad_99R, ad_R98, ad_98R, ad_YY, ad_YC, ad_YN, ad_YR, ad_YK, ad_Y0, ad_0Y, ad_Y99, ad_99Y, ad_Y98, ad_98Y, ad_KK, ad_KC, ad_KN, ad_KR, ad_KY, ad_K0, ad_0K, ad_K99, ad_99K, ad_K98, ad_98K, w2]
  · intro j hj; simp [mkI0, clr, ms_r, ml_r, ms_2, ml_1, ad_CC, ad_CN, ad_CR, ad_CY, ad_CK, ad_C0, ad_0C, ad_C99, ad_99C, ad_NN, ad_NC, ad_NR, ad_NY, ad_NK, ad_N0, ad_0N, ad_N99, ad_99N, ad_N98, ad_98N, ad_RR, ad_RC, ad_RN, ad_RY, ad_RK, ad_R0, ad_0R, ad_R99, ad_99R, ad_R98, ad_98R, ad_YY, ad_YC, ad_YN, ad_YR, ad_YK, ad_Y0, ad_0Y, ad_Y99, ad_99Y, ad_Y98, ad_98Y, ad_KK, ad_KC, ad_KN, ad_KR, ad_KY, ad_K0, ad_0K, ad_K99, ad_99K, ad_K98, ad_98K, a98 hk, w3 j hj]
  · intro j hj; simp [mkI0, clr, ms_r, ml_r, ms_2, ml_1, ad_CC, ad_CN, ad_CR, ad_CY, ad_CK, ad_C0, ad_0C, ad_C99, ad_99C, ad_NN, ad_NC, ad_NR, ad_NY, ad_NK, ad_N0, ad_0N, ad_N99, ad_99N, ad_N98, ad_98N, ad_RR, ad_RC, ad_RN, ad_RY, ad_RK, ad_R0, ad_0R, ad_R99, ad_99R, ad_R98, ad_98R, ad_YY, ad_YC, ad_YN, ad_YR, ad_YK, ad_Y0, ad_0Y, ad_Y99, ad_99Y, ad_Y98, ad_98Y, ad_KK, ad_KC, ad_KN, ad_KR, ad_KY, ad_K0, ad_0K, ad_K99, ad_99K, ad_K98, ad_98K, w4 j hj]
  · obtain ⟨a1, a2, a3, a4, a5, a6, a7, a8, a9, b1, b2, b3, b4, b5, b6⟩ := hc i hi
    by_cases e : i = k
    · subst e
      refine ⟨?_, ?_, ?_, ?_, ?_, ?_, ?_, ?_, ?_, ?_, ?_, ?_, ?_, ?_, ?_⟩ <;> simp [mkI0, clr, ms_r, ml_r, ms_2, ml_1, ad_CC, ad_CN, ad_CR, ad_CY, ad_CK, ad_C0, ad_0C, ad_C99, ad_99C, ad_NN, ad_NC, ad_NR, ad_NY, ad_NK, ad_N0, ad_0N, ad_N99, ad_99N, ad_N98, ad_98N, ad_RR, ad_RC, ad_RN, ad_RY, ad_RK, ad_R0, ad_0R, ad_R99, ad_99R, ad_R98, ad_98R, ad_YY, ad_YC, ad_YN, ad_YR, ad_YK, ad_Y0, ad_0Y, ad_Y99, ad_99Y, ad_Y98, ad_98Y, ad_KK, ad_KC, ad_KN, ad_KR, ad_KY, ad_K0, ad_0K, ad_K99, ad_99K, ad_K98, ad_98K]
      all_goals (first | assumption | skip)
    · refine ⟨?_, ?_, ?_, ?_, ?_, ?_, ?_, ?_, ?_, ?_, ?_, ?_, ?_, ?_, ?_⟩ <;> simp [mkI0, clr, ms_r, ml_r, ms_2, ml_1, ad_CC, ad_CN, ad_CR, ad_CY, ad_CK, ad_C0, ad_0C, ad_C99, ad_99C, ad_NN, ad_NC, ad_NR, ad_NY, ad_NK, ad_N0, ad_0N, ad_N99, ad_99N, ad_N98, ad_98N, ad_RR, ad_RC, ad_RN, ad_RY, ad_RK, ad_R0, ad_0R, ad_R99, ad_99R, ad_R98, ad_98R, ad_YY, ad_YC, ad_YN, ad_YR, ad_YK, ad_Y0, ad_0Y, ad_Y99, ad_99Y, ad_Y98, ad_98Y, ad_KK, ad_KC, ad_KN, ad_KR, ad_KY, ad_K0, ad_0K, ad_K99, ad_99K, ad_K98, ad_98K, e] <;> assumption
  · by_cases e : i = k
    · subst e
      unfold RR
      simp [mkI0, clr, ms_r, ml_r, ms_2, ml_1, ad_CC, ad_CN, ad_CR, ad_CY, ad_CK, ad_C0, ad_0C, ad_C99, ad_99C, ad_NN, ad_NC, ad_NR, ad_NY, ad_NK, ad_N0, ad_0N, ad_N99, ad_99N, ad_N98, ad_98N, ad_RR, ad_RC, ad_RN, ad_RY, ad_RK, ad_R0, ad_0R, ad_R99, ad_99R, ad_R98, ad_98R, ad_YY, ad_YC, ad_YN, ad_YR, ad_YK, ad_Y0, ad_0Y, ad_Y99, ad_99Y, ad_Y98, ad_98Y, ad_KK, ad_KC, ad_KN, ad_KR, ad_KY, ad_K0, ad_0K, ad_K99, ad_99K, ad_K98, ad_98K]
    · have := hr i hi (by simpa [mkI0, clr, ms_r, ml_r, ms_2, ml_1, ad_CC, ad_CN, ad_CR, ad_CY, ad_CK, ad_C0, ad_0C, ad_C99, ad_99C, ad_NN, ad_NC, ad_NR, ad_NY, ad_NK, ad_N0, ad_0N, ad_N99, ad_99N, ad_N98, ad_98N, ad_RR, ad_RC, ad_RN, ad_RY, ad_RK, ad_R0, ad_0R, ad_R99, ad_99R, ad_R98, ad_98R, ad_YY, ad_YC, ad_YN, ad_YR, ad_YK, ad_Y0, ad_0Y, ad_Y99, ad_99Y, ad_Y98, ad_98Y, ad_KK, ad_KC, ad_KN, ad_KR, ad_KY, ad_K0, ad_0K, ad_K99, ad_99K, ad_K98, ad_98K, e] using hz)
      simpa [mkI0, clr, RR, ms_r, ml_r, ms_2, ml_1, ad_CC, ad_CN, ad_CR, ad_CY, ad_CK, ad_C0, ad_0C, ad_C99, ad_99C, ad_NN, ad_NC, ad_NR, ad_NY, ad_NK, ad_N0, ad_0N, ad_N99, ad_99N, ad_N98, ad_98N, ad_RR, ad_RC, ad_RN, ad_RY, ad_RK, ad_R0, ad_0R, ad_R99, ad_99R, ad_R98, ad_98R, ad_YY, ad_YC, ad_YN, ad_YR, ad_YK, ad_Y0, ad_0Y, ad_Y99, ad_99Y, ad_Y98, ad_98Y, ad_KK, ad_KC, ad_KN, ad_KR, ad_KY, ad_K0, ad_0K, ad_K99, ad_99K, ad_K98, ad_98K, e] using this
theorem vcn_mono {γ γ' : nMem} (h : ∀ k, k < 12 → ¬ γ'.1 (nN k) 3 = 0 → ¬ γ.1 (nN k) 3 = 0) : ∀ i, i ≤ 12 → vcn γ' i ≤ vcn γ i := by
  intro i
  induction i with
  | zero => intro _; exact Nat.le_refl _
  | succ i ih =>
    intro hi
    have := ih (by omega)
    rw [vcn, vcn]
    by_cases e : γ'.1 (nN i) 3 = 0
    · rw [if_pos e]; split <;> omega
    · rw [if_neg e, if_neg (h i (by omega) e)]; omega
theorem idr_no {x : Int32} {e : Nat} (he : e < 3) (hx : x = nI e) (h : idr x = false) : False := by
  rcases (idr_f h).2 with z | z
  · rw [hx] at z; exact nI_pos (by omega) z
  · rw [hx] at z; exact n2j he z
theorem op_set {L : Nat} {xs : Nat → Int32} (a b c : Int32) : lwI L xs 203 INV 3 49 [.int a, .int b, .int c] := by
  intro μ hI
  obtain ⟨cd, n, kp, h⟩ := hI
  have hod : ∀ j, j < 12 → ∃ o, oD μ j = nI o ∧ o < 3 := fun j hj => by
    unfold oD
    split
    · exact (h.wf j hj).2.1.2
    · exact ⟨2, rfl, by omega⟩
  have emd : ∀ j, j < 12 → mD μ j = oD μ j := fun j hj => by
    unfold mD oD
    rw [(h.rl.c j hj).fm, (h.rl.c j hj).du]
  refine c_N_set (d := 200) (fun h0 => ⟨_, μ, rfl, rfl, ?_⟩) hod (fun j e hj he ha hc g1 g2 g3 => ⟨_, μ, rfl, rfl, ?_⟩) (fun j e o hj he ha hc hne ho ho3 => ⟨_, _, rfl, rfl, ?_⟩)
  · refine c_M_set (d := 201) (fun _ => ⟨rfl, μ, rfl, cd, n, kp, h⟩) (fun j hj => by rw [emd j hj]; exact hod j hj) (fun j e hj he ha hc _ _ _ => ?_) (fun j e o hj he ha hc _ _ _ => ?_)
    · exfalso
      rcases h0 with z | z
      · rw [ha, ic_nI hj] at z; cases z
      · exact idr_no he hc z
    · exfalso
      rcases h0 with z | z
      · rw [ha, ic_nI hj] at z; cases z
      · exact idr_no he hc z
  · have hcj := h.rl.c j hj
    refine c_M_set (d := 201) (fun z => ?_) (fun j hj => by rw [emd j hj]; exact hod j hj) (fun _ _ _ _ _ _ _ _ _ => ⟨rfl, μ, rfl, cd, n, kp, h⟩) (fun j' e' o hj' he' ha' hc' hne _ _ => ?_)
    · exfalso
      rcases z with z | z
      · rw [ha, ic_nI hj] at z; cases z
      · exact idr_no he hc z
    · exfalso
      have : j' = j := (nI_eq (by omega) (by omega)).mp (ha'.symm.trans ha)
      subst this
      exact hne ⟨by rw [hcj.fm]; exact g1, by rw [hcj.nu]; exact g2, by rw [hcj.du]; exact g3⟩
  · have hM : MP μ (mkI μ j o b c) := by
      rw [mkI_0]
      unfold mkI0 clr
      have h1 : MP μ (srv μ o) := fun i hi => ⟨srv_o (by omega) (by omega), by rw [srv_2]⟩
      have hC : nC j < 104 := by unfold nC; omega
      have hN : nN j < 104 := by unfold nN; omega
      exact (((((((((h1.trans (MP.st hC)).trans (MP.st hC)).trans (MP.st hC)).trans (MP.st hC)).trans (MP.st hN)).trans (MP.st hN)).trans (MP.st hN)).trans (MP.st hN)).trans (MP.st hN)).trans (MP.st hN)
    have hh := h.move CP.rfl hM
    have hcj := h.rl.c j hj
    have m := fun b hb => (hM b hb).1
    generalize hμ1 : mkI μ j o b c = μ1 at hh hM m
    have emd1 : ∀ j, j < 12 → mD μ1 j = oD μ j := fun j hj => by
      rw [← emd j hj]
      unfold mD
      rw [m 107 (by omega), m 115 (by omega)]
    refine c_M_set (d := 201) (fun z => ?_) (fun i hi => by rw [emd1 i hi]; exact hod i hi) (fun j' e' hj' he' ha' hc' g1 g2 g3 => ?_) (fun j' e' o' hj' he' ha' hc' hne' ho' ho3' => ⟨rfl, _, rfl, cd, n, kp, ?_⟩)
    · exfalso
      rcases z with z | z
      · rw [ha, ic_nI hj] at z; cases z
      · exact idr_no he hc z
    · exfalso
      have : j' = j := (nI_eq (by omega) (by omega)).mp (ha'.symm.trans ha)
      subst this
      rw [m 107 (by omega)] at g1
      rw [m 114 (by omega)] at g2
      rw [m 115 (by omega)] at g3
      exact hne ⟨by rw [← hcj.fm]; exact g1, by rw [← hcj.nu]; exact g2, by rw [← hcj.du]; exact g3⟩
    · have : j' = j := (nI_eq (by omega) (by omega)).mp (ha'.symm.trans ha)
      subst this
      have eo : o' = o := by
        rw [emd1 j' hj', ho] at ho'
        exact ((nI_eq (by omega) (by omega)).mp ho').symm
      subst eo
      have hj := hj'
      have hCP : CP μ1 (mkS μ1 j' o' b c) := by
        unfold mkS
        have h1 : CP μ1 (srmv μ1 o') := fun i hi => ⟨srmv_o (by omega) (by omega), by rw [srmv_2]⟩
        exact (((((h1.trans (CP.st (by omega))).trans (CP.st (by omega))).trans (CP.st (by omega))).trans (CP.st (by omega))).trans (CP.st (by omega))).trans (CP.st (by omega))
      refine INVx.move (γ := μ1) (μ := mkS μ1 j' o' b c) ?_ hCP MP.rfl
      have hrl1 : REL (srv μ o') (srmv μ1 o') := hh.rl.rev
      have ebs : bS μ1 (srmv μ1 o') j' b = (if (srv μ o').1 (nC j') 4 = 0 ∧ (srv μ o').1 (nC j') 6 = b then (srv μ o').1 (nC j') 8 else (srv μ o').1 0 6) := by
        unfold bS
        rw [hrl1.w.rv, srv_o (b := nC j') (by unfold nC; omega) (by unfold nC; omega), (hh.rl.c j' hj).fm, (hh.rl.c j' hj).nu, (hh.rl.c j' hj).bo]
      have hrl2 : REL μ1 (mkS μ1 j' o' b c) := by
        have hx := hrl1.inp (k := j') (b := bS μ1 (srmv μ1 o') j' b) (v := b) (y := c) hj (by rw [srv_o (by unfold nC; omega) (by unfold nC; omega)]; exact h.nw j' hj)
        have hy : mkI0 (srv μ o') j' (bS μ1 (srmv μ1 o') j' b) b c = μ1 := by rw [ebs, ← mkI_0]; exact hμ1
        rw [hy] at hx
        exact hx
      obtain ⟨i1, i2, i3, i4, i5, i6, i7, i8, i9, k1, k2, k3, k4, k5, k6⟩ := hh
      have q : ∀ x, 100 ≤ x → x < 104 → μ1.1 x = μ.1 x := fun x hx hx2 => by
        rw [← hμ1, mkI_0]
        unfold mkI0 clr
        have hC : ¬ x = nC j' := by unfold nC; omega
        have hN : ¬ x = nN j' := by unfold nN; omega
        rw [ms_o hN, ms_o hN, ms_o hN, ms_o hN, ms_o hN, ms_o hN, ms_o hC, ms_o hC, ms_o hC, ms_o hC, srv_o (by omega) (by omega)]
      have gc : ∀ i x, i < 12 → ¬ (i = j' ∧ (x = 8 ∨ x = 4 ∨ x = 6 ∨ x = 7)) → μ1.1 (nC i) x = μ.1 (nC i) x := fun i x hi hx => by
        rw [← hμ1, mkI_0]
        unfold mkI0 clr
        have e : (srv μ o').1 (nC i) x = μ.1 (nC i) x := by rw [srv_o (by unfold nC; omega) (by unfold nC; omega)]
        by_cases e2 : i = j'
        · subst e2
          have h8 : ¬ x = 8 := fun z => hx ⟨rfl, Or.inl z⟩
          have h4 : ¬ x = 4 := fun z => hx ⟨rfl, Or.inr (Or.inl z)⟩
          have h6 : ¬ x = 6 := fun z => hx ⟨rfl, Or.inr (Or.inr (Or.inl z))⟩
          have h7 : ¬ x = 7 := fun z => hx ⟨rfl, Or.inr (Or.inr (Or.inr z))⟩
          simp [ms_r, ml_r, ms_2, ml_1, ad_CC, ad_CN, ad_CR, ad_CY, ad_CK, ad_C0, ad_0C, ad_C99, ad_99C, ad_NN, ad_NC, ad_NR, ad_NY, ad_NK, ad_N0, ad_0N, ad_N99, ad_99N, ad_N98, ad_98N, ad_RR, ad_RC, ad_RN, ad_RY, ad_RK, ad_R0, ad_0R, ad_R99, ad_99R, ad_R98, ad_98R, ad_YY, ad_YC, ad_YN, ad_YR, ad_YK, ad_Y0, ad_0Y, ad_Y99, ad_99Y, ad_Y98, ad_98Y, ad_KK, ad_KC, ad_KN, ad_KR, ad_KY, ad_K0, ad_0K, ad_K99, ad_99K, ad_K98, ad_98K, h8, h4, h6, h7, e]
        · simp [ms_r, ml_r, ms_2, ml_1, ad_CC, ad_CN, ad_CR, ad_CY, ad_CK, ad_C0, ad_0C, ad_C99, ad_99C, ad_NN, ad_NC, ad_NR, ad_NY, ad_NK, ad_N0, ad_0N, ad_N99, ad_99N, ad_N98, ad_98N, ad_RR, ad_RC, ad_RN, ad_RY, ad_RK, ad_R0, ad_0R, ad_R99, ad_99R, ad_R98, ad_98R, ad_YY, ad_YC, ad_YN, ad_YR, ad_YK, ad_Y0, ad_0Y, ad_Y99, ad_99Y, ad_Y98, ad_98Y, ad_KK, ad_KC, ad_KN, ad_KR, ad_KY, ad_K0, ad_0K, ad_K99, ad_99K, ad_K98, ad_98K, e2, e]
      have gn : ∀ i x, i < 12 → ¬ i = j' → μ1.1 (nN i) x = μ.1 (nN i) x := fun i x hi hx => by
        rw [← hμ1, mkI_0]
        unfold mkI0 clr
        have e : (srv μ o').1 (nN i) x = μ.1 (nN i) x := by rw [srv_o (by unfold nN; omega) (by unfold nN; omega)]
        simp [ms_r, ml_r, ms_2, ml_1, ad_CC, ad_CN, ad_CR, ad_CY, ad_CK, ad_C0, ad_0C, ad_C99, ad_99C, ad_NN, ad_NC, ad_NR, ad_NY, ad_NK, ad_N0, ad_0N, ad_N99, ad_99N, ad_N98, ad_98N, ad_RR, ad_RC, ad_RN, ad_RY, ad_RK, ad_R0, ad_0R, ad_R99, ad_99R, ad_R98, ad_98R, ad_YY, ad_YC, ad_YN, ad_YR, ad_YK, ad_Y0, ad_0Y, ad_Y99, ad_99Y, ad_Y98, ad_98Y, ad_KK, ad_KC, ad_KN, ad_KR, ad_KY, ad_K0, ad_0K, ad_K99, ad_99K, ad_K98, ad_98K, hx, e]
      have gnj : ∀ x, (x = 1 ∨ x = 2 ∨ x = 3 ∨ x = 5 ∨ x = 6 ∨ x = 7) → μ1.1 (nN j') x = 0 := fun x hx => by
        rw [← hμ1, mkI_0]
        unfold mkI0 clr
        rcases hx with rfl | rfl | rfl | rfl | rfl | rfl <;> simp [ms_r, ml_r, ms_2, ml_1, ad_CC, ad_CN, ad_CR, ad_CY, ad_CK, ad_C0, ad_0C, ad_C99, ad_99C, ad_NN, ad_NC, ad_NR, ad_NY, ad_NK, ad_N0, ad_0N, ad_N99, ad_99N, ad_N98, ad_98N, ad_RR, ad_RC, ad_RN, ad_RY, ad_RK, ad_R0, ad_0R, ad_R99, ad_99R, ad_R98, ad_98R, ad_YY, ad_YC, ad_YN, ad_YR, ad_YK, ad_Y0, ad_0Y, ad_Y99, ad_99Y, ad_Y98, ad_98Y, ad_KK, ad_KC, ad_KN, ad_KR, ad_KY, ad_K0, ad_0K, ad_K99, ad_99K, ad_K98, ad_98K]
      have gc4 : μ1.1 (nC j') 4 = 0 := by
        rw [← hμ1, mkI_0]; unfold mkI0 clr; simp [ms_r, ml_r, ms_2, ml_1, ad_CC, ad_CN, ad_CR, ad_CY, ad_CK, ad_C0, ad_0C, ad_C99, ad_99C, ad_NN, ad_NC, ad_NR, ad_NY, ad_NK, ad_N0, ad_0N, ad_N99, ad_99N, ad_N98, ad_98N, ad_RR, ad_RC, ad_RN, ad_RY, ad_RK, ad_R0, ad_0R, ad_R99, ad_99R, ad_R98, ad_98R, ad_YY, ad_YC, ad_YN, ad_YR, ad_YK, ad_Y0, ad_0Y, ad_Y99, ad_99Y, ad_Y98, ad_98Y, ad_KK, ad_KC, ad_KN, ad_KR, ad_KY, ad_K0, ad_0K, ad_K99, ad_99K, ad_K98, ad_98K]
      have gc7 : μ1.1 (nC j') 7 = c := by
        rw [← hμ1, mkI_0]; unfold mkI0 clr; simp [ms_r, ml_r, ms_2, ml_1, ad_CC, ad_CN, ad_CR, ad_CY, ad_CK, ad_C0, ad_0C, ad_C99, ad_99C, ad_NN, ad_NC, ad_NR, ad_NY, ad_NK, ad_N0, ad_0N, ad_N99, ad_99N, ad_N98, ad_98N, ad_RR, ad_RC, ad_RN, ad_RY, ad_RK, ad_R0, ad_0R, ad_R99, ad_99R, ad_R98, ad_98R, ad_YY, ad_YC, ad_YN, ad_YR, ad_YK, ad_Y0, ad_0Y, ad_Y99, ad_99Y, ad_Y98, ad_98Y, ad_KK, ad_KC, ad_KN, ad_KR, ad_KY, ad_K0, ad_0K, ad_K99, ad_99K, ad_K98, ad_98K]
      have go : ∀ x, (∃ i, i < 12 ∧ (x = nR i ∨ x = nF i ∨ x = nS i ∨ x = nT i)) → μ1.1 x = μ.1 x := fun x hx => by
        obtain ⟨i, hi, hx⟩ := hx
        have hC : ¬ x = nC j' := by rcases hx with rfl | rfl | rfl | rfl <;> (unfold nC; first | (unfold nR; omega) | (unfold nF; split <;> omega) | (unfold nS; split <;> omega) | (unfold nT; split <;> omega))
        have hN : ¬ x = nN j' := by rcases hx with rfl | rfl | rfl | rfl <;> (unfold nN; first | (unfold nR; omega) | (unfold nF; split <;> omega) | (unfold nS; split <;> omega) | (unfold nT; split <;> omega))
        have h98 : ¬ x = 98 := by rcases hx with rfl | rfl | rfl | rfl <;> (first | (unfold nR; omega) | (unfold nF; split <;> omega) | (unfold nS; split <;> omega) | (unfold nT; split <;> omega))
        have h0 : ¬ x = 0 := by rcases hx with rfl | rfl | rfl | rfl <;> (first | (unfold nR; omega) | (unfold nF; split <;> omega) | (unfold nS; split <;> omega) | (unfold nT; split <;> omega))
        rw [← hμ1, mkI_0]
        unfold mkI0 clr
        rw [ms_o hN, ms_o hN, ms_o hN, ms_o hN, ms_o hN, ms_o hN, ms_o hC, ms_o hC, ms_o hC, ms_o hC, srv_o h98 h0]
      have sM : ∀ x, 104 ≤ x → ¬ x = 104 → ¬ x = 106 → ¬ x = 107 → ¬ x = 114 → ¬ x = 115 → ¬ x = 116 → ¬ x = 117 → ¬ x = 118 → (mkS μ1 j' o' b c).1 x = μ1.1 x := fun x h0 h1 h2 h3 h4 h5 h6 h7 h8 => by
        unfold mkS
        rw [ms_o h5, ms_o h4, ms_o h8, ms_o h7, ms_o h3, ms_o h6, srmv_o h2 h1]
      have s104 : ∀ x, ¬ x = 3 → (mkS μ1 j' o' b c).1 104 x = μ1.1 104 x := fun x hx => by
        unfold mkS
        rw [ms_o (by decide), ms_o (by decide), ms_o (by decide), ms_o (by decide), ms_o (by decide), ms_o (by decide), srmv_104, if_neg hx]
      have s107 : ∀ i, (mkS μ1 j' o' b c).1 107 i = if i = j' then 0 else μ1.1 107 i := fun i => by
        unfold mkS
        rw [ms_o (by decide), ms_o (by decide), ms_o (by decide), ms_o (by decide), ms_r, ms_o (by decide), srmv_o (by decide) (by decide)]
        by_cases e : i = j'
        · rw [if_pos ⟨rfl, e⟩, if_pos e]
        · rw [if_neg (fun z => e z.2), if_neg e]
      refine ⟨fun i hi => ?_, hrl2, ?_, fun i hi => ?_, ?_, ?_, i7, ?_, fun x hx => ?_, fun i hi => ?_, ?_, ?_, k4, k5, ?_⟩
      · obtain ⟨p1, p2, p3⟩ := h.wf i hi
        by_cases e : i = j'
        · subst e
          refine ⟨⟨0, gnj 1 (by omega), by omega, fun x hx => by omega⟩, ⟨⟨0, gnj 7 (by omega), by omega⟩, ⟨e', by rw [gc7]; exact hc', he'⟩⟩, fun z => absurd gc4 z⟩
        · refine ⟨?_, ?_, ?_⟩
          · unfold WN; rw [gn i 1 hi e, go (nR i) ⟨i, hi, Or.inl rfl⟩]; exact p1
          · unfold WD; rw [gn i 7 hi e, gc i 7 hi (fun z => e z.1)]; exact p2
          · unfold WK; rw [gc i 4 hi (fun z => e z.1), go (nF i) ⟨i, hi, Or.inr (Or.inl rfl)⟩, go (nS i) ⟨i, hi, Or.inr (Or.inr (Or.inl rfl))⟩]; exact p3
      · intro i hi h4
        rw [s107] at h4
        by_cases e : i = j'
        · rw [if_pos e] at h4; exact absurd rfl h4
        · rw [if_neg e] at h4
          rw [sM 110 (by omega) (by omega) (by omega) (by omega) (by omega) (by omega) (by omega) (by omega) (by omega), sM 111 (by omega) (by omega) (by omega) (by omega) (by omega) (by omega) (by omega) (by omega) (by omega), sM 112 (by omega) (by omega) (by omega) (by omega) (by omega) (by omega) (by omega) (by omega) (by omega)]
          exact i3 i hi h4
      · rw [gc i 9 hi (fun z => by omega)]; exact i4 i hi
      · rw [q (nF 12) (by decide) (by decide)]; exact i5
      · rw [s104 2 (by decide)]; exact i6
      · rw [sM 105 (by omega) (by omega) (by omega) (by omega) (by omega) (by omega) (by omega) (by omega) (by omega), q (nT 12) (by decide) (by decide)]; exact i8
      · rw [q (nT 12) (by decide) (by decide)]; exact i9 x hx
      · obtain ⟨aa, t1, t2, t3⟩ := k1 i hi
        refine ⟨aa, by rw [go (nF i) ⟨i, hi, Or.inr (Or.inl rfl)⟩]; exact t1, t2, fun h4 => ?_⟩
        by_cases e : i = j'
        · subst e; exact absurd gc4 h4
        · rw [gc i 4 hi (fun z => e z.1)] at h4
          rw [sM 109 (by omega) (by omega) (by omega) (by omega) (by omega) (by omega) (by omega) (by omega) (by omega), sM 108 (by omega) (by omega) (by omega) (by omega) (by omega) (by omega) (by omega) (by omega) (by omega), go (nT i) ⟨i, hi, Or.inr (Or.inr (Or.inr rfl))⟩]
          exact t3 h4
      · rw [← hμ1, mkI_0]
        unfold mkI0 clr
        have e : (srv μ o').1 0 5 = μ.1 0 5 := by rw [srv_0, if_neg (by decide)]
        simp [ms_r, ml_r, ms_2, ml_1, ad_CC, ad_CN, ad_CR, ad_CY, ad_CK, ad_C0, ad_0C, ad_C99, ad_99C, ad_NN, ad_NC, ad_NR, ad_NY, ad_NK, ad_N0, ad_0N, ad_N99, ad_99N, ad_N98, ad_98N, ad_RR, ad_RC, ad_RN, ad_RY, ad_RK, ad_R0, ad_0R, ad_R99, ad_99R, ad_R98, ad_98R, ad_YY, ad_YC, ad_YN, ad_YR, ad_YK, ad_Y0, ad_0Y, ad_Y99, ad_99Y, ad_Y98, ad_98Y, ad_KK, ad_KC, ad_KN, ad_KR, ad_KY, ad_K0, ad_0K, ad_K99, ad_99K, ad_K98, ad_98K, e, k2]
      · rw [s104 0 (by decide)]; exact k3
      · refine Nat.le_trans (vcn_mono (γ := μ) (fun i hi z => ?_) 12 (Nat.le_refl _)) h.vk
        by_cases e : i = j'
        · subst e; exact absurd (gnj 3 (by omega)) z
        · rw [gn i 3 hi e] at z; exact z
