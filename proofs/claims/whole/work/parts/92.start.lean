/-- from the entry to the end, out of the law's walk on the abstract machine -/
theorem ns_start (D0 : Nat) (hD : D0 + 1 ≤ 2048) (hIx : ∀ (l : Launch) (rc adV : Nat → Nat) (A : Nat → Prop) (L : Nat) (xs : Nat → Int32), ax_IxOK l rc A (ns_G A rc adV L xs) ns_tb ns_Tb ns_cn)
    (law : ∀ (L : Nat) (xs : Nat → Int32), L ≤ 2049 → nW L xs D0 ns_I_L_law (fun v _ => v = some (.int 1)) 0 (ax_en 4 [.retAddr 0]) [] 0 0 (0, fun _ => none))
    {p : Program} {e : Env} {s : State} {m : MethodId} {below : List Frame} {meth : Method} {c : Code} (l : Launch) {b L : Nat} {xs : Nat → Int32} (hL : L ≤ 2049) (C0 : lw_At p s m meth c b L xs) : W p l e room_1 s m #[Value.ref b] below meth c s.heap [] 0 0 (lw_Z below #[Value.ref b] s) (entryFrame m ([Value.ref b] : List Value).toArray 4) := by
  obtain ⟨hx, hb, hr, hml, hown, hts0, hX, hbl, hlocks, hgv⟩ := C0
  have hs := flat_of_before _ hgv
  have hts : ∀ w ∈ ns_Tb, w.before #[Value.ref b] s = true := fun w hw => hts0 w (List.mem_filter.mp hw).1
  have hao : va_AO "NoteSheet$Cell" s := va_AO.of (hts0 _ (List.mem_append_right _ (List.mem_of_getElem? (i := 29) (by decide +kernel))))
  obtain ⟨D, cT, tys, hK, hAr⟩ := ns_K hts hao
  let A : Nat → Prop := fun q => s.heap.size ≤ q
  have hA : ∀ a : Nat, a < s.heap.size → ¬ A a := fun a h1 h2 => absurd h1 (Nat.not_lt.mpr h2)
  obtain ⟨adK, adV, hSt, hte⟩ := vk_Sof (args := #[Value.ref b]) (s := s) (N := 1) (tm := fun _ => .string "NoteSheet$Formula" 26) (len := [10]) (byt := [[63, 58, 60, 61, 43, 45, 42, 40, 41, 64]]) (A := A)
    (fun i hi => by obtain rfl : i = 0 := (by omega); decide) (fun i hi => hs _ (by decide +kernel)) (fun i hi => hs _ (by decide +kernel)) (fun i hi => hs _ (by decide +kernel))
    (fun i hi => by obtain rfl : i = 0 := (by omega); exact hs _ (by decide +kernel))
    (fun i hi j hj => by
      obtain rfl : i = 0 := (by omega)
      have hj : j < 10 := hj
      match j, hj with
      | 0, _ => exact hs _ (by decide +kernel)
      | 1, _ => exact hs _ (by decide +kernel)
      | 2, _ => exact hs _ (by decide +kernel)
      | 3, _ => exact hs _ (by decide +kernel)
      | 4, _ => exact hs _ (by decide +kernel)
      | 5, _ => exact hs _ (by decide +kernel)
      | 6, _ => exact hs _ (by decide +kernel)
      | 7, _ => exact hs _ (by decide +kernel)
      | 8, _ => exact hs _ (by decide +kernel)
      | 9, _ => exact hs _ (by decide +kernel)
      | n + 10, h => exact absurd h (by omega))
    (fun i j hi hj hne => absurd (show i = j by omega) hne) hA
  let rc : Nat → Nat := fun i => if i = 0 then b else adK 0
  have hR : vk_R "NoteSheet$Formula" 26 "?:<=+-*()@" (adK 0) s := vk_R.of (hts0 _ (List.mem_append_right _ (List.mem_of_getElem? (i := 195) (by decide +kernel)))) (hte 0 (by decide))
  have hZ : va_Z "java/lang/String" "COMPACT_STRINGS" "Z" (.int 1) A s s.heap := va_Zof (hts0 _ (List.mem_append_right _ (List.mem_of_getElem? (i := 209) (by decide +kernel)))) (hts0 _ (List.mem_append_right _ (List.mem_of_getElem? (i := 8) (by decide +kernel)))) (va_eqi (hs _ (by decide +kernel))) hA
  have hG : ns_G A rc adV L xs s := ⟨hX, hbl, hA _ hbl, hao, hR, ⟨fun i hi => by obtain rfl : i = 0 := (by omega); exact hSt.1 0 (by decide), fun i j hi hj _ => by omega⟩, hZ⟩
  have hGo : ax_okG A (ns_G A rc adV L xs) rc L xs := ns_okG
  have hNo : ax_okN ns_cl ns_Tb ns_cn ns_tb (ns_G A rc adV L xs) := ns_okN (fun s h => h.2.2.2.1)
  have hKo : ax_okK ns_Tb ns_cn ns_tb rc (ns_G A rc adV L xs) := ns_okK (fun s h => h.2.2.2.2.1)
  rw [lg_entry_eq]
  have key := law L xs hL (fun pc ls st k n h' => ∀ (ad' : Nat → Nat) lsA H locs, ((0, fun _ => none) : ax_H).1 ≤ h'.1 → (∀ i, i < ((0, fun _ => none) : ax_H).1 → ad' i = id i) → k ≤ 600000 → n ≤ 7302250 → ax_hw h' → ax_ak h' → (∀ v ∈ st, ax_vw h'.1 v) → ax_lw h'.1 ls → ax_lm ad' rc lsA 4 ls → va_P D ns_cl (ax_w ad' rc cT h') H → va_D A (ax_w ad' rc cT h') → va_S A s.heap H locs → W p l e room_1 s m #[Value.ref b] below meth c H locs k n (lw_Z below #[Value.ref b] s) (F0 m pc lsA (st.map (ax_v ad' rc))))
    (ax_one (d := D0) (I := ns_I_L_law) (Q := fun v _ => v = some (.int 1)) (h0 := (0, fun _ => none)) (ad0 := id) (D := D) (cT := cT) (tys := tys) (rc := rc) (A := A) (G := ns_G A rc adV L xs) (Tb := ns_Tb) (cn := ns_cn) (nm := ns_nm) ns_hcn ns_okF hNo hKo ns_okC ns_okM hAr hGo ns_good hx hb hml hown (fun z => by cases z) hts hK hG (fun q h => h) hD (show 40 * (D0 + 1) ≤ 84000 by omega) (Nat.le_refl _) (Nat.le_refl _)
      (hIx l rc adV A L xs p e room_1 s m _ below meth c _ ns_I_L_law D0 hx hb hml hown hts hG (fun q h => h) hD (show 40 * (D0 + 1) ≤ 84000 by omega))
      (ax_met ns_hcn ns_okF hNo hKo ns_okC ns_okM hAr hGo ns_good (hIx l rc adV A L xs) D0) ?_ (fun _ _ _ _ _ _ z => z) (fun z => z))
  · exact key id _ s.heap [] (Nat.le_refl _) (fun _ _ => rfl) (Nat.zero_le _) (Nat.zero_le _) (fun i => ⟨fun h => absurd h (Nat.not_lt_zero _), fun e h => by cases h⟩) (fun i t a h => by cases h) (fun v hv => by cases hv) (ax_en_lw (fun v hv => by rcases List.mem_singleton.mp hv with rfl; exact ax_vw_con)) (ax_en_lm id rc (ml := 4) (args := [.retAddr 0]) (by decide)) (fun k q h => by cases h) ⟨(fun i j p q h => by cases h), (fun k q h => by cases h)⟩ va_S.rf
  · intro i pc lsA ad' h' H locs k n v hd hi hq b1 b2 b3 b4 b5 hP1 hD1 hS1 hk hn
    subst hq
    rcases hi with ⟨rfl, x, ty, hv, hty, hnar⟩ | ⟨rfl, ⟨x, hv⟩, hty⟩ | ⟨rfl, hv, hty⟩
    · refine va_forget (fun q hq => hS1.2.2 q hq) (W.widen hk hn ?_)
      exact lw_ret hx hb hr hlocks hd
    · cases hv
    · cases hv
