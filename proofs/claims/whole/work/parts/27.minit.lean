/-! the model's constructor -/
def nMost (x : Int32) : Int32 := if x < 1 then 1 else if 12 < x then 12 else x
theorem nMost_kept (x : Int32) : nMost x = nKept x := by
  unfold nMost nKept
  by_cases h1 : x < 1
  · have h2 : x < 12 := Int32.lt_trans h1 (by decide)
    have h3 : ¬ (1 : Int32) < x := fun z => absurd (Int32.lt_trans z h1) (Int32.lt_irrefl)
    simp [h1, h2, h3]
  · by_cases h2 : x < 12
    · have h4 : ¬ (12 : Int32) < x := fun z => absurd (Int32.lt_trans z h2) (Int32.lt_irrefl)
      by_cases h3 : (1 : Int32) < x
      · simp [h1, h2, h3, h4]
      · have : x = 1 := Int32.le_antisymm (Int32.not_lt.mp h3) (Int32.not_lt.mp h1)
        subst this
        decide
    · by_cases h4 : (12 : Int32) < x
      · simp [h1, h2, h4]
      · have : x = 12 := Int32.le_antisymm (Int32.not_lt.mp h4) (Int32.not_lt.mp h2)
        subst this
        decide
theorem c_M_init {L : Nat} {xs : Nat → Int32} {d : Nat} {Q : ax_Q} {μ : nMem} {kp : Int32} (hz : ∀ b, 104 < b → μ.1 b = fun _ => 0) (hl : ∀ b, μ.2 b = fun _ => 0) (h0 : μ.1 104 0 = nMost kp) (h2 : μ.1 104 2 = 0) (h3 : μ.1 104 3 = 1) (h24 : μ.1 104 24 = 0) (h27 : μ.1 104 27 = 0) (h37 : μ.1 104 37 = 0) (h40 : μ.1 104 40 = 0) (hq : Q none (ns_rp 141 μ)) : nM L xs (d + 1) 30 [.ref 104, .int kp] (hP 105 μ (oset onone 104 (.inr (5, [.int 0, .null, .int 0, .int 0, .null, .null, .null, .null, .null, .null, .null, .null, .null, .null, .null, .null, .null, .null, .null, .null, .null, .null, .null, .null, .int 0, .null, .null, .int 0, .null, .null, .null, .null, .null, .null, .null, .null, .null, .int 0, .null, .null, .int 0, .null, .null])))) Q := by
  refine nM.of ns_I_M_init rfl (ls := [_, _]) (Nat.le_of_ble_eq_true rfl) rfl ?_
  refine aw_aload_n (pc' := 1) nd_M_init_0 rfl rfl rfl ?_
  refine aw_objInit (x := 0) (y := 0) (pc' := 4) nd_M_init_1 rfl nC_5_1 (Nat.le_of_ble_eq_true rfl) ?_
  refine aw_aload_n (pc' := 5) nd_M_init_4 rfl rfl rfl ?_
  refine aw_bipush (pc' := 7) (x := 30) nd_M_init_5 rfl (by decide) ?_
  refine hw_newa (N := 105) (pc' := 9) (M := 30) nd_M_init_7 rfl rfl (by decide) (Nat.le_of_ble_eq_true rfl) (Nat.le_of_ble_eq_true rfl) rfl rfl (by rfl) (by rw [hz _ (by decide)]; rfl) ?_
  refine aw_putF (pc' := 12) nd_M_init_9 rfl nF_5_7 ⟨rfl, rfl⟩ trivial (hw_pfv oset_eq (Nat.le_of_ble_eq_true rfl) rfl oset_same) ?_
  refine aw_aload_n (pc' := 13) nd_M_init_12 rfl rfl rfl ?_
  refine aw_iconst (pc' := 14) (x := 1) nd_M_init_13 rfl (by decide) ?_
  refine aw_put (pc' := 17) nd_M_init_14 rfl nF_5_13 trivial (hw_pfv oset_eq (Nat.le_of_ble_eq_true rfl) rfl oset_same) ?_
  refine aw_aload_n (pc' := 18) nd_M_init_17 rfl rfl rfl ?_
  refine aw_iconst (pc' := 19) (x := 3) nd_M_init_18 rfl (by decide) ?_
  refine hw_newa (N := 106) (pc' := 21) (M := 3) nd_M_init_19 rfl rfl (by decide) (Nat.le_of_ble_eq_true rfl) (Nat.le_of_ble_eq_true rfl) rfl rfl (by rfl) (by rw [hz _ (by decide)]; rfl) ?_
  refine aw_putF (pc' := 24) nd_M_init_21 rfl nF_5_17 ⟨rfl, rfl⟩ trivial (hw_pfv oset_eq (Nat.le_of_ble_eq_true rfl) rfl oset_same) ?_
  refine aw_aload_n (pc' := 25) nd_M_init_24 rfl rfl rfl ?_
  refine aw_bipush (pc' := 27) (x := 12) nd_M_init_25 rfl (by decide) ?_
  refine hw_newa (N := 107) (pc' := 29) (M := 12) nd_M_init_27 rfl rfl (by decide) (Nat.le_of_ble_eq_true rfl) (Nat.le_of_ble_eq_true rfl) rfl rfl (by rfl) (by rw [hz _ (by decide)]; rfl) ?_
  refine aw_putF (pc' := 32) nd_M_init_29 rfl nF_5_20 ⟨rfl, rfl⟩ trivial (hw_pfv oset_eq (Nat.le_of_ble_eq_true rfl) rfl oset_same) ?_
  refine aw_aload_n (pc' := 33) nd_M_init_32 rfl rfl rfl ?_
  refine aw_sipush (pc' := 36) (x := 360) nd_M_init_33 rfl (by decide) ?_
  refine hw_newa (N := 108) (pc' := 38) (M := 360) nd_M_init_36 rfl rfl (by decide) (Nat.le_of_ble_eq_true rfl) (Nat.le_of_ble_eq_true rfl) rfl rfl (by rfl) (by rw [hz _ (by decide)]; rfl) ?_
  refine aw_putF (pc' := 41) nd_M_init_38 rfl nF_5_24 ⟨rfl, rfl⟩ trivial (hw_pfv oset_eq (Nat.le_of_ble_eq_true rfl) rfl oset_same) ?_
  refine aw_aload_n (pc' := 42) nd_M_init_41 rfl rfl rfl ?_
  refine aw_bipush (pc' := 44) (x := 12) nd_M_init_42 rfl (by decide) ?_
  refine hw_newa (N := 109) (pc' := 46) (M := 12) nd_M_init_44 rfl rfl (by decide) (Nat.le_of_ble_eq_true rfl) (Nat.le_of_ble_eq_true rfl) rfl rfl (by rfl) (by rw [hz _ (by decide)]; rfl) ?_
  refine aw_putF (pc' := 49) nd_M_init_46 rfl nF_5_27 ⟨rfl, rfl⟩ trivial (hw_pfv oset_eq (Nat.le_of_ble_eq_true rfl) rfl oset_same) ?_
  refine aw_aload_n (pc' := 50) nd_M_init_49 rfl rfl rfl ?_
  refine aw_bipush (pc' := 52) (x := 12) nd_M_init_50 rfl (by decide) ?_
  refine hw_newa (N := 110) (pc' := 54) (M := 12) nd_M_init_52 rfl rfl (by decide) (Nat.le_of_ble_eq_true rfl) (Nat.le_of_ble_eq_true rfl) rfl rfl (by rfl) (by rw [hz _ (by decide)]; rfl) ?_
  refine aw_putF (pc' := 57) nd_M_init_54 rfl nF_5_30 ⟨rfl, rfl⟩ trivial (hw_pfv oset_eq (Nat.le_of_ble_eq_true rfl) rfl oset_same) ?_
  refine aw_aload_n (pc' := 58) nd_M_init_57 rfl rfl rfl ?_
  refine aw_sipush (pc' := 61) (x := 480) nd_M_init_58 rfl (by decide) ?_
  refine hw_newa (N := 111) (pc' := 63) (M := 480) nd_M_init_61 rfl rfl (by decide) (Nat.le_of_ble_eq_true rfl) (Nat.le_of_ble_eq_true rfl) rfl rfl (by rfl) (by rw [hz _ (by decide)]; rfl) ?_
  refine aw_putF (pc' := 66) nd_M_init_63 rfl nF_5_33 ⟨rfl, rfl⟩ trivial (hw_pfv oset_eq (Nat.le_of_ble_eq_true rfl) rfl oset_same) ?_
  refine aw_aload_n (pc' := 67) nd_M_init_66 rfl rfl rfl ?_
  refine aw_sipush (pc' := 70) (x := 480) nd_M_init_67 rfl (by decide) ?_
  refine hw_newa (N := 112) (pc' := 72) (M := 480) nd_M_init_70 rfl rfl (by decide) (Nat.le_of_ble_eq_true rfl) (Nat.le_of_ble_eq_true rfl) rfl rfl (by rfl) (by rw [hz _ (by decide)]; rfl) ?_
  refine aw_putF (pc' := 75) nd_M_init_72 rfl nF_5_36 ⟨rfl, rfl⟩ trivial (hw_pfv oset_eq (Nat.le_of_ble_eq_true rfl) rfl oset_same) ?_
  refine aw_aload_n (pc' := 76) nd_M_init_75 rfl rfl rfl ?_
  refine aw_bipush (pc' := 78) (x := 12) nd_M_init_76 rfl (by decide) ?_
  refine hw_newa (N := 113) (pc' := 80) (M := 12) nd_M_init_78 rfl rfl (by decide) (Nat.le_of_ble_eq_true rfl) (Nat.le_of_ble_eq_true rfl) rfl rfl (by rfl) (by rw [hz _ (by decide)]; rfl) ?_
  refine aw_putF (pc' := 83) nd_M_init_80 rfl nF_5_39 ⟨rfl, rfl⟩ trivial (hw_pfv oset_eq (Nat.le_of_ble_eq_true rfl) rfl oset_same) ?_
  refine aw_aload_n (pc' := 84) nd_M_init_83 rfl rfl rfl ?_
  refine aw_bipush (pc' := 86) (x := 12) nd_M_init_84 rfl (by decide) ?_
  refine hw_newa (N := 114) (pc' := 88) (M := 12) nd_M_init_86 rfl rfl (by decide) (Nat.le_of_ble_eq_true rfl) (Nat.le_of_ble_eq_true rfl) rfl rfl (by rfl) (by rw [hz _ (by decide)]; rfl) ?_
  refine aw_putF (pc' := 91) nd_M_init_88 rfl nF_5_42 ⟨rfl, rfl⟩ trivial (hw_pfv oset_eq (Nat.le_of_ble_eq_true rfl) rfl oset_same) ?_
  refine aw_aload_n (pc' := 92) nd_M_init_91 rfl rfl rfl ?_
  refine aw_bipush (pc' := 94) (x := 12) nd_M_init_92 rfl (by decide) ?_
  refine hw_newa (N := 115) (pc' := 96) (M := 12) nd_M_init_94 rfl rfl (by decide) (Nat.le_of_ble_eq_true rfl) (Nat.le_of_ble_eq_true rfl) rfl rfl (by rfl) (by rw [hz _ (by decide)]; rfl) ?_
  refine aw_putF (pc' := 99) nd_M_init_96 rfl nF_5_45 ⟨rfl, rfl⟩ trivial (hw_pfv oset_eq (Nat.le_of_ble_eq_true rfl) rfl oset_same) ?_
  refine aw_aload_n (pc' := 100) nd_M_init_99 rfl rfl rfl ?_
  refine aw_bipush (pc' := 102) (x := 12) nd_M_init_100 rfl (by decide) ?_
  refine hw_newa (N := 116) (pc' := 104) (M := 12) nd_M_init_102 rfl rfl (by decide) (Nat.le_of_ble_eq_true rfl) (Nat.le_of_ble_eq_true rfl) rfl rfl (by rfl) (by rw [hz _ (by decide)]; rfl) ?_
  refine aw_putF (pc' := 107) nd_M_init_104 rfl nF_5_48 ⟨rfl, rfl⟩ trivial (hw_pfv oset_eq (Nat.le_of_ble_eq_true rfl) rfl oset_same) ?_
  refine aw_aload_n (pc' := 108) nd_M_init_107 rfl rfl rfl ?_
  refine aw_bipush (pc' := 110) (x := 12) nd_M_init_108 rfl (by decide) ?_
  refine hw_newa (N := 117) (pc' := 112) (M := 12) nd_M_init_110 rfl rfl (by decide) (Nat.le_of_ble_eq_true rfl) (Nat.le_of_ble_eq_true rfl) rfl rfl (by rfl) (by rw [hz _ (by decide)]; rfl) ?_
  refine aw_putF (pc' := 115) nd_M_init_112 rfl nF_5_51 ⟨rfl, rfl⟩ trivial (hw_pfv oset_eq (Nat.le_of_ble_eq_true rfl) rfl oset_same) ?_
  refine aw_aload_n (pc' := 116) nd_M_init_115 rfl rfl rfl ?_
  refine aw_bipush (pc' := 118) (x := 12) nd_M_init_116 rfl (by decide) ?_
  refine hw_newa (N := 118) (pc' := 120) (M := 12) nd_M_init_118 rfl rfl (by decide) (Nat.le_of_ble_eq_true rfl) (Nat.le_of_ble_eq_true rfl) rfl rfl (by rfl) (by rw [hz _ (by decide)]; rfl) ?_
  refine aw_putF (pc' := 123) nd_M_init_120 rfl nF_5_54 ⟨rfl, rfl⟩ trivial (hw_pfv oset_eq (Nat.le_of_ble_eq_true rfl) rfl oset_same) ?_
  refine aw_aload_n (pc' := 124) nd_M_init_123 rfl rfl rfl ?_
  refine aw_bipush (pc' := 126) (x := 12) nd_M_init_124 rfl (by decide) ?_
  refine hw_newa (N := 119) (pc' := 128) (M := 12) nd_M_init_126 rfl rfl (by decide) (Nat.le_of_ble_eq_true rfl) (Nat.le_of_ble_eq_true rfl) rfl rfl (by rfl) (by rw [hl]; rfl) ?_
  refine aw_putF (pc' := 131) nd_M_init_128 rfl nF_5_57 ⟨rfl, rfl⟩ trivial (hw_pfv oset_eq (Nat.le_of_ble_eq_true rfl) rfl oset_same) ?_
  refine aw_aload_n (pc' := 132) nd_M_init_131 rfl rfl rfl ?_
  refine aw_bipush (pc' := 134) (x := 12) nd_M_init_132 rfl (by decide) ?_
  refine hw_newa (N := 120) (pc' := 136) (M := 12) nd_M_init_134 rfl rfl (by decide) (Nat.le_of_ble_eq_true rfl) (Nat.le_of_ble_eq_true rfl) rfl rfl (by rfl) (by rw [hz _ (by decide)]; rfl) ?_
  refine aw_putF (pc' := 139) nd_M_init_136 rfl nF_5_61 ⟨rfl, rfl⟩ trivial (hw_pfv oset_eq (Nat.le_of_ble_eq_true rfl) rfl oset_same) ?_
  refine aw_aload_n (pc' := 140) nd_M_init_139 rfl rfl rfl ?_
  refine aw_bipush (pc' := 142) (x := 12) nd_M_init_140 rfl (by decide) ?_
  refine hw_newa (N := 121) (pc' := 144) (M := 12) nd_M_init_142 rfl rfl (by decide) (Nat.le_of_ble_eq_true rfl) (Nat.le_of_ble_eq_true rfl) rfl rfl (by rfl) (by rw [hz _ (by decide)]; rfl) ?_
  refine aw_putF (pc' := 147) nd_M_init_144 rfl nF_5_64 ⟨rfl, rfl⟩ trivial (hw_pfv oset_eq (Nat.le_of_ble_eq_true rfl) rfl oset_same) ?_
  refine aw_aload_n (pc' := 148) nd_M_init_147 rfl rfl rfl ?_
  refine aw_bipush (pc' := 150) (x := 12) nd_M_init_148 rfl (by decide) ?_
  refine hw_newa (N := 122) (pc' := 152) (M := 12) nd_M_init_150 rfl rfl (by decide) (Nat.le_of_ble_eq_true rfl) (Nat.le_of_ble_eq_true rfl) rfl rfl (by rfl) (by rw [hz _ (by decide)]; rfl) ?_
  refine aw_putF (pc' := 155) nd_M_init_152 rfl nF_5_67 ⟨rfl, rfl⟩ trivial (hw_pfv oset_eq (Nat.le_of_ble_eq_true rfl) rfl oset_same) ?_
  refine aw_aload_n (pc' := 156) nd_M_init_155 rfl rfl rfl ?_
  refine aw_bipush (pc' := 158) (x := 12) nd_M_init_156 rfl (by decide) ?_
  refine hw_newa (N := 123) (pc' := 160) (M := 12) nd_M_init_158 rfl rfl (by decide) (Nat.le_of_ble_eq_true rfl) (Nat.le_of_ble_eq_true rfl) rfl rfl (by rfl) (by rw [hz _ (by decide)]; rfl) ?_
  refine aw_putF (pc' := 163) nd_M_init_160 rfl nF_5_70 ⟨rfl, rfl⟩ trivial (hw_pfv oset_eq (Nat.le_of_ble_eq_true rfl) rfl oset_same) ?_
  refine aw_aload_n (pc' := 164) nd_M_init_163 rfl rfl rfl ?_
  refine aw_sipush (pc' := 167) (x := 144) nd_M_init_164 rfl (by decide) ?_
  refine hw_newa (N := 124) (pc' := 169) (M := 144) nd_M_init_167 rfl rfl (by decide) (Nat.le_of_ble_eq_true rfl) (Nat.le_of_ble_eq_true rfl) rfl rfl (by rfl) (by rw [hz _ (by decide)]; rfl) ?_
  refine aw_putF (pc' := 172) nd_M_init_169 rfl nF_5_73 ⟨rfl, rfl⟩ trivial (hw_pfv oset_eq (Nat.le_of_ble_eq_true rfl) rfl oset_same) ?_
  refine aw_aload_n (pc' := 173) nd_M_init_172 rfl rfl rfl ?_
  refine aw_bipush (pc' := 175) (x := 12) nd_M_init_173 rfl (by decide) ?_
  refine hw_newa (N := 125) (pc' := 177) (M := 12) nd_M_init_175 rfl rfl (by decide) (Nat.le_of_ble_eq_true rfl) (Nat.le_of_ble_eq_true rfl) rfl rfl (by rfl) (by rw [hz _ (by decide)]; rfl) ?_
  refine aw_putF (pc' := 180) nd_M_init_177 rfl nF_5_76 ⟨rfl, rfl⟩ trivial (hw_pfv oset_eq (Nat.le_of_ble_eq_true rfl) rfl oset_same) ?_
  refine aw_aload_n (pc' := 181) nd_M_init_180 rfl rfl rfl ?_
  refine aw_bipush (pc' := 183) (x := 36) nd_M_init_181 rfl (by decide) ?_
  refine hw_newa (N := 126) (pc' := 185) (M := 36) nd_M_init_183 rfl rfl (by decide) (Nat.le_of_ble_eq_true rfl) (Nat.le_of_ble_eq_true rfl) rfl rfl (by rfl) (by rw [hz _ (by decide)]; rfl) ?_
  refine aw_putF (pc' := 188) nd_M_init_185 rfl nF_5_79 ⟨rfl, rfl⟩ trivial (hw_pfv oset_eq (Nat.le_of_ble_eq_true rfl) rfl oset_same) ?_
  refine aw_aload_n (pc' := 189) nd_M_init_188 rfl rfl rfl ?_
  refine aw_iconst (pc' := 190) (x := 3) nd_M_init_189 rfl (by decide) ?_
  refine hw_newa (N := 127) (pc' := 192) (M := 3) nd_M_init_190 rfl rfl (by decide) (Nat.le_of_ble_eq_true rfl) (Nat.le_of_ble_eq_true rfl) rfl rfl (by rfl) (by rw [hz _ (by decide)]; rfl) ?_
  refine aw_putF (pc' := 195) nd_M_init_192 rfl nF_5_82 ⟨rfl, rfl⟩ trivial (hw_pfv oset_eq (Nat.le_of_ble_eq_true rfl) rfl oset_same) ?_
  refine aw_aload_n (pc' := 196) nd_M_init_195 rfl rfl rfl ?_
  refine aw_bipush (pc' := 198) (x := 12) nd_M_init_196 rfl (by decide) ?_
  refine hw_newa (N := 128) (pc' := 200) (M := 12) nd_M_init_198 rfl rfl (by decide) (Nat.le_of_ble_eq_true rfl) (Nat.le_of_ble_eq_true rfl) rfl rfl (by rfl) (by rw [hz _ (by decide)]; rfl) ?_
  refine aw_putF (pc' := 203) nd_M_init_200 rfl nF_5_85 ⟨rfl, rfl⟩ trivial (hw_pfv oset_eq (Nat.le_of_ble_eq_true rfl) rfl oset_same) ?_
  refine aw_aload_n (pc' := 204) nd_M_init_203 rfl rfl rfl ?_
  refine aw_bipush (pc' := 206) (x := 12) nd_M_init_204 rfl (by decide) ?_
  refine hw_newa (N := 129) (pc' := 208) (M := 12) nd_M_init_206 rfl rfl (by decide) (Nat.le_of_ble_eq_true rfl) (Nat.le_of_ble_eq_true rfl) rfl rfl (by rfl) (by rw [hz _ (by decide)]; rfl) ?_
  refine aw_putF (pc' := 211) nd_M_init_208 rfl nF_5_88 ⟨rfl, rfl⟩ trivial (hw_pfv oset_eq (Nat.le_of_ble_eq_true rfl) rfl oset_same) ?_
  refine aw_aload_n (pc' := 212) nd_M_init_211 rfl rfl rfl ?_
  refine aw_bipush (pc' := 214) (x := 12) nd_M_init_212 rfl (by decide) ?_
  refine hw_newa (N := 130) (pc' := 216) (M := 12) nd_M_init_214 rfl rfl (by decide) (Nat.le_of_ble_eq_true rfl) (Nat.le_of_ble_eq_true rfl) rfl rfl (by rfl) (by rw [hz _ (by decide)]; rfl) ?_
  refine aw_putF (pc' := 219) nd_M_init_216 rfl nF_5_91 ⟨rfl, rfl⟩ trivial (hw_pfv oset_eq (Nat.le_of_ble_eq_true rfl) rfl oset_same) ?_
  refine aw_aload_n (pc' := 220) nd_M_init_219 rfl rfl rfl ?_
  refine aw_bipush (pc' := 222) (x := 12) nd_M_init_220 rfl (by decide) ?_
  refine hw_newa (N := 131) (pc' := 224) (M := 12) nd_M_init_222 rfl rfl (by decide) (Nat.le_of_ble_eq_true rfl) (Nat.le_of_ble_eq_true rfl) rfl rfl (by rfl) (by rw [hz _ (by decide)]; rfl) ?_
  refine aw_putF (pc' := 227) nd_M_init_224 rfl nF_5_94 ⟨rfl, rfl⟩ trivial (hw_pfv oset_eq (Nat.le_of_ble_eq_true rfl) rfl oset_same) ?_
  refine aw_aload_n (pc' := 228) nd_M_init_227 rfl rfl rfl ?_
  refine aw_sipush (pc' := 231) (x := 192) nd_M_init_228 rfl (by decide) ?_
  refine hw_newa (N := 132) (pc' := 233) (M := 192) nd_M_init_231 rfl rfl (by decide) (Nat.le_of_ble_eq_true rfl) (Nat.le_of_ble_eq_true rfl) rfl rfl (by rfl) (by rw [hl]; rfl) ?_
  refine aw_putF (pc' := 236) nd_M_init_233 rfl nF_5_97 ⟨rfl, rfl⟩ trivial (hw_pfv oset_eq (Nat.le_of_ble_eq_true rfl) rfl oset_same) ?_
  refine aw_aload_n (pc' := 237) nd_M_init_236 rfl rfl rfl ?_
  refine aw_bipush (pc' := 239) (x := 12) nd_M_init_237 rfl (by decide) ?_
  refine hw_newa (N := 133) (pc' := 241) (M := 12) nd_M_init_239 rfl rfl (by decide) (Nat.le_of_ble_eq_true rfl) (Nat.le_of_ble_eq_true rfl) rfl rfl (by rfl) (by rw [hz _ (by decide)]; rfl) ?_
  refine aw_putF (pc' := 244) nd_M_init_241 rfl nF_5_100 ⟨rfl, rfl⟩ trivial (hw_pfv oset_eq (Nat.le_of_ble_eq_true rfl) rfl oset_same) ?_
  refine aw_aload_n (pc' := 245) nd_M_init_244 rfl rfl rfl ?_
  refine aw_sipush (pc' := 248) (x := 144) nd_M_init_245 rfl (by decide) ?_
  refine hw_newa (N := 134) (pc' := 250) (M := 144) nd_M_init_248 rfl rfl (by decide) (Nat.le_of_ble_eq_true rfl) (Nat.le_of_ble_eq_true rfl) rfl rfl (by rfl) (by rw [hz _ (by decide)]; rfl) ?_
  refine aw_putF (pc' := 253) nd_M_init_250 rfl nF_5_103 ⟨rfl, rfl⟩ trivial (hw_pfv oset_eq (Nat.le_of_ble_eq_true rfl) rfl oset_same) ?_
  refine aw_aload_n (pc' := 254) nd_M_init_253 rfl rfl rfl ?_
  refine aw_bipush (pc' := 256) (x := 12) nd_M_init_254 rfl (by decide) ?_
  refine hw_newa (N := 135) (pc' := 258) (M := 12) nd_M_init_256 rfl rfl (by decide) (Nat.le_of_ble_eq_true rfl) (Nat.le_of_ble_eq_true rfl) rfl rfl (by rfl) (by rw [hz _ (by decide)]; rfl) ?_
  refine aw_putF (pc' := 261) nd_M_init_258 rfl nF_5_106 ⟨rfl, rfl⟩ trivial (hw_pfv oset_eq (Nat.le_of_ble_eq_true rfl) rfl oset_same) ?_
  refine aw_aload_n (pc' := 262) nd_M_init_261 rfl rfl rfl ?_
  refine aw_bipush (pc' := 264) (x := 12) nd_M_init_262 rfl (by decide) ?_
  refine hw_newa (N := 136) (pc' := 266) (M := 12) nd_M_init_264 rfl rfl (by decide) (Nat.le_of_ble_eq_true rfl) (Nat.le_of_ble_eq_true rfl) rfl rfl (by rfl) (by rw [hz _ (by decide)]; rfl) ?_
  refine aw_putF (pc' := 269) nd_M_init_266 rfl nF_5_109 ⟨rfl, rfl⟩ trivial (hw_pfv oset_eq (Nat.le_of_ble_eq_true rfl) rfl oset_same) ?_
  refine aw_aload_n (pc' := 270) nd_M_init_269 rfl rfl rfl ?_
  refine aw_bipush (pc' := 272) (x := 64) nd_M_init_270 rfl (by decide) ?_
  refine hw_newa (N := 137) (pc' := 274) (M := 64) nd_M_init_272 rfl rfl (by decide) (Nat.le_of_ble_eq_true rfl) (Nat.le_of_ble_eq_true rfl) rfl rfl (by rfl) (by rw [hz _ (by decide)]; rfl) ?_
  refine aw_putF (pc' := 277) nd_M_init_274 rfl nF_5_112 ⟨rfl, rfl⟩ trivial (hw_pfv oset_eq (Nat.le_of_ble_eq_true rfl) rfl oset_same) ?_
  refine aw_aload_n (pc' := 278) nd_M_init_277 rfl rfl rfl ?_
  refine aw_bipush (pc' := 280) (x := 64) nd_M_init_278 rfl (by decide) ?_
  refine hw_newa (N := 138) (pc' := 282) (M := 64) nd_M_init_280 rfl rfl (by decide) (Nat.le_of_ble_eq_true rfl) (Nat.le_of_ble_eq_true rfl) rfl rfl (by rfl) (by rw [hz _ (by decide)]; rfl) ?_
  refine aw_putF (pc' := 285) nd_M_init_282 rfl nF_5_115 ⟨rfl, rfl⟩ trivial (hw_pfv oset_eq (Nat.le_of_ble_eq_true rfl) rfl oset_same) ?_
  refine aw_aload_n (pc' := 286) nd_M_init_285 rfl rfl rfl ?_
  refine aw_bipush (pc' := 288) (x := 40) nd_M_init_286 rfl (by decide) ?_
  refine hw_newa (N := 139) (pc' := 290) (M := 40) nd_M_init_288 rfl rfl (by decide) (Nat.le_of_ble_eq_true rfl) (Nat.le_of_ble_eq_true rfl) rfl rfl (by rfl) (by rw [hz _ (by decide)]; rfl) ?_
  refine aw_putF (pc' := 293) nd_M_init_290 rfl nF_5_118 ⟨rfl, rfl⟩ trivial (hw_pfv oset_eq (Nat.le_of_ble_eq_true rfl) rfl oset_same) ?_
  refine aw_aload_n (pc' := 294) nd_M_init_293 rfl rfl rfl ?_
  refine aw_bipush (pc' := 296) (x := 40) nd_M_init_294 rfl (by decide) ?_
  refine hw_newa (N := 140) (pc' := 298) (M := 40) nd_M_init_296 rfl rfl (by decide) (Nat.le_of_ble_eq_true rfl) (Nat.le_of_ble_eq_true rfl) rfl rfl (by rfl) (by rw [hz _ (by decide)]; rfl) ?_
  refine aw_putF (pc' := 301) nd_M_init_298 rfl nF_5_121 ⟨rfl, rfl⟩ trivial (hw_pfv oset_eq (Nat.le_of_ble_eq_true rfl) rfl oset_same) ?_
  refine aw_aload_n (pc' := 302) nd_M_init_301 rfl rfl rfl ?_
  refine aw_iload_n (pc' := 303) nd_M_init_302 rfl rfl ?_
  refine aw_iconst (pc' := 304) (x := 1) nd_M_init_303 rfl (by decide) ?_
  refine aw_icmp_ge (pc' := 307) (tg := 311) nd_M_init_304 (by decide) rfl (fun hb304 => ?_) (fun hb304 => ?_)
  · skip
    refine aw_iload_n (pc' := 312) nd_M_init_311 rfl rfl ?_
    refine aw_bipush (pc' := 314) (x := 12) nd_M_init_312 rfl (by decide) ?_
    refine aw_icmp_le (pc' := 317) (tg := 322) nd_M_init_314 (by decide) rfl (fun hb314 => ?_) (fun hb314 => ?_)
    · skip
      refine aw_iload_n (pc' := 323) nd_M_init_322 rfl rfl ?_
      refine aw_putF (pc' := 326) nd_M_init_323 rfl nF_5_124 ⟨rfl, rfl⟩ trivial (hw_pfv oset_eq (Nat.le_of_ble_eq_true rfl) rfl oset_same) ?_
      refine aw_return nd_M_init_326 rfl (Nat.le_of_ble_eq_true rfl) (Nat.le_of_ble_eq_true rfl) ?_
      have hm : nMost kp = kp := by unfold nMost; simp [Int32.not_lt.mpr hb304, Int32.not_lt.mpr hb314]
      rw [hP_drop (a := 104) (by rfl) (by decide) (by show some (Sum.inr (5, ns_fM (μ.1 104))) = _; unfold ns_fM; rw [h0, h2, h3, h24, h27, h37, h40, hm]; rfl)]
      exact hq
    · skip
      refine aw_bipush (pc' := 319) (x := 12) nd_M_init_317 rfl (by decide) ?_
      refine aw_goto (pc' := 323) nd_M_init_319 (by decide) ?_
      refine aw_putF (pc' := 326) nd_M_init_323 rfl nF_5_124 ⟨rfl, rfl⟩ trivial (hw_pfv oset_eq (Nat.le_of_ble_eq_true rfl) rfl oset_same) ?_
      refine aw_return nd_M_init_326 rfl (Nat.le_of_ble_eq_true rfl) (Nat.le_of_ble_eq_true rfl) ?_
      have hm : nMost kp = 12 := by unfold nMost; simp [Int32.not_lt.mpr hb304, Int32.not_le.mp hb314]
      rw [hP_drop (a := 104) (by rfl) (by decide) (by show some (Sum.inr (5, ns_fM (μ.1 104))) = _; unfold ns_fM; rw [h0, h2, h3, h24, h27, h37, h40, hm]; rfl)]
      exact hq
  · skip
    refine aw_iconst (pc' := 308) (x := 1) nd_M_init_307 rfl (by decide) ?_
    refine aw_goto (pc' := 323) nd_M_init_308 (by decide) ?_
    refine aw_putF (pc' := 326) nd_M_init_323 rfl nF_5_124 ⟨rfl, rfl⟩ trivial (hw_pfv oset_eq (Nat.le_of_ble_eq_true rfl) rfl oset_same) ?_
    refine aw_return nd_M_init_326 rfl (Nat.le_of_ble_eq_true rfl) (Nat.le_of_ble_eq_true rfl) ?_
    have hm : nMost kp = 1 := by unfold nMost; simp [hb304]
    rw [hP_drop (a := 104) (by rfl) (by decide) (by show some (Sum.inr (5, ns_fM (μ.1 104))) = _; unfold ns_fM; rw [h0, h2, h3, h24, h27, h37, h40, hm]; rfl)]
    exact hq
