/-! the JDK's indexOf in the constant text -/
theorem jd_ixI_0 : decode prog_10_method_79_code 0 = .ok (.aload_n 0, 1) := by decide +kernel
theorem jd_ixI_1 : decode prog_10_method_79_code 1 = .ok (.iload_n 1, 1) := by decide +kernel
theorem jd_ixI_2 : decode prog_10_method_79_code 2 = .ok (.iconst 0, 1) := by decide +kernel
theorem jd_ixI_3 : decode prog_10_method_79_code 3 = .ok (.invokevirtual 633, 3) := by decide +kernel
theorem jd_ixI_6 : decode prog_10_method_79_code 6 = .ok (.ireturn, 1) := by decide +kernel
theorem jd_ixII_0 : decode prog_10_method_80_code 0 = .ok (.aload_n 0, 1) := by decide +kernel
theorem jd_ixII_1 : decode prog_10_method_80_code 1 = .ok (.invokevirtual 492, 3) := by decide +kernel
theorem jd_ixII_4 : decode prog_10_method_80_code 4 = .ok (.ifCond .eq 19, 3) := by decide +kernel
theorem jd_ixII_7 : decode prog_10_method_80_code 7 = .ok (.aload_n 0, 1) := by decide +kernel
theorem jd_ixII_8 : decode prog_10_method_80_code 8 = .ok (.getfield 9, 3) := by decide +kernel
theorem jd_ixII_11 : decode prog_10_method_80_code 11 = .ok (.iload_n 1, 1) := by decide +kernel
theorem jd_ixII_12 : decode prog_10_method_80_code 12 = .ok (.iload_n 2, 1) := by decide +kernel
theorem jd_ixII_13 : decode prog_10_method_80_code 13 = .ok (.aload_n 0, 1) := by decide +kernel
theorem jd_ixII_14 : decode prog_10_method_80_code 14 = .ok (.invokevirtual 505, 3) := by decide +kernel
theorem jd_ixII_17 : decode prog_10_method_80_code 17 = .ok (.invokestatic 637, 3) := by decide +kernel
theorem jd_ixII_20 : decode prog_10_method_80_code 20 = .ok (.goto 16, 3) := by decide +kernel
theorem jd_ixII_23 : decode prog_10_method_80_code 23 = .ok (.aload_n 0, 1) := by decide +kernel
theorem jd_ixII_24 : decode prog_10_method_80_code 24 = .ok (.getfield 9, 3) := by decide +kernel
theorem jd_ixII_27 : decode prog_10_method_80_code 27 = .ok (.iload_n 1, 1) := by decide +kernel
theorem jd_ixII_28 : decode prog_10_method_80_code 28 = .ok (.iload_n 2, 1) := by decide +kernel
theorem jd_ixII_29 : decode prog_10_method_80_code 29 = .ok (.aload_n 0, 1) := by decide +kernel
theorem jd_ixII_30 : decode prog_10_method_80_code 30 = .ok (.invokevirtual 505, 3) := by decide +kernel
theorem jd_ixII_33 : decode prog_10_method_80_code 33 = .ok (.invokestatic 640, 3) := by decide +kernel
theorem jd_ixII_36 : decode prog_10_method_80_code 36 = .ok (.ireturn, 1) := by decide +kernel
theorem jd_lat_0 : decode prog_10_method_154_code 0 = .ok (.getstatic 38, 3) := by decide +kernel
theorem jd_lat_3 : decode prog_10_method_154_code 3 = .ok (.ifCond .eq 14, 3) := by decide +kernel
theorem jd_lat_6 : decode prog_10_method_154_code 6 = .ok (.aload_n 0, 1) := by decide +kernel
theorem jd_lat_7 : decode prog_10_method_154_code 7 = .ok (.getfield 15, 3) := by decide +kernel
theorem jd_lat_10 : decode prog_10_method_154_code 10 = .ok (.ifCond .ne 7, 3) := by decide +kernel
theorem jd_lat_13 : decode prog_10_method_154_code 13 = .ok (.iconst 1, 1) := by decide +kernel
theorem jd_lat_14 : decode prog_10_method_154_code 14 = .ok (.goto 4, 3) := by decide +kernel
theorem jd_lat_17 : decode prog_10_method_154_code 17 = .ok (.iconst 0, 1) := by decide +kernel
theorem jd_lat_18 : decode prog_10_method_154_code 18 = .ok (.ireturn, 1) := by decide +kernel
theorem jd_len_0 : decode prog_10_method_54_code 0 = .ok (.aload_n 0, 1) := by decide +kernel
theorem jd_len_1 : decode prog_10_method_54_code 1 = .ok (.getfield 9, 3) := by decide +kernel
theorem jd_len_4 : decode prog_10_method_54_code 4 = .ok (.arraylength, 1) := by decide +kernel
theorem jd_len_5 : decode prog_10_method_54_code 5 = .ok (.aload_n 0, 1) := by decide +kernel
theorem jd_len_6 : decode prog_10_method_54_code 6 = .ok (.invokevirtual 335, 3) := by decide +kernel
theorem jd_len_9 : decode prog_10_method_54_code 9 = .ok (.ishr, 1) := by decide +kernel
theorem jd_len_10 : decode prog_10_method_54_code 10 = .ok (.ireturn, 1) := by decide +kernel
theorem jd_cod_0 : decode prog_10_method_152_code 0 = .ok (.getstatic 38, 3) := by decide +kernel
theorem jd_cod_3 : decode prog_10_method_152_code 3 = .ok (.ifCond .eq 10, 3) := by decide +kernel
theorem jd_cod_6 : decode prog_10_method_152_code 6 = .ok (.aload_n 0, 1) := by decide +kernel
theorem jd_cod_7 : decode prog_10_method_152_code 7 = .ok (.getfield 15, 3) := by decide +kernel
theorem jd_cod_10 : decode prog_10_method_152_code 10 = .ok (.goto 4, 3) := by decide +kernel
theorem jd_cod_13 : decode prog_10_method_152_code 13 = .ok (.iconst 1, 1) := by decide +kernel
theorem jd_cod_14 : decode prog_10_method_152_code 14 = .ok (.ireturn, 1) := by decide +kernel
theorem jd_can_0 : decode prog_11_method_4_code 0 = .ok (.iload_n 0, 1) := by decide +kernel
theorem jd_can_1 : decode prog_11_method_4_code 1 = .ok (.ifCond .lt 14, 3) := by decide +kernel
theorem jd_can_4 : decode prog_11_method_4_code 4 = .ok (.iload_n 0, 1) := by decide +kernel
theorem jd_can_5 : decode prog_11_method_4_code 5 = .ok (.sipush 255, 3) := by decide +kernel
theorem jd_can_8 : decode prog_11_method_4_code 8 = .ok (.if_icmp .gt 7, 3) := by decide +kernel
theorem jd_can_11 : decode prog_11_method_4_code 11 = .ok (.iconst 1, 1) := by decide +kernel
theorem jd_can_12 : decode prog_11_method_4_code 12 = .ok (.goto 4, 3) := by decide +kernel
theorem jd_can_15 : decode prog_11_method_4_code 15 = .ok (.iconst 0, 1) := by decide +kernel
theorem jd_can_16 : decode prog_11_method_4_code 16 = .ok (.ireturn, 1) := by decide +kernel
theorem jd_ix4_0 : decode prog_11_method_22_code 0 = .ok (.iload_n 1, 1) := by decide +kernel
theorem jd_ix4_1 : decode prog_11_method_22_code 1 = .ok (.invokestatic 88, 3) := by decide +kernel
theorem jd_ix4_4 : decode prog_11_method_22_code 4 = .ok (.ifCond .ne 5, 3) := by decide +kernel
theorem jd_ix4_7 : decode prog_11_method_22_code 7 = .ok (.iconst (-1), 1) := by decide +kernel
theorem jd_ix4_8 : decode prog_11_method_22_code 8 = .ok (.ireturn, 1) := by decide +kernel
theorem jd_ix4_9 : decode prog_11_method_22_code 9 = .ok (.iload_n 2, 1) := by decide +kernel
theorem jd_ix4_10 : decode prog_11_method_22_code 10 = .ok (.iconst 0, 1) := by decide +kernel
theorem jd_ix4_11 : decode prog_11_method_22_code 11 = .ok (.invokestatic 92, 3) := by decide +kernel
theorem jd_ix4_14 : decode prog_11_method_22_code 14 = .ok (.istore_n 2, 1) := by decide +kernel
theorem jd_ix4_15 : decode prog_11_method_22_code 15 = .ok (.iload_n 3, 1) := by decide +kernel
theorem jd_ix4_16 : decode prog_11_method_22_code 16 = .ok (.aload_n 0, 1) := by decide +kernel
theorem jd_ix4_17 : decode prog_11_method_22_code 17 = .ok (.arraylength, 1) := by decide +kernel
theorem jd_ix4_18 : decode prog_11_method_22_code 18 = .ok (.invokestatic 38, 3) := by decide +kernel
theorem jd_ix4_21 : decode prog_11_method_22_code 21 = .ok (.istore_n 3, 1) := by decide +kernel
theorem jd_ix4_22 : decode prog_11_method_22_code 22 = .ok (.iload_n 2, 1) := by decide +kernel
theorem jd_ix4_23 : decode prog_11_method_22_code 23 = .ok (.iload_n 3, 1) := by decide +kernel
theorem jd_ix4_24 : decode prog_11_method_22_code 24 = .ok (.if_icmp .lt 5, 3) := by decide +kernel
theorem jd_ix4_27 : decode prog_11_method_22_code 27 = .ok (.iconst (-1), 1) := by decide +kernel
theorem jd_ix4_28 : decode prog_11_method_22_code 28 = .ok (.ireturn, 1) := by decide +kernel
theorem jd_ix4_29 : decode prog_11_method_22_code 29 = .ok (.aload_n 0, 1) := by decide +kernel
theorem jd_ix4_30 : decode prog_11_method_22_code 30 = .ok (.iload_n 1, 1) := by decide +kernel
theorem jd_ix4_31 : decode prog_11_method_22_code 31 = .ok (.iload_n 2, 1) := by decide +kernel
theorem jd_ix4_32 : decode prog_11_method_22_code 32 = .ok (.iload_n 3, 1) := by decide +kernel
theorem jd_ix4_33 : decode prog_11_method_22_code 33 = .ok (.invokestatic 95, 3) := by decide +kernel
theorem jd_ix4_36 : decode prog_11_method_22_code 36 = .ok (.ireturn, 1) := by decide +kernel
theorem jd_ixC_0 : decode prog_11_method_23_code 0 = .ok (.iload_n 1, 1) := by decide +kernel
theorem jd_ixC_1 : decode prog_11_method_23_code 1 = .ok (.i2b, 1) := by decide +kernel
theorem jd_ixC_2 : decode prog_11_method_23_code 2 = .ok (.istore 4, 2) := by decide +kernel
theorem jd_ixC_4 : decode prog_11_method_23_code 4 = .ok (.iload_n 2, 1) := by decide +kernel
theorem jd_ixC_5 : decode prog_11_method_23_code 5 = .ok (.istore 5, 2) := by decide +kernel
theorem jd_ixC_7 : decode prog_11_method_23_code 7 = .ok (.iload 5, 2) := by decide +kernel
theorem jd_ixC_9 : decode prog_11_method_23_code 9 = .ok (.iload_n 3, 1) := by decide +kernel
theorem jd_ixC_10 : decode prog_11_method_23_code 10 = .ok (.if_icmp .ge 21, 3) := by decide +kernel
theorem jd_ixC_13 : decode prog_11_method_23_code 13 = .ok (.aload_n 0, 1) := by decide +kernel
theorem jd_ixC_14 : decode prog_11_method_23_code 14 = .ok (.iload 5, 2) := by decide +kernel
theorem jd_ixC_16 : decode prog_11_method_23_code 16 = .ok (.baload, 1) := by decide +kernel
theorem jd_ixC_17 : decode prog_11_method_23_code 17 = .ok (.iload 4, 2) := by decide +kernel
theorem jd_ixC_19 : decode prog_11_method_23_code 19 = .ok (.if_icmp .ne 6, 3) := by decide +kernel
theorem jd_ixC_22 : decode prog_11_method_23_code 22 = .ok (.iload 5, 2) := by decide +kernel
theorem jd_ixC_24 : decode prog_11_method_23_code 24 = .ok (.ireturn, 1) := by decide +kernel
theorem jd_ixC_25 : decode prog_11_method_23_code 25 = .ok (.iinc 5 1, 3) := by decide +kernel
theorem jd_ixC_28 : decode prog_11_method_23_code 28 = .ok (.goto (-21), 3) := by decide +kernel
theorem jd_ixC_31 : decode prog_11_method_23_code 31 = .ok (.iconst (-1), 1) := by decide +kernel
theorem jd_ixC_32 : decode prog_11_method_23_code 32 = .ok (.ireturn, 1) := by decide +kernel
abbrev jy_ixI : MethodName := ⟨"java/lang/String", "indexOf", "(I)I"⟩
abbrev jy_ixII : MethodName := ⟨"java/lang/String", "indexOf", "(II)I"⟩
abbrev jy_lat : MethodName := ⟨"java/lang/String", "isLatin1", "()Z"⟩
abbrev jy_len : MethodName := ⟨"java/lang/String", "length", "()I"⟩
abbrev jy_cod : MethodName := ⟨"java/lang/String", "coder", "()B"⟩
abbrev jy_can : MethodName := ⟨"java/lang/StringLatin1", "canEncode", "(I)Z"⟩
abbrev jy_ix4 : MethodName := ⟨"java/lang/StringLatin1", "indexOf", "([BIII)I"⟩
abbrev jy_ixC : MethodName := ⟨"java/lang/StringLatin1", "indexOfChar", "([BIII)I"⟩
theorem jn_ixI : (parseMethodDescriptor jy_ixI.desc).map (fun d => d.parameters.length) = some 1 := by decide +kernel
theorem jn_ixII : (parseMethodDescriptor jy_ixII.desc).map (fun d => d.parameters.length) = some 2 := by decide +kernel
theorem jn_lat : (parseMethodDescriptor jy_lat.desc).map (fun d => d.parameters.length) = some 0 := by decide +kernel
theorem jn_len : (parseMethodDescriptor jy_len.desc).map (fun d => d.parameters.length) = some 0 := by decide +kernel
theorem jn_cod : (parseMethodDescriptor jy_cod.desc).map (fun d => d.parameters.length) = some 0 := by decide +kernel
theorem jn_can : (parseMethodDescriptor jy_can.desc).map (fun d => d.parameters.length) = some 1 := by decide +kernel
theorem jn_ix4 : (parseMethodDescriptor jy_ix4.desc).map (fun d => d.parameters.length) = some 4 := by decide +kernel
theorem jn_ixC : (parseMethodDescriptor jy_ixC.desc).map (fun d => d.parameters.length) = some 4 := by decide +kernel
theorem jw_199 : Cond.code jy_ixI prog_10_method_79_code 2 (some .int) ∈ ns_Tb := ns_in 199 (by decide +kernel) (by decide +kernel)
theorem jw_203 : Cond.code jy_ixII prog_10_method_80_code 3 (some .int) ∈ ns_Tb := ns_in 203 (by decide +kernel) (by decide +kernel)
theorem jw_207 : Cond.code jy_lat prog_10_method_154_code 1 (some .boolean) ∈ ns_Tb := ns_in 207 (by decide +kernel) (by decide +kernel)
theorem jw_213 : Cond.code jy_len prog_10_method_54_code 1 (some .int) ∈ ns_Tb := ns_in 213 (by decide +kernel) (by decide +kernel)
theorem jw_217 : Cond.code jy_cod prog_10_method_152_code 1 (some .byte) ∈ ns_Tb := ns_in 217 (by decide +kernel) (by decide +kernel)
theorem jw_220 : Cond.code jy_ix4 prog_11_method_22_code 4 (some .int) ∈ ns_Tb := ns_in 220 (by decide +kernel) (by decide +kernel)
theorem jw_223 : Cond.code jy_can prog_11_method_4_code 1 (some .boolean) ∈ ns_Tb := ns_in 223 (by decide +kernel) (by decide +kernel)
theorem jw_228 : Cond.code jy_ixC prog_11_method_23_code 6 (some .int) ∈ ns_Tb := ns_in 228 (by decide +kernel) (by decide +kernel)
theorem jw_8 : Cond.initialized "java/lang/String" ∈ ns_Tb := ns_in 8 (by decide +kernel) (by decide +kernel)
theorem jw_9 : Cond.initialized "java/lang/StringLatin1" ∈ ns_Tb := ns_in 9 (by decide +kernel) (by decide +kernel)
theorem jw_208 : Cond.fieldLink "java/lang/String" 38 "java/lang/String" "COMPACT_STRINGS" "Z" ∈ ns_Tb := ns_in 208 (by decide +kernel) (by decide +kernel)
theorem jw_803 : Cond.fieldLink "java/lang/String" 15 "java/lang/String" "coder" "B" ∈ ns_Tb := ns_in 803 (by decide +kernel) (by decide +kernel)
theorem jw_804 : Cond.fieldLink "java/lang/String" 9 "java/lang/String" "value" "[B" ∈ ns_Tb := ns_in 804 (by decide +kernel) (by decide +kernel)
theorem jw_196 : Cond.methodLink "NoteSheet$Formula" 28 jy_ixI ∈ ns_Tb := ns_in 196 (by decide +kernel) (by decide +kernel)
theorem jw_200 : Cond.methodLink "java/lang/String" 633 jy_ixII ∈ ns_Tb := ns_in 200 (by decide +kernel) (by decide +kernel)
theorem jw_204 : Cond.methodLink "java/lang/String" 492 jy_lat ∈ ns_Tb := ns_in 204 (by decide +kernel) (by decide +kernel)
theorem jw_210 : Cond.methodLink "java/lang/String" 505 jy_len ∈ ns_Tb := ns_in 210 (by decide +kernel) (by decide +kernel)
theorem jw_214 : Cond.methodLink "java/lang/String" 335 jy_cod ∈ ns_Tb := ns_in 214 (by decide +kernel) (by decide +kernel)
theorem jw_218 : Cond.methodLink "java/lang/String" 637 jy_ix4 ∈ ns_Tb := ns_in 218 (by decide +kernel) (by decide +kernel)
theorem jw_221 : Cond.methodLink "java/lang/StringLatin1" 88 jy_can ∈ ns_Tb := ns_in 221 (by decide +kernel) (by decide +kernel)
theorem jw_226 : Cond.methodLink "java/lang/StringLatin1" 95 jy_ixC ∈ ns_Tb := ns_in 226 (by decide +kernel) (by decide +kernel)
theorem jw_224 : Cond.methodLink "java/lang/StringLatin1" 92 Lib.Math.max.name ∈ ns_Tb := ns_in 224 (by decide +kernel) (by decide +kernel)
theorem jw_225 : Cond.methodLink "java/lang/StringLatin1" 38 Lib.Math.min.name ∈ ns_Tb := ns_in 225 (by decide +kernel) (by decide +kernel)
theorem jw_197 : Cond.instanceMethod jy_ixI ∈ ns_Tb := ns_in 197 (by decide +kernel) (by decide +kernel)
theorem jw_198 : Cond.selects "java/lang/String" jy_ixI jy_ixI ∈ ns_Tb := ns_in 198 (by decide +kernel) (by decide +kernel)
theorem jw_201 : Cond.instanceMethod jy_ixII ∈ ns_Tb := ns_in 201 (by decide +kernel) (by decide +kernel)
theorem jw_202 : Cond.selects "java/lang/String" jy_ixII jy_ixII ∈ ns_Tb := ns_in 202 (by decide +kernel) (by decide +kernel)
theorem jw_205 : Cond.instanceMethod jy_lat ∈ ns_Tb := ns_in 205 (by decide +kernel) (by decide +kernel)
theorem jw_206 : Cond.selects "java/lang/String" jy_lat jy_lat ∈ ns_Tb := ns_in 206 (by decide +kernel) (by decide +kernel)
theorem jw_211 : Cond.instanceMethod jy_len ∈ ns_Tb := ns_in 211 (by decide +kernel) (by decide +kernel)
theorem jw_212 : Cond.selects "java/lang/String" jy_len jy_len ∈ ns_Tb := ns_in 212 (by decide +kernel) (by decide +kernel)
theorem jw_215 : Cond.instanceMethod jy_cod ∈ ns_Tb := ns_in 215 (by decide +kernel) (by decide +kernel)
theorem jw_216 : Cond.selects "java/lang/String" jy_cod jy_cod ∈ ns_Tb := ns_in 216 (by decide +kernel) (by decide +kernel)
theorem jw_219 : Cond.static jy_ix4 ∈ ns_Tb := ns_in 219 (by decide +kernel) (by decide +kernel)
theorem jw_222 : Cond.static jy_can ∈ ns_Tb := ns_in 222 (by decide +kernel) (by decide +kernel)
theorem jw_227 : Cond.static jy_ixC ∈ ns_Tb := ns_in 227 (by decide +kernel) (by decide +kernel)
def jx_P (A : Nat → Prop) (rc adV : Nat → Nat) (L : Nat) (xs : Nat → Int32) (vs : List Value) : Array Value → State → Prop := fun a U => a = vs.toArray ∧ ns_G A rc adV L xs U
def jx_Q (v : Value) : Array Value → State → Outcome → State → Prop := fun _ st oc t => oc = .returned (some v) ∧ t.heap = st.heap
abbrev jx_M (l : Launch) (A : Nat → Prop) (rc adV : Nat → Nat) (L : Nat) (xs : Nat → Int32) (d : Nat) (y : MethodName) (cc : ByteArray) (ml : Nat) (ret : FieldType) (vs : List Value) (v : Value) : Prop := Met l y (Cond.code y cc ml (some ret) :: ns_Tb) (ax_rm d 0 0) (jx_P A rc adV L xs vs) (jx_Q v) 0 0 (fun _ => False)
theorem jx_P.blind {A : Nat → Prop} {rc adV : Nat → Nat} {L : Nat} {xs : Nat → Int32} {vs : List Value} : FrameBlind (jx_P A rc adV L xs vs) := fun _ U _ _ q => ⟨q.1, ns_okG.2.1 U _ q.2 rfl rfl⟩
theorem jx_good {y : MethodName} {cc : ByteArray} {ml : Nat} {ret : FieldType} (hc : Cond.code y cc ml (some ret) ∈ ns_Tb) : GoodIn ns_Tb (Cond.code y cc ml (some ret) :: ns_Tb) := fun w hw => by
  rcases List.mem_cons.mp hw with rfl | hw
  · exact ns_good _ hc
  · exact ns_good w hw
section JX
variable {p : Program} {l : Launch} {e : Env} {R : Room} {s : State} {m : MethodId} {args : Array Value} {below : List Frame} {meth : Method} {c : Code} {H : Heap} {locs : List Loc} {cells slots : Nat} {Qs : State → Prop}
variable {rc adV : Nat → Nat} {A : Nat → Prop} {L : Nat} {xs : Nat → Int32}
theorem jx_ret {pc : Nat} {ls : Array Slot} {st0 rest : List Value} {v : Value} {a : Array Value} (hr : va_Run p l e R s m args below meth c H locs cells slots 0 0 (F0 m pc ls st0) rest (jx_Q v a) (fun _ => False))
    (kk : W p l e R s m args below meth c H locs cells slots Qs (F0 m (pc + 3) ls (v :: rest))) : W p l e R s m args below meth c H locs cells slots Qs (F0 m pc ls st0) := by
  intro T hT X
  obtain ⟨v', st₀, t, T', L, h0, X', hL, e1, e2, ⟨hv, hh⟩, st⟩ := hr T hT X
  obtain rfl : v' = some v := Outcome.returned.inj hv
  obtain rfl : L = [] := by
    cases L with
    | nil => rfl
    | cons q L => exact (hL q List.mem_cons_self).elim
  rw [List.append_nil] at X'
  obtain ⟨t2, a1, b1⟩ := kk T' (by rw [e1, hh, h0]) X'
  exact ⟨t2, st t2 a1, b1⟩
theorem jx_S {cc co : ByteArray} {nL ml idx pc d : Nat} {own : String} {y : MethodName} {ret : FieldType} {As rest : List Value} {v : Value} {ls : Array Slot} (hx : p.tables.exec = Jvm.exec) (hb : c.code = cc) (hml : c.maxLocals = nL) (hown : s.vm.findClass own = some m.cls) (hts : ∀ w ∈ ns_Tb, w.before args s = true) (hG : ns_G A rc adV L xs s) (hS : va_S A s.heap H locs)
    (hmet : jx_M l A rc adV L xs d y co ml ret As v) (hc : Cond.code y co ml (some ret) ∈ ns_Tb) (hini : Cond.initialized y.cls ∈ ns_Tb) (hl : Cond.methodLink own idx y ∈ ns_Tb) (hst : Cond.static y ∈ ns_Tb) (hd : y.cls ≠ "java/lang/invoke/MethodHandle" ∧ y.cls ≠ "java/lang/invoke/VarHandle" ∧ (parseMethodDescriptor y.desc).map (fun d => d.parameters.length) = some As.length)
    (hR : d + 1 ≤ R.frames ∧ 8 + (ml + 11) + 40 * d ≤ R.locals) (hsz : ls.size = nL) (hw : (rest.map fun v => v.category).sum ≤ 8) (hdg : decode cc pc = .ok (.invokestatic idx, 3)) (hk : cells ≤ R.cells) (hn : slots ≤ R.slots)
    (kk : W p l e R s m args below meth c H locs cells slots Qs (F0 m (pc + 3) ls (v :: rest))) : W p l e R s m args below meth c H locs cells slots Qs (F0 m pc ls (As.reverse ++ rest)) :=
  jx_ret (va_runS (R := R) (H := H) (locs := locs) (cells := cells) (slots := slots) (meth := meth) (below := below) (e := e) (As := As) (rest := rest) (g := F0 m pc ls (As.reverse ++ rest)) ⟨hx, hb, hml, hown, hts⟩ hmet ⟨callB_of (R := R) As.length hts (jx_good hc) rfl rfl rfl (hts _ hini) (hts _ hl) hd hR, hts _ hst⟩ ⟨jx_P.blind, fun U hU hW => ⟨rfl, ns_okG.1 s U hG hW (by rw [hU]; exact hS.1) (fun q h3 h4 => by rw [hU]; exact hS.2.1 q h3 h4)⟩⟩ rfl rfl hsz rfl (lv_room hw) hdg ⟨hk, hn⟩) kk
theorem jx_V {cc co : ByteArray} {nL ml idx pc d : Nat} {own : String} {y : MethodName} {ret : FieldType} {As rest : List Value} {v : Value} {ls : Array Slot} (hx : p.tables.exec = Jvm.exec) (hb : c.code = cc) (hml : c.maxLocals = nL) (hown : s.vm.findClass own = some m.cls) (hts : ∀ w ∈ ns_Tb, w.before args s = true) (hG : ns_G A rc adV L xs s) (hS : va_S A s.heap H locs)
    (hmet : jx_M l A rc adV L xs d y co ml ret (.ref (rc 1) :: As) v) (hc : Cond.code y co ml (some ret) ∈ ns_Tb) (hyc : y.cls = "java/lang/String") (hl : Cond.methodLink own idx y ∈ ns_Tb) (hin : Cond.instanceMethod y ∈ ns_Tb) (hse : Cond.selects "java/lang/String" y y ∈ ns_Tb) (hd : (parseMethodDescriptor y.desc).map (fun d => d.parameters.length) = some As.length)
    (hR : d + 1 ≤ R.frames ∧ 8 + (ml + 11) + 40 * d ≤ R.locals) (hsz : ls.size = nL) (hw : (rest.map fun v => v.category).sum ≤ 8) (hdg : decode cc pc = .ok (.invokevirtual idx, 3)) (hk : cells ≤ R.cells) (hn : slots ≤ R.slots)
    (kk : W p l e R s m args below meth c H locs cells slots Qs (F0 m (pc + 3) ls (v :: rest))) : W p l e R s m args below meth c H locs cells slots Qs (F0 m pc ls (As.reverse ++ .ref (rc 1) :: rest)) :=
  jx_ret (va_runV (R := R) (H := H) (locs := locs) (cells := cells) (slots := slots) (meth := meth) (below := below) (e := e) (C := "java/lang/String") (b := rc 1) (As := As) (rest := rest) (g := F0 m pc ls (As.reverse ++ .ref (rc 1) :: rest)) ⟨hx, hb, hml, hown, hts⟩ hmet ⟨callB_of (R := R) As.length hts (jx_good hc) rfl rfl rfl (by rw [hyc]; exact hts _ jw_8) (hts _ hl) ⟨by rw [hyc]; decide, by rw [hyc]; decide, hd⟩ hR, hts _ hin, hts _ hse⟩ ⟨jx_P.blind, vk_recv (i := 0) (adK := fun _ => rc 1) hG.2.2.2.2.2.1 (by decide) hS, fun U hU hW => ⟨rfl, ns_okG.1 s U hG hW (by rw [hU]; exact hS.1) (fun q h3 h4 => by rw [hU]; exact hS.2.1 q h3 h4)⟩⟩ rfl rfl hsz rfl (lv_room hw) hdg ⟨hk, hn⟩) kk
end JX
theorem jx_of {l : Launch} {A : Nat → Prop} {rc adV : Nat → Nat} {L : Nat} {xs : Nat → Int32} {d : Nat} {y : MethodName} {cc : ByteArray} {ml : Nat} {ret : FieldType} {vs : List Value} {x : Int32} (hy : plainFor y = true) (hsl : (lg_sl vs).length ≤ ml) 
    (body : ∀ (p : Program) (e : Env) (s : State) (m : MethodId) (below : List Frame) (meth : Method) (c : Code) (ls : Array Slot), p.tables.exec = Jvm.exec → c.code = cc → c.maxLocals = ml → s.vm.findClass y.cls = some m.cls → (∀ w ∈ ns_Tb, w.before vs.toArray s = true) → ns_G A rc adV L xs s → lv_has ls ml (lv_args 0 vs) → (∀ pc ls', decode cc pc = .ok (.ireturn, 1) → W p l e (ax_rm d 0 0) s m vs.toArray below meth c s.heap [] 0 0 (MQ below (jx_Q (.int x)) vs.toArray s 0 0 (fun _ => False)) (F0 m pc ls' [.int x])) →
      W p l e (ax_rm d 0 0) s m vs.toArray below meth c s.heap [] 0 0 (MQ below (jx_Q (.int x)) vs.toArray s 0 0 (fun _ => False)) (F0 m 0 ls [])) (hnar : narrow ret (.int x) = .int x) : jx_M l A rc adV L xs d y cc ml ret vs (.int x) := by
  refine ax_ofW (cc := cc) (maxL := ml) (ret := some ret) hy rfl ?_
  intro p e s m args below meth c s₁ B hml hv
  obtain ⟨rfl, hG⟩ := hv
  have hts0 := atoms_spec (ws := Cond.code y cc ml (some ret) :: ns_Tb) B.pre
  have hlocks := B.notSynchronized
  rw [lg_entry_eq]
  exact body p e s m below meth c _ B.exec B.bytes hml (findClass_of_methodNamed B.named) (fun w hw => hts0 w (List.mem_cons_of_mem _ hw)) hG (lv_entry vs hsl) (fun pc ls' hd => W.zret B.exec B.bytes B.returns hnar (fun t ht _ => ⟨rfl, ht⟩) (fun q hq => by cases hq) hd)
section JY
variable {l : Launch} {rc adV : Nat → Nat} {A : Nat → Prop} {L : Nat} {xs : Nat → Int32}
theorem jm_lat (d : Nat) : jx_M l A rc adV L xs (d + 1) jy_lat prog_10_method_154_code 1 .boolean [.ref (rc 1)] (.int 1) := by
  refine jx_of (by decide +kernel) (by simp [lg_sl, Value.category]) ?_ rfl
  intro p e s m below meth c ls hx hb hml hown hts hG hl fin
  refine va_gets hx hb hG.2.2.2.2.2.2 va_S.rf hown (hts _ jw_208) (fun _ h => h) jd_lat_0 ?_
  refine lv_if_eq hx hb jd_lat_3 rfl (fun h => absurd h (by decide)) (fun _ => ?_)
  refine lv_aload_n hx hb jd_lat_6 rfl (lv_at hl 0 rfl) ?_
  refine vk_getf hx hb (hG.2.2.2.2.2.1.1 0 (by decide)).2.1 va_S.rf hown (hts _ jw_803) (fun _ h => h) jd_lat_7 ?_
  refine lv_if_ne hx hb jd_lat_10 rfl (fun h => absurd rfl h) (fun _ => ?_)
  refine lv_iconst hx hb jd_lat_13 rfl ?_
  exact lv_goto hx hb jd_lat_14 rfl (fin _ _ jd_lat_18)
theorem jm_cod (d : Nat) : jx_M l A rc adV L xs (d + 1) jy_cod prog_10_method_152_code 1 .byte [.ref (rc 1)] (.int 0) := by
  refine jx_of (by decide +kernel) (by simp [lg_sl, Value.category]) ?_ rfl
  intro p e s m below meth c ls hx hb hml hown hts hG hl fin
  refine va_gets hx hb hG.2.2.2.2.2.2 va_S.rf hown (hts _ jw_208) (fun _ h => h) jd_cod_0 ?_
  refine lv_if_eq hx hb jd_cod_3 rfl (fun h => absurd h (by decide)) (fun _ => ?_)
  refine lv_aload_n hx hb jd_cod_6 rfl (lv_at hl 0 rfl) ?_
  refine vk_getf hx hb (hG.2.2.2.2.2.1.1 0 (by decide)).2.1 va_S.rf hown (hts _ jw_803) (fun _ h => h) jd_cod_7 ?_
  exact lv_goto hx hb jd_cod_10 rfl (fin _ _ jd_cod_14)
theorem jm_len (d : Nat) : jx_M l A rc adV L xs (d + 2) jy_len prog_10_method_54_code 1 .int [.ref (rc 1)] (.int 10) := by
  refine jx_of (by decide +kernel) (by simp [lg_sl, Value.category]) ?_ rfl
  intro p e s m below meth c ls hx hb hml hown hts hG hl fin
  refine lv_aload_n hx hb jd_len_0 rfl (lv_at hl 0 rfl) ?_
  refine vk_getf hx hb (hG.2.2.2.2.2.1.1 0 (by decide)).2.2.1 va_S.rf hown (hts _ jw_804) (fun _ h => h) jd_len_1 ?_
  refine va_tlen hx hb (hG.2.2.2.2.2.1.1 0 (by decide)).2.2.2 va_S.rf rfl jd_len_4 ?_
  refine lv_aload_n hx hb jd_len_5 rfl (lv_at hl 0 rfl) ?_
  refine jx_V (As := []) hx hb hml hown hts hG va_S.rf (jm_cod d) jw_217 rfl jw_214 jw_215 jw_216 (by decide +kernel) ⟨by simp [ax_rm], by simp [ax_rm]; omega⟩ hl.1 (by decide) jd_len_6 (Nat.le_refl _) (Nat.le_refl _) ?_
  exact lv_ishr hx hb jd_len_9 (fin _ _ jd_len_10)
def jx_can (ch : Int32) : Int32 := if ch < 0 then 0 else if 255 < ch then 0 else 1
theorem jm_can (d : Nat) (ch : Int32) : jx_M l A rc adV L xs (d + 1) jy_can prog_11_method_4_code 1 .boolean [.int ch] (.int (jx_can ch)) := by
  refine jx_of (by decide +kernel) (by simp [lg_sl, Value.category]) ?_ (by unfold jx_can; split; rfl; split <;> rfl)
  intro p e s m below meth c ls hx hb hml hown hts hG hl fin
  refine lv_iload_n hx hb jd_can_0 rfl (lv_at hl 0 rfl) ?_
  refine lv_if_lt hx hb jd_can_1 (tgt := 15) rfl (fun h => ?_) (fun h => ?_)
  · refine lv_iconst hx hb jd_can_15 (v := jx_can ch) (by simp [jx_can, h]) (fin _ _ jd_can_16)
  · refine lv_iload_n hx hb jd_can_4 rfl (lv_at hl 0 rfl) ?_
    refine lv_sipush hx hb jd_can_5 (v := 255) rfl ?_
    refine lv_icmp_gt hx hb jd_can_8 (tgt := 15) rfl (fun h2 => ?_) (fun h2 => ?_)
    · refine lv_iconst hx hb jd_can_15 (v := jx_can ch) (by simp [jx_can, h, h2]) (fin _ _ jd_can_16)
    · refine lv_iconst hx hb jd_can_11 (v := jx_can ch) (by simp [jx_can, h, h2]) ?_
      exact lv_goto hx hb jd_can_12 rfl (fin _ _ jd_can_16)
def jx_b : List Int32 := [63, 58, 60, 61, 43, 45, 42, 40, 41, 64]
/-- the first place, from 10 - k on, with this byte -/
def jx_r (b : Int32) : Nat → Int32
  | 0 => -1
  | k + 1 => if jx_b.getD (10 - (k + 1)) 0 = b then Int32.ofNat (10 - (k + 1)) else jx_r b k
theorem jx_r_eq (ch : Int32) (h0 : ¬ ch < 0) (h1 : ¬ 255 < ch) : jx_r ch.toInt8.toInt32 10 = ax_ix ch := by
  have key : ∀ n : Fin 256, jx_r (Int32.ofNat n.1).toInt8.toInt32 10 = ax_ix (Int32.ofNat n.1) := by decide +kernel
  have a0 : (0 : Int) ≤ ch.toInt := by
    have := Int32.not_lt.mp h0
    simpa using Int32.le_iff_toInt_le.mp this
  have a1 : ch.toInt ≤ 255 := by
    have := Int32.not_lt.mp h1
    simpa using Int32.le_iff_toInt_le.mp this
  have e : ch = Int32.ofNat ch.toInt.toNat := by
    apply Int32.toInt_inj.mp
    rw [Int32.toInt_ofNat_of_lt (by omega)]
    omega
  rw [e]
  exact key ⟨ch.toInt.toNat, by omega⟩
theorem jx_ix_out (ch : Int32) (h : ch < 0 ∨ 255 < ch) : ax_ix ch = -1 := by
  have g : ∀ k : Int32, ¬ k < 0 → ¬ 255 < k → ¬ ch = k := fun k a b e => by subst e; rcases h with h | h; exact a h; exact b h
  unfold ax_ix
  rw [if_neg (g _ (by decide) (by decide)), if_neg (g _ (by decide) (by decide)), if_neg (g _ (by decide) (by decide)), if_neg (g _ (by decide) (by decide)), if_neg (g _ (by decide) (by decide)), if_neg (g _ (by decide) (by decide)), if_neg (g _ (by decide) (by decide)), if_neg (g _ (by decide) (by decide)), if_neg (g _ (by decide) (by decide)), if_neg (g _ (by decide) (by decide))]
theorem jm_ixC (d : Nat) (ch : Int32) : jx_M l A rc adV L xs (d + 1) jy_ixC prog_11_method_23_code 6 .int [.ref (adV 0), .int ch, .int 0, .int 10] (.int (jx_r ch.toInt8.toInt32 10)) := by
  refine jx_of (by decide +kernel) (by simp [lg_sl, Value.category]) ?_ rfl
  intro p e s m below meth c ls hx hb hml hown hts hG hl fin
  have loop : ∀ k : Nat, k ≤ 10 → jx_r ch.toInt8.toInt32 k = jx_r ch.toInt8.toInt32 10 → ∀ ls' : Array Slot, lv_has ls' 6 [(5, .int (Int32.ofNat (10 - k))), (4, .int ch.toInt8.toInt32), (0, .ref (adV 0)), (1, .int ch), (2, .int 0), (3, .int 10)] → W p l e (ax_rm (d + 1) 0 0) s m [.ref (adV 0), .int ch, .int 0, .int 10].toArray below meth c s.heap [] 0 0 (MQ below (jx_Q (.int (jx_r ch.toInt8.toInt32 10))) [.ref (adV 0), .int ch, .int 0, .int 10].toArray s 0 0 (fun _ => False)) (F0 m 7 ls' []) := by
    intro k
    induction k with
    | zero =>
      intro _ hr ls' hl'
      refine lv_iload hx hb jd_ixC_7 (lv_at hl' 0 rfl) ?_
      refine lv_iload_n hx hb jd_ixC_9 rfl (lv_at hl' 5 rfl) ?_
      refine lv_icmp_ge hx hb jd_ixC_10 (tgt := 31) rfl (fun _ => ?_) (fun h => absurd (by decide) h)
      exact lv_iconst hx hb jd_ixC_31 (v := jx_r ch.toInt8.toInt32 10) (by rw [← hr]; rfl) (fin _ _ jd_ixC_32)
    | succ k ih =>
      intro hk hr ls' hl'
      have hin : ∀ j : Nat, j < 10 → ¬ (10 : Int32) ≤ Int32.ofNat j ∧ vp_in (Int32.ofNat j) 10 ∧ (Int32.ofNat j).toNatClampNeg = j ∧ Int32.ofNat j + Int32.ofInt 1 = Int32.ofNat (j + 1) := by
        intro j hj
        match j, hj with
        | 0, _ => exact ⟨by decide, by unfold vp_in; decide, by decide, by decide⟩
        | 1, _ => exact ⟨by decide, by unfold vp_in; decide, by decide, by decide⟩
        | 2, _ => exact ⟨by decide, by unfold vp_in; decide, by decide, by decide⟩
        | 3, _ => exact ⟨by decide, by unfold vp_in; decide, by decide, by decide⟩
        | 4, _ => exact ⟨by decide, by unfold vp_in; decide, by decide, by decide⟩
        | 5, _ => exact ⟨by decide, by unfold vp_in; decide, by decide, by decide⟩
        | 6, _ => exact ⟨by decide, by unfold vp_in; decide, by decide, by decide⟩
        | 7, _ => exact ⟨by decide, by unfold vp_in; decide, by decide, by decide⟩
        | 8, _ => exact ⟨by decide, by unfold vp_in; decide, by decide, by decide⟩
        | 9, _ => exact ⟨by decide, by unfold vp_in; decide, by decide, by decide⟩
        | n + 10, h => exact absurd h (by omega)
      obtain ⟨q1, q2, q3, q4⟩ := hin (10 - (k + 1)) (by omega)
      refine lv_iload hx hb jd_ixC_7 (lv_at hl' 0 rfl) ?_
      refine lv_iload_n hx hb jd_ixC_9 rfl (lv_at hl' 5 rfl) ?_
      refine lv_icmp_ge hx hb jd_ixC_10 (tgt := 31) rfl (fun h => absurd h q1) (fun _ => ?_)
      refine lv_aload_n hx hb jd_ixC_13 rfl (lv_at hl' 2 rfl) ?_
      refine lv_iload hx hb jd_ixC_14 (lv_at hl' 0 rfl) ?_
      refine va_tb hx hb (hG.2.2.2.2.2.1.1 0 (by decide)).2.2.2 va_S.rf q2 (v := .int (jx_b.getD (10 - (k + 1)) 0)) (by rw [q3]; rfl) jd_ixC_16 ?_
      refine lv_iload hx hb jd_ixC_17 (lv_at hl' 1 rfl) ?_
      have hr2 : jx_r ch.toInt8.toInt32 (k + 1) = if jx_b.getD (10 - (k + 1)) 0 = ch.toInt8.toInt32 then Int32.ofNat (10 - (k + 1)) else jx_r ch.toInt8.toInt32 k := rfl
      refine lv_icmp_ne hx hb jd_ixC_19 (tgt := 25) rfl (fun hne => ?_) (fun he => ?_)
      · refine lv_iinc hx hb jd_ixC_25 hl' (k := 0) rfl (v := Int32.ofNat (10 - k)) (by rw [q4]; congr 1; omega) (by decide) rfl (fun ls2 hl2 => ?_)
        refine lv_goto hx hb jd_ixC_28 (tgt := 7) rfl (ih (by omega) (by rw [← hr, hr2, if_neg hne]) ls2 hl2)
      · refine lv_iload hx hb jd_ixC_22 (lv_at hl' 0 rfl) ?_
        have := fin 24 ls' jd_ixC_24
        rw [← hr, hr2, if_pos he] at this ⊢
        exact this
  refine lv_iload_n hx hb jd_ixC_0 rfl (lv_at hl 1 rfl) ?_
  refine lv_i2b hx hb jd_ixC_1 rfl ?_
  refine lv_istore hx hb jd_ixC_2 hl (by decide) rfl (fun ls1 hl1 => ?_)
  refine lv_iload_n hx hb jd_ixC_4 rfl (lv_at hl1 3 rfl) ?_
  exact lv_istore hx hb jd_ixC_5 hl1 (by decide) rfl (fun ls2 hl2 => loop 10 (Nat.le_refl _) rfl ls2 hl2)
theorem jm_ix4 (d : Nat) (ch : Int32) : jx_M l A rc adV L xs (d + 2) jy_ix4 prog_11_method_22_code 4 .int [.ref (adV 0), .int ch, .int 0, .int 10] (.int (ax_ix ch)) := by
  refine jx_of (by decide +kernel) (by simp [lg_sl, Value.category]) ?_ rfl
  intro p e s m below meth c ls hx hb hml hown hts hG hl fin
  refine lv_iload_n hx hb jd_ix4_0 rfl (lv_at hl 1 rfl) ?_
  refine jx_S (As := [.int ch]) (rest := []) hx hb hml hown hts hG va_S.rf (jm_can d ch) jw_223 jw_9 jw_221 jw_222 ⟨by decide, by decide, jn_can⟩ ⟨by simp [ax_rm], by simp [ax_rm]; omega⟩ hl.1 (by decide) jd_ix4_1 (Nat.le_refl _) (Nat.le_refl _) ?_
  refine lv_if_ne hx hb jd_ix4_4 (tgt := 9) rfl (fun h => ?_) (fun h => ?_)
  · have h0 : ¬ ch < 0 := fun z => h (by simp [jx_can, z])
    have h1 : ¬ 255 < ch := fun z => h (by simp [jx_can, h0, z])
    refine lv_iload_n hx hb jd_ix4_9 rfl (lv_at hl 2 rfl) ?_
    refine lv_iconst hx hb jd_ix4_10 (v := 0) rfl ?_
    refine va_mmax hx hb (hml.trans hl.1.symm) hown (hts _ jw_224) (hts _ nw_26) (hts _ nw_2) (hts _ nw_27) (by simp [ax_rm]) (by simp [ax_rm]; omega) (Nat.le_refl _) (Nat.le_refl _) jd_ix4_11 ?_
    refine lv_istore_n hx hb jd_ix4_14 rfl hl (by decide) rfl (fun ls1 hl1 => ?_)
    refine lv_iload_n hx hb jd_ix4_15 rfl (lv_at hl1 3 rfl) ?_
    refine lv_aload_n hx hb jd_ix4_16 rfl (lv_at hl1 1 rfl) ?_
    refine va_tlen hx hb (hG.2.2.2.2.2.1.1 0 (by decide)).2.2.2 va_S.rf rfl jd_ix4_17 ?_
    refine va_mmin hx hb (hml.trans hl1.1.symm) hown (hts _ jw_225) (hts _ nw_23) (hts _ nw_2) (hts _ nw_24) (by simp [ax_rm]) (by simp [ax_rm]; omega) (Nat.le_refl _) (Nat.le_refl _) jd_ix4_18 ?_
    refine lv_istore_n hx hb jd_ix4_21 rfl hl1 (by decide) rfl (fun ls2 hl2 => ?_)
    refine lv_iload_n hx hb jd_ix4_22 rfl (lv_at hl2 1 rfl) ?_
    refine lv_iload_n hx hb jd_ix4_23 rfl (lv_at hl2 0 rfl) ?_
    refine lv_icmp_lt hx hb jd_ix4_24 (tgt := 29) rfl (fun _ => ?_) (fun h => absurd (by decide) h)
    refine lv_aload_n hx hb jd_ix4_29 rfl (lv_at hl2 2 rfl) ?_
    refine lv_iload_n hx hb jd_ix4_30 rfl (lv_at hl2 3 rfl) ?_
    refine lv_iload_n hx hb jd_ix4_31 rfl (lv_at hl2 1 rfl) ?_
    refine lv_iload_n hx hb jd_ix4_32 rfl (lv_at hl2 0 rfl) ?_
    have hm := jm_ixC (l := l) (rc := rc) (adV := adV) (A := A) (L := L) (xs := xs) d ch
    rw [jx_r_eq ch h0 h1] at hm
    exact jx_S (As := [.ref (adV 0), .int ch, .int 0, .int 10]) (rest := []) hx hb hml hown hts hG va_S.rf hm jw_228 jw_9 jw_226 jw_227 ⟨by decide, by decide, jn_ixC⟩ ⟨by simp [ax_rm], by simp [ax_rm]; omega⟩ hl2.1 (by decide) jd_ix4_33 (Nat.le_refl _) (Nat.le_refl _) (fin _ _ jd_ix4_36)
  · have ho : ax_ix ch = -1 := jx_ix_out ch (by
      by_cases h0 : ch < 0
      · exact Or.inl h0
      · by_cases h1 : 255 < ch
        · exact Or.inr h1
        · exact absurd h (by simp [jx_can, h0, h1]))
    refine lv_iconst hx hb jd_ix4_7 (v := ax_ix ch) (by rw [ho]; rfl) (fin _ _ jd_ix4_8)
theorem jm_ixII (d : Nat) (ch : Int32) : jx_M l A rc adV L xs (d + 3) jy_ixII prog_10_method_80_code 3 .int [.ref (rc 1), .int ch, .int 0] (.int (ax_ix ch)) := by
  refine jx_of (by decide +kernel) (by simp [lg_sl, Value.category]) ?_ rfl
  intro p e s m below meth c ls hx hb hml hown hts hG hl fin
  refine lv_aload_n hx hb jd_ixII_0 rfl (lv_at hl 0 rfl) ?_
  refine jx_V (As := []) hx hb hml hown hts hG va_S.rf (jm_lat d) jw_207 rfl jw_204 jw_205 jw_206 (by decide +kernel) ⟨by simp [ax_rm], by simp [ax_rm]; omega⟩ hl.1 (by decide) jd_ixII_1 (Nat.le_refl _) (Nat.le_refl _) ?_
  refine lv_if_eq hx hb jd_ixII_4 (tgt := 23) rfl (fun h => absurd h (by decide)) (fun _ => ?_)
  refine lv_aload_n hx hb jd_ixII_7 rfl (lv_at hl 0 rfl) ?_
  refine vk_getf hx hb (hG.2.2.2.2.2.1.1 0 (by decide)).2.2.1 va_S.rf hown (hts _ jw_804) (fun _ h => h) jd_ixII_8 ?_
  refine lv_iload_n hx hb jd_ixII_11 rfl (lv_at hl 1 rfl) ?_
  refine lv_iload_n hx hb jd_ixII_12 rfl (lv_at hl 2 rfl) ?_
  refine lv_aload_n hx hb jd_ixII_13 rfl (lv_at hl 0 rfl) ?_
  refine jx_V (As := []) hx hb hml hown hts hG va_S.rf (jm_len d) jw_213 rfl jw_210 jw_211 jw_212 (by decide +kernel) ⟨by simp [ax_rm], by simp [ax_rm]; omega⟩ hl.1 (by simp [Value.category]) jd_ixII_14 (Nat.le_refl _) (Nat.le_refl _) ?_
  refine jx_S (As := [.ref (adV 0), .int ch, .int 0, .int 10]) (rest := []) hx hb hml hown hts hG va_S.rf (jm_ix4 d ch) jw_220 jw_9 jw_218 jw_219 ⟨by decide, by decide, jn_ix4⟩ ⟨by simp [ax_rm], by simp [ax_rm]; omega⟩ hl.1 (by decide) jd_ixII_17 (Nat.le_refl _) (Nat.le_refl _) ?_
  exact lv_goto hx hb jd_ixII_20 (tgt := 36) rfl (fin _ _ jd_ixII_36)
theorem jm_ixI (d : Nat) (ch : Int32) : jx_M l A rc adV L xs (d + 4) jy_ixI prog_10_method_79_code 2 .int [.ref (rc 1), .int ch] (.int (ax_ix ch)) := by
  refine jx_of (by decide +kernel) (by simp [lg_sl, Value.category]) ?_ rfl
  intro p e s m below meth c ls hx hb hml hown hts hG hl fin
  refine lv_aload_n hx hb jd_ixI_0 rfl (lv_at hl 0 rfl) ?_
  refine lv_iload_n hx hb jd_ixI_1 rfl (lv_at hl 1 rfl) ?_
  refine lv_iconst hx hb jd_ixI_2 (v := 0) rfl ?_
  exact jx_V (As := [.int ch, .int 0]) (rest := []) hx hb hml hown hts hG va_S.rf (jm_ixII d ch) jw_203 rfl jw_200 jw_201 jw_202 jn_ixII ⟨by simp [ax_rm], by simp [ax_rm]; omega⟩ hl.1 (by decide) jd_ixI_3 (Nat.le_refl _) (Nat.le_refl _) (fin _ _ jd_ixI_6)
theorem jx_only : ∀ q ∈ ns_lC, q.2.1 = .inr 4 → q.1 = (2, 28) := by decide +kernel
theorem ns_IxOK : ax_IxOK l rc A (ns_G A rc adV L xs) ns_tb ns_Tb ns_cn := by
  intro p e R s m args below meth c Qs I d hx hb hml hown hts hG hA hRf hRl idx pc ls rest ch H locs cells slots hd hdec hq hw hsz hS hk hn kk
  obtain ⟨np, mc, ms, ci, hq⟩ := hq
  have h3 : (I.2.1, idx) = (2, 28) := jx_only _ (ns_find hq) rfl
  obtain ⟨h2, rfl⟩ := Prod.mk.inj h3
  rw [h2] at hown
  exact jx_V (As := [.int ch]) hx hb hml hown hts hG hS (jm_ixI 0 ch) jw_199 rfl jw_196 jw_197 jw_198 jn_ixI ⟨by omega, by omega⟩ hsz hw hdec hk hn (kk H locs rfl rfl)
end JY
