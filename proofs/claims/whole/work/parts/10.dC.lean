theorem nd_C_init_0 : decode prog_2_method_1_code 0 = .ok (.aload_n 0, 1) := by decide +kernel
theorem nd_C_init_1 : decode prog_2_method_1_code 1 = .ok (.invokespecial 3, 3) := by decide +kernel
theorem nd_C_init_4 : decode prog_2_method_1_code 4 = .ok (.aload_n 0, 1) := by decide +kernel
theorem nd_C_init_5 : decode prog_2_method_1_code 5 = .ok (.new 9, 3) := by decide +kernel
theorem nd_C_init_8 : decode prog_2_method_1_code 8 = .ok (.dup, 1) := by decide +kernel
theorem nd_C_init_9 : decode prog_2_method_1_code 9 = .ok (.invokespecial 11, 3) := by decide +kernel
theorem nd_C_init_12 : decode prog_2_method_1_code 12 = .ok (.putfield 12, 3) := by decide +kernel
theorem nd_C_init_15 : decode prog_2_method_1_code 15 = .ok (.aload_n 0, 1) := by decide +kernel
theorem nd_C_init_16 : decode prog_2_method_1_code 16 = .ok (.new 18, 3) := by decide +kernel
theorem nd_C_init_19 : decode prog_2_method_1_code 19 = .ok (.dup, 1) := by decide +kernel
theorem nd_C_init_20 : decode prog_2_method_1_code 20 = .ok (.invokespecial 20, 3) := by decide +kernel
theorem nd_C_init_23 : decode prog_2_method_1_code 23 = .ok (.putfield 21, 3) := by decide +kernel
theorem nd_C_init_26 : decode prog_2_method_1_code 26 = .ok (.aload_n 0, 1) := by decide +kernel
theorem nd_C_init_27 : decode prog_2_method_1_code 27 = .ok (.iconst 3, 1) := by decide +kernel
theorem nd_C_init_28 : decode prog_2_method_1_code 28 = .ok (.newarray .int, 2) := by decide +kernel
theorem nd_C_init_30 : decode prog_2_method_1_code 30 = .ok (.putfield 25, 3) := by decide +kernel
theorem nd_C_init_33 : decode prog_2_method_1_code 33 = .ok (.aload_n 0, 1) := by decide +kernel
theorem nd_C_init_34 : decode prog_2_method_1_code 34 = .ok (.bipush 30, 2) := by decide +kernel
theorem nd_C_init_36 : decode prog_2_method_1_code 36 = .ok (.newarray .int, 2) := by decide +kernel
theorem nd_C_init_38 : decode prog_2_method_1_code 38 = .ok (.putfield 29, 3) := by decide +kernel
theorem nd_C_init_41 : decode prog_2_method_1_code 41 = .ok (.return_, 1) := by decide +kernel
theorem nd_C_ownDurability_0 : decode prog_2_method_2_code 0 = .ok (.aload_n 0, 1) := by decide +kernel
theorem nd_C_ownDurability_1 : decode prog_2_method_2_code 1 = .ok (.getfield 32, 3) := by decide +kernel
theorem nd_C_ownDurability_4 : decode prog_2_method_2_code 4 = .ok (.ifCond .eq 7, 3) := by decide +kernel
theorem nd_C_ownDurability_7 : decode prog_2_method_2_code 7 = .ok (.iconst 2, 1) := by decide +kernel
theorem nd_C_ownDurability_8 : decode prog_2_method_2_code 8 = .ok (.goto 7, 3) := by decide +kernel
theorem nd_C_ownDurability_11 : decode prog_2_method_2_code 11 = .ok (.aload_n 0, 1) := by decide +kernel
theorem nd_C_ownDurability_12 : decode prog_2_method_2_code 12 = .ok (.getfield 36, 3) := by decide +kernel
theorem nd_C_ownDurability_15 : decode prog_2_method_2_code 15 = .ok (.ireturn, 1) := by decide +kernel
theorem nd_C_givenDurability_0 : decode prog_2_method_3_code 0 = .ok (.aload_n 0, 1) := by decide +kernel
theorem nd_C_givenDurability_1 : decode prog_2_method_3_code 1 = .ok (.getfield 32, 3) := by decide +kernel
theorem nd_C_givenDurability_4 : decode prog_2_method_3_code 4 = .ok (.ifCond .eq 13, 3) := by decide +kernel
theorem nd_C_givenDurability_7 : decode prog_2_method_3_code 7 = .ok (.aload_n 0, 1) := by decide +kernel
theorem nd_C_givenDurability_8 : decode prog_2_method_3_code 8 = .ok (.getfield 21, 3) := by decide +kernel
theorem nd_C_givenDurability_11 : decode prog_2_method_3_code 11 = .ok (.getfield 40, 3) := by decide +kernel
theorem nd_C_givenDurability_14 : decode prog_2_method_3_code 14 = .ok (.goto 7, 3) := by decide +kernel
theorem nd_C_givenDurability_17 : decode prog_2_method_3_code 17 = .ok (.aload_n 0, 1) := by decide +kernel
theorem nd_C_givenDurability_18 : decode prog_2_method_3_code 18 = .ok (.getfield 36, 3) := by decide +kernel
theorem nd_C_givenDurability_21 : decode prog_2_method_3_code 21 = .ok (.ireturn, 1) := by decide +kernel
theorem nd_C_unchangedSince_0 : decode prog_2_method_4_code 0 = .ok (.aload_n 0, 1) := by decide +kernel
theorem nd_C_unchangedSince_1 : decode prog_2_method_4_code 1 = .ok (.getfield 32, 3) := by decide +kernel
theorem nd_C_unchangedSince_4 : decode prog_2_method_4_code 4 = .ok (.ifCond .eq 13, 3) := by decide +kernel
theorem nd_C_unchangedSince_7 : decode prog_2_method_4_code 7 = .ok (.aload_n 0, 1) := by decide +kernel
theorem nd_C_unchangedSince_8 : decode prog_2_method_4_code 8 = .ok (.getfield 21, 3) := by decide +kernel
theorem nd_C_unchangedSince_11 : decode prog_2_method_4_code 11 = .ok (.getfield 41, 3) := by decide +kernel
theorem nd_C_unchangedSince_14 : decode prog_2_method_4_code 14 = .ok (.goto 7, 3) := by decide +kernel
theorem nd_C_unchangedSince_17 : decode prog_2_method_4_code 17 = .ok (.aload_n 0, 1) := by decide +kernel
theorem nd_C_unchangedSince_18 : decode prog_2_method_4_code 18 = .ok (.getfield 44, 3) := by decide +kernel
theorem nd_C_unchangedSince_21 : decode prog_2_method_4_code 21 = .ok (.ireturn, 1) := by decide +kernel
theorem nd_F_init_0 : decode prog_3_method_1_code 0 = .ok (.aload_n 0, 1) := by decide +kernel
theorem nd_F_init_1 : decode prog_3_method_1_code 1 = .ok (.invokespecial 3, 3) := by decide +kernel
theorem nd_F_init_4 : decode prog_3_method_1_code 4 = .ok (.aload_n 0, 1) := by decide +kernel
theorem nd_F_init_5 : decode prog_3_method_1_code 5 = .ok (.bipush 30, 2) := by decide +kernel
theorem nd_F_init_7 : decode prog_3_method_1_code 7 = .ok (.newarray .char, 2) := by decide +kernel
theorem nd_F_init_9 : decode prog_3_method_1_code 9 = .ok (.putfield 9, 3) := by decide +kernel
theorem nd_F_init_12 : decode prog_3_method_1_code 12 = .ok (.aload_n 0, 1) := by decide +kernel
theorem nd_F_init_13 : decode prog_3_method_1_code 13 = .ok (.bipush 30, 2) := by decide +kernel
theorem nd_F_init_15 : decode prog_3_method_1_code 15 = .ok (.newarray .int, 2) := by decide +kernel
theorem nd_F_init_17 : decode prog_3_method_1_code 17 = .ok (.putfield 15, 3) := by decide +kernel
theorem nd_F_init_20 : decode prog_3_method_1_code 20 = .ok (.return_, 1) := by decide +kernel
theorem nd_F_isLetter_0 : decode prog_3_method_2_code 0 = .ok (.iload_n 0, 1) := by decide +kernel
theorem nd_F_isLetter_1 : decode prog_3_method_2_code 1 = .ok (.bipush 65, 2) := by decide +kernel
theorem nd_F_isLetter_3 : decode prog_3_method_2_code 3 = .ok (.if_icmp .lt 13, 3) := by decide +kernel
theorem nd_F_isLetter_6 : decode prog_3_method_2_code 6 = .ok (.iload_n 0, 1) := by decide +kernel
theorem nd_F_isLetter_7 : decode prog_3_method_2_code 7 = .ok (.bipush 77, 2) := by decide +kernel
theorem nd_F_isLetter_9 : decode prog_3_method_2_code 9 = .ok (.if_icmp .ge 7, 3) := by decide +kernel
theorem nd_F_isLetter_12 : decode prog_3_method_2_code 12 = .ok (.iconst 1, 1) := by decide +kernel
theorem nd_F_isLetter_13 : decode prog_3_method_2_code 13 = .ok (.goto 4, 3) := by decide +kernel
theorem nd_F_isLetter_16 : decode prog_3_method_2_code 16 = .ok (.iconst 0, 1) := by decide +kernel
theorem nd_F_isLetter_17 : decode prog_3_method_2_code 17 = .ok (.ireturn, 1) := by decide +kernel
theorem nd_F_isDigit_0 : decode prog_3_method_3_code 0 = .ok (.iload_n 0, 1) := by decide +kernel
theorem nd_F_isDigit_1 : decode prog_3_method_3_code 1 = .ok (.bipush 48, 2) := by decide +kernel
theorem nd_F_isDigit_3 : decode prog_3_method_3_code 3 = .ok (.if_icmp .lt 13, 3) := by decide +kernel
theorem nd_F_isDigit_6 : decode prog_3_method_3_code 6 = .ok (.iload_n 0, 1) := by decide +kernel
theorem nd_F_isDigit_7 : decode prog_3_method_3_code 7 = .ok (.bipush 57, 2) := by decide +kernel
theorem nd_F_isDigit_9 : decode prog_3_method_3_code 9 = .ok (.if_icmp .gt 7, 3) := by decide +kernel
theorem nd_F_isDigit_12 : decode prog_3_method_3_code 12 = .ok (.iconst 1, 1) := by decide +kernel
theorem nd_F_isDigit_13 : decode prog_3_method_3_code 13 = .ok (.goto 4, 3) := by decide +kernel
theorem nd_F_isDigit_16 : decode prog_3_method_3_code 16 = .ok (.iconst 0, 1) := by decide +kernel
theorem nd_F_isDigit_17 : decode prog_3_method_3_code 17 = .ok (.ireturn, 1) := by decide +kernel
theorem nd_F_mayHold_0 : decode prog_3_method_4_code 0 = .ok (.iload_n 0, 1) := by decide +kernel
theorem nd_F_mayHold_1 : decode prog_3_method_4_code 1 = .ok (.invokestatic 19, 3) := by decide +kernel
theorem nd_F_mayHold_4 : decode prog_3_method_4_code 4 = .ok (.ifCond .ne 19, 3) := by decide +kernel
theorem nd_F_mayHold_7 : decode prog_3_method_4_code 7 = .ok (.iload_n 0, 1) := by decide +kernel
theorem nd_F_mayHold_8 : decode prog_3_method_4_code 8 = .ok (.invokestatic 23, 3) := by decide +kernel
theorem nd_F_mayHold_11 : decode prog_3_method_4_code 11 = .ok (.ifCond .ne 12, 3) := by decide +kernel
theorem nd_F_mayHold_14 : decode prog_3_method_4_code 14 = .ok (.ldc 26, 2) := by decide +kernel
theorem nd_F_mayHold_16 : decode prog_3_method_4_code 16 = .ok (.iload_n 0, 1) := by decide +kernel
theorem nd_F_mayHold_17 : decode prog_3_method_4_code 17 = .ok (.invokevirtual 28, 3) := by decide +kernel
theorem nd_F_mayHold_20 : decode prog_3_method_4_code 20 = .ok (.ifCond .lt 7, 3) := by decide +kernel
theorem nd_F_mayHold_23 : decode prog_3_method_4_code 23 = .ok (.iconst 1, 1) := by decide +kernel
theorem nd_F_mayHold_24 : decode prog_3_method_4_code 24 = .ok (.goto 4, 3) := by decide +kernel
theorem nd_F_mayHold_27 : decode prog_3_method_4_code 27 = .ok (.iconst 0, 1) := by decide +kernel
theorem nd_F_mayHold_28 : decode prog_3_method_4_code 28 = .ok (.ireturn, 1) := by decide +kernel
theorem nd_F_append_0 : decode prog_3_method_5_code 0 = .ok (.aload_n 0, 1) := by decide +kernel
theorem nd_F_append_1 : decode prog_3_method_5_code 1 = .ok (.getfield 34, 3) := by decide +kernel
theorem nd_F_append_4 : decode prog_3_method_5_code 4 = .ok (.bipush 30, 2) := by decide +kernel
theorem nd_F_append_6 : decode prog_3_method_5_code 6 = .ok (.if_icmp .lt 5, 3) := by decide +kernel
theorem nd_F_append_9 : decode prog_3_method_5_code 9 = .ok (.iconst 0, 1) := by decide +kernel
theorem nd_F_append_10 : decode prog_3_method_5_code 10 = .ok (.ireturn, 1) := by decide +kernel
theorem nd_F_append_11 : decode prog_3_method_5_code 11 = .ok (.aload_n 0, 1) := by decide +kernel
theorem nd_F_append_12 : decode prog_3_method_5_code 12 = .ok (.getfield 9, 3) := by decide +kernel
theorem nd_F_append_15 : decode prog_3_method_5_code 15 = .ok (.aload_n 0, 1) := by decide +kernel
theorem nd_F_append_16 : decode prog_3_method_5_code 16 = .ok (.getfield 34, 3) := by decide +kernel
theorem nd_F_append_19 : decode prog_3_method_5_code 19 = .ok (.iload_n 1, 1) := by decide +kernel
theorem nd_F_append_20 : decode prog_3_method_5_code 20 = .ok (.castore, 1) := by decide +kernel
theorem nd_F_append_21 : decode prog_3_method_5_code 21 = .ok (.aload_n 0, 1) := by decide +kernel
theorem nd_F_append_22 : decode prog_3_method_5_code 22 = .ok (.dup, 1) := by decide +kernel
theorem nd_F_append_23 : decode prog_3_method_5_code 23 = .ok (.getfield 34, 3) := by decide +kernel
theorem nd_F_append_26 : decode prog_3_method_5_code 26 = .ok (.iconst 1, 1) := by decide +kernel
theorem nd_F_append_27 : decode prog_3_method_5_code 27 = .ok (.iadd, 1) := by decide +kernel
theorem nd_F_append_28 : decode prog_3_method_5_code 28 = .ok (.putfield 34, 3) := by decide +kernel
theorem nd_F_append_31 : decode prog_3_method_5_code 31 = .ok (.iconst 1, 1) := by decide +kernel
theorem nd_F_append_32 : decode prog_3_method_5_code 32 = .ok (.ireturn, 1) := by decide +kernel
theorem nd_F_addStep_0 : decode prog_3_method_6_code 0 = .ok (.aload_n 0, 1) := by decide +kernel
theorem nd_F_addStep_1 : decode prog_3_method_6_code 1 = .ok (.getfield 38, 3) := by decide +kernel
theorem nd_F_addStep_4 : decode prog_3_method_6_code 4 = .ok (.bipush 30, 2) := by decide +kernel
theorem nd_F_addStep_6 : decode prog_3_method_6_code 6 = .ok (.if_icmp .ge 29, 3) := by decide +kernel
theorem nd_F_addStep_9 : decode prog_3_method_6_code 9 = .ok (.aload_n 0, 1) := by decide +kernel
theorem nd_F_addStep_10 : decode prog_3_method_6_code 10 = .ok (.getfield 15, 3) := by decide +kernel
theorem nd_F_addStep_13 : decode prog_3_method_6_code 13 = .ok (.aload_n 0, 1) := by decide +kernel
theorem nd_F_addStep_14 : decode prog_3_method_6_code 14 = .ok (.getfield 38, 3) := by decide +kernel
theorem nd_F_addStep_17 : decode prog_3_method_6_code 17 = .ok (.iload_n 1, 1) := by decide +kernel
theorem nd_F_addStep_18 : decode prog_3_method_6_code 18 = .ok (.sipush 10000, 3) := by decide +kernel
theorem nd_F_addStep_21 : decode prog_3_method_6_code 21 = .ok (.imul, 1) := by decide +kernel
theorem nd_F_addStep_22 : decode prog_3_method_6_code 22 = .ok (.iload_n 2, 1) := by decide +kernel
theorem nd_F_addStep_23 : decode prog_3_method_6_code 23 = .ok (.iadd, 1) := by decide +kernel
theorem nd_F_addStep_24 : decode prog_3_method_6_code 24 = .ok (.iastore, 1) := by decide +kernel
theorem nd_F_addStep_25 : decode prog_3_method_6_code 25 = .ok (.aload_n 0, 1) := by decide +kernel
theorem nd_F_addStep_26 : decode prog_3_method_6_code 26 = .ok (.dup, 1) := by decide +kernel
theorem nd_F_addStep_27 : decode prog_3_method_6_code 27 = .ok (.getfield 38, 3) := by decide +kernel
theorem nd_F_addStep_30 : decode prog_3_method_6_code 30 = .ok (.iconst 1, 1) := by decide +kernel
theorem nd_F_addStep_31 : decode prog_3_method_6_code 31 = .ok (.iadd, 1) := by decide +kernel
theorem nd_F_addStep_32 : decode prog_3_method_6_code 32 = .ok (.putfield 38, 3) := by decide +kernel
theorem nd_F_addStep_35 : decode prog_3_method_6_code 35 = .ok (.aload_n 0, 1) := by decide +kernel
theorem nd_F_addStep_36 : decode prog_3_method_6_code 36 = .ok (.getfield 38, 3) := by decide +kernel
theorem nd_F_addStep_39 : decode prog_3_method_6_code 39 = .ok (.iconst 1, 1) := by decide +kernel
theorem nd_F_addStep_40 : decode prog_3_method_6_code 40 = .ok (.isub, 1) := by decide +kernel
theorem nd_F_addStep_41 : decode prog_3_method_6_code 41 = .ok (.ireturn, 1) := by decide +kernel
theorem nd_F_jumpToEnd_0 : decode prog_3_method_7_code 0 = .ok (.aload_n 0, 1) := by decide +kernel
theorem nd_F_jumpToEnd_1 : decode prog_3_method_7_code 1 = .ok (.getfield 15, 3) := by decide +kernel
theorem nd_F_jumpToEnd_4 : decode prog_3_method_7_code 4 = .ok (.iload_n 1, 1) := by decide +kernel
theorem nd_F_jumpToEnd_5 : decode prog_3_method_7_code 5 = .ok (.aload_n 0, 1) := by decide +kernel
theorem nd_F_jumpToEnd_6 : decode prog_3_method_7_code 6 = .ok (.iload_n 1, 1) := by decide +kernel
theorem nd_F_jumpToEnd_7 : decode prog_3_method_7_code 7 = .ok (.invokevirtual 41, 3) := by decide +kernel
theorem nd_F_jumpToEnd_10 : decode prog_3_method_7_code 10 = .ok (.sipush 10000, 3) := by decide +kernel
theorem nd_F_jumpToEnd_13 : decode prog_3_method_7_code 13 = .ok (.imul, 1) := by decide +kernel
theorem nd_F_jumpToEnd_14 : decode prog_3_method_7_code 14 = .ok (.aload_n 0, 1) := by decide +kernel
theorem nd_F_jumpToEnd_15 : decode prog_3_method_7_code 15 = .ok (.getfield 38, 3) := by decide +kernel
theorem nd_F_jumpToEnd_18 : decode prog_3_method_7_code 18 = .ok (.iadd, 1) := by decide +kernel
theorem nd_F_jumpToEnd_19 : decode prog_3_method_7_code 19 = .ok (.iastore, 1) := by decide +kernel
theorem nd_F_jumpToEnd_20 : decode prog_3_method_7_code 20 = .ok (.return_, 1) := by decide +kernel
theorem nd_F_stepAt_0 : decode prog_3_method_8_code 0 = .ok (.aload_n 0, 1) := by decide +kernel
theorem nd_F_stepAt_1 : decode prog_3_method_8_code 1 = .ok (.getfield 15, 3) := by decide +kernel
theorem nd_F_stepAt_4 : decode prog_3_method_8_code 4 = .ok (.iload_n 1, 1) := by decide +kernel
theorem nd_F_stepAt_5 : decode prog_3_method_8_code 5 = .ok (.iaload, 1) := by decide +kernel
theorem nd_F_stepAt_6 : decode prog_3_method_8_code 6 = .ok (.sipush 10000, 3) := by decide +kernel
theorem nd_F_stepAt_9 : decode prog_3_method_8_code 9 = .ok (.idiv, 1) := by decide +kernel
theorem nd_F_stepAt_10 : decode prog_3_method_8_code 10 = .ok (.ireturn, 1) := by decide +kernel
theorem nd_F_operandAt_0 : decode prog_3_method_9_code 0 = .ok (.aload_n 0, 1) := by decide +kernel
theorem nd_F_operandAt_1 : decode prog_3_method_9_code 1 = .ok (.getfield 15, 3) := by decide +kernel
theorem nd_F_operandAt_4 : decode prog_3_method_9_code 4 = .ok (.iload_n 1, 1) := by decide +kernel
theorem nd_F_operandAt_5 : decode prog_3_method_9_code 5 = .ok (.iaload, 1) := by decide +kernel
theorem nd_F_operandAt_6 : decode prog_3_method_9_code 6 = .ok (.sipush 10000, 3) := by decide +kernel
theorem nd_F_operandAt_9 : decode prog_3_method_9_code 9 = .ok (.irem, 1) := by decide +kernel
theorem nd_F_operandAt_10 : decode prog_3_method_9_code 10 = .ok (.ireturn, 1) := by decide +kernel
theorem nd_F_hasTextOf_0 : decode prog_3_method_10_code 0 = .ok (.aload_n 0, 1) := by decide +kernel
theorem nd_F_hasTextOf_1 : decode prog_3_method_10_code 1 = .ok (.getfield 34, 3) := by decide +kernel
theorem nd_F_hasTextOf_4 : decode prog_3_method_10_code 4 = .ok (.aload_n 1, 1) := by decide +kernel
theorem nd_F_hasTextOf_5 : decode prog_3_method_10_code 5 = .ok (.getfield 34, 3) := by decide +kernel
theorem nd_F_hasTextOf_8 : decode prog_3_method_10_code 8 = .ok (.if_icmp .eq 5, 3) := by decide +kernel
theorem nd_F_hasTextOf_11 : decode prog_3_method_10_code 11 = .ok (.iconst 0, 1) := by decide +kernel
theorem nd_F_hasTextOf_12 : decode prog_3_method_10_code 12 = .ok (.ireturn, 1) := by decide +kernel
theorem nd_F_hasTextOf_13 : decode prog_3_method_10_code 13 = .ok (.iconst 0, 1) := by decide +kernel
theorem nd_F_hasTextOf_14 : decode prog_3_method_10_code 14 = .ok (.istore_n 2, 1) := by decide +kernel
theorem nd_F_hasTextOf_15 : decode prog_3_method_10_code 15 = .ok (.iload_n 2, 1) := by decide +kernel
theorem nd_F_hasTextOf_16 : decode prog_3_method_10_code 16 = .ok (.aload_n 0, 1) := by decide +kernel
theorem nd_F_hasTextOf_17 : decode prog_3_method_10_code 17 = .ok (.getfield 34, 3) := by decide +kernel
theorem nd_F_hasTextOf_20 : decode prog_3_method_10_code 20 = .ok (.if_icmp .ge 26, 3) := by decide +kernel
theorem nd_F_hasTextOf_23 : decode prog_3_method_10_code 23 = .ok (.aload_n 0, 1) := by decide +kernel
theorem nd_F_hasTextOf_24 : decode prog_3_method_10_code 24 = .ok (.getfield 9, 3) := by decide +kernel
theorem nd_F_hasTextOf_27 : decode prog_3_method_10_code 27 = .ok (.iload_n 2, 1) := by decide +kernel
theorem nd_F_hasTextOf_28 : decode prog_3_method_10_code 28 = .ok (.caload, 1) := by decide +kernel
theorem nd_F_hasTextOf_29 : decode prog_3_method_10_code 29 = .ok (.aload_n 1, 1) := by decide +kernel
theorem nd_F_hasTextOf_30 : decode prog_3_method_10_code 30 = .ok (.getfield 9, 3) := by decide +kernel
theorem nd_F_hasTextOf_33 : decode prog_3_method_10_code 33 = .ok (.iload_n 2, 1) := by decide +kernel
theorem nd_F_hasTextOf_34 : decode prog_3_method_10_code 34 = .ok (.caload, 1) := by decide +kernel
theorem nd_F_hasTextOf_35 : decode prog_3_method_10_code 35 = .ok (.if_icmp .eq 5, 3) := by decide +kernel
theorem nd_F_hasTextOf_38 : decode prog_3_method_10_code 38 = .ok (.iconst 0, 1) := by decide +kernel
theorem nd_F_hasTextOf_39 : decode prog_3_method_10_code 39 = .ok (.ireturn, 1) := by decide +kernel
theorem nd_F_hasTextOf_40 : decode prog_3_method_10_code 40 = .ok (.iinc 2 1, 3) := by decide +kernel
theorem nd_F_hasTextOf_43 : decode prog_3_method_10_code 43 = .ok (.goto (-28), 3) := by decide +kernel
theorem nd_F_hasTextOf_46 : decode prog_3_method_10_code 46 = .ok (.iconst 1, 1) := by decide +kernel
theorem nd_F_hasTextOf_47 : decode prog_3_method_10_code 47 = .ok (.ireturn, 1) := by decide +kernel
theorem nd_F_copyFrom_0 : decode prog_3_method_11_code 0 = .ok (.aload_n 1, 1) := by decide +kernel
theorem nd_F_copyFrom_1 : decode prog_3_method_11_code 1 = .ok (.getfield 9, 3) := by decide +kernel
theorem nd_F_copyFrom_4 : decode prog_3_method_11_code 4 = .ok (.iconst 0, 1) := by decide +kernel
theorem nd_F_copyFrom_5 : decode prog_3_method_11_code 5 = .ok (.aload_n 0, 1) := by decide +kernel
theorem nd_F_copyFrom_6 : decode prog_3_method_11_code 6 = .ok (.getfield 9, 3) := by decide +kernel
theorem nd_F_copyFrom_9 : decode prog_3_method_11_code 9 = .ok (.iconst 0, 1) := by decide +kernel
theorem nd_F_copyFrom_10 : decode prog_3_method_11_code 10 = .ok (.bipush 30, 2) := by decide +kernel
theorem nd_F_copyFrom_12 : decode prog_3_method_11_code 12 = .ok (.invokestatic 44, 3) := by decide +kernel
theorem nd_F_copyFrom_15 : decode prog_3_method_11_code 15 = .ok (.aload_n 1, 1) := by decide +kernel
theorem nd_F_copyFrom_16 : decode prog_3_method_11_code 16 = .ok (.getfield 15, 3) := by decide +kernel
theorem nd_F_copyFrom_19 : decode prog_3_method_11_code 19 = .ok (.iconst 0, 1) := by decide +kernel
theorem nd_F_copyFrom_20 : decode prog_3_method_11_code 20 = .ok (.aload_n 0, 1) := by decide +kernel
theorem nd_F_copyFrom_21 : decode prog_3_method_11_code 21 = .ok (.getfield 15, 3) := by decide +kernel
theorem nd_F_copyFrom_24 : decode prog_3_method_11_code 24 = .ok (.iconst 0, 1) := by decide +kernel
theorem nd_F_copyFrom_25 : decode prog_3_method_11_code 25 = .ok (.bipush 30, 2) := by decide +kernel
theorem nd_F_copyFrom_27 : decode prog_3_method_11_code 27 = .ok (.invokestatic 44, 3) := by decide +kernel
theorem nd_F_copyFrom_30 : decode prog_3_method_11_code 30 = .ok (.aload_n 0, 1) := by decide +kernel
theorem nd_F_copyFrom_31 : decode prog_3_method_11_code 31 = .ok (.aload_n 1, 1) := by decide +kernel
theorem nd_F_copyFrom_32 : decode prog_3_method_11_code 32 = .ok (.getfield 34, 3) := by decide +kernel
theorem nd_F_copyFrom_35 : decode prog_3_method_11_code 35 = .ok (.putfield 34, 3) := by decide +kernel
theorem nd_F_copyFrom_38 : decode prog_3_method_11_code 38 = .ok (.aload_n 0, 1) := by decide +kernel
theorem nd_F_copyFrom_39 : decode prog_3_method_11_code 39 = .ok (.aload_n 1, 1) := by decide +kernel
theorem nd_F_copyFrom_40 : decode prog_3_method_11_code 40 = .ok (.getfield 38, 3) := by decide +kernel
theorem nd_F_copyFrom_43 : decode prog_3_method_11_code 43 = .ok (.putfield 38, 3) := by decide +kernel
theorem nd_F_copyFrom_46 : decode prog_3_method_11_code 46 = .ok (.return_, 1) := by decide +kernel
theorem nd_O_init_0 : decode prog_4_method_1_code 0 = .ok (.aload_n 0, 1) := by decide +kernel
theorem nd_O_init_1 : decode prog_4_method_1_code 1 = .ok (.invokespecial 3, 3) := by decide +kernel
theorem nd_O_init_4 : decode prog_4_method_1_code 4 = .ok (.aload_n 0, 1) := by decide +kernel
theorem nd_O_init_5 : decode prog_4_method_1_code 5 = .ok (.bipush 12, 2) := by decide +kernel
theorem nd_O_init_7 : decode prog_4_method_1_code 7 = .ok (.newarray .int, 2) := by decide +kernel
theorem nd_O_init_9 : decode prog_4_method_1_code 9 = .ok (.putfield 9, 3) := by decide +kernel
theorem nd_O_init_12 : decode prog_4_method_1_code 12 = .ok (.return_, 1) := by decide +kernel
theorem nd_O_clear_0 : decode prog_4_method_2_code 0 = .ok (.aload_n 0, 1) := by decide +kernel
theorem nd_O_clear_1 : decode prog_4_method_2_code 1 = .ok (.iconst 0, 1) := by decide +kernel
theorem nd_O_clear_2 : decode prog_4_method_2_code 2 = .ok (.putfield 15, 3) := by decide +kernel
theorem nd_O_clear_5 : decode prog_4_method_2_code 5 = .ok (.aload_n 0, 1) := by decide +kernel
theorem nd_O_clear_6 : decode prog_4_method_2_code 6 = .ok (.iconst 0, 1) := by decide +kernel
theorem nd_O_clear_7 : decode prog_4_method_2_code 7 = .ok (.putfield 19, 3) := by decide +kernel
theorem nd_O_clear_10 : decode prog_4_method_2_code 10 = .ok (.aload_n 0, 1) := by decide +kernel
theorem nd_O_clear_11 : decode prog_4_method_2_code 11 = .ok (.iconst 0, 1) := by decide +kernel
theorem nd_O_clear_12 : decode prog_4_method_2_code 12 = .ok (.putfield 23, 3) := by decide +kernel
theorem nd_O_clear_15 : decode prog_4_method_2_code 15 = .ok (.aload_n 0, 1) := by decide +kernel
theorem nd_O_clear_16 : decode prog_4_method_2_code 16 = .ok (.iconst 0, 1) := by decide +kernel
theorem nd_O_clear_17 : decode prog_4_method_2_code 17 = .ok (.putfield 26, 3) := by decide +kernel
theorem nd_O_clear_20 : decode prog_4_method_2_code 20 = .ok (.aload_n 0, 1) := by decide +kernel
theorem nd_O_clear_21 : decode prog_4_method_2_code 21 = .ok (.iconst 0, 1) := by decide +kernel
theorem nd_O_clear_22 : decode prog_4_method_2_code 22 = .ok (.putfield 29, 3) := by decide +kernel
theorem nd_O_clear_25 : decode prog_4_method_2_code 25 = .ok (.aload_n 0, 1) := by decide +kernel
theorem nd_O_clear_26 : decode prog_4_method_2_code 26 = .ok (.iconst 0, 1) := by decide +kernel
theorem nd_O_clear_27 : decode prog_4_method_2_code 27 = .ok (.putfield 32, 3) := by decide +kernel
theorem nd_O_clear_30 : decode prog_4_method_2_code 30 = .ok (.return_, 1) := by decide +kernel
theorem nd_O_isVerifiedIn_0 : decode prog_4_method_3_code 0 = .ok (.aload_n 0, 1) := by decide +kernel
theorem nd_O_isVerifiedIn_1 : decode prog_4_method_3_code 1 = .ok (.getfield 19, 3) := by decide +kernel
theorem nd_O_isVerifiedIn_4 : decode prog_4_method_3_code 4 = .ok (.ifCond .eq 15, 3) := by decide +kernel
theorem nd_O_isVerifiedIn_7 : decode prog_4_method_3_code 7 = .ok (.aload_n 0, 1) := by decide +kernel
theorem nd_O_isVerifiedIn_8 : decode prog_4_method_3_code 8 = .ok (.getfield 26, 3) := by decide +kernel
theorem nd_O_isVerifiedIn_11 : decode prog_4_method_3_code 11 = .ok (.iload_n 1, 1) := by decide +kernel
theorem nd_O_isVerifiedIn_12 : decode prog_4_method_3_code 12 = .ok (.if_icmp .ne 7, 3) := by decide +kernel
theorem nd_O_isVerifiedIn_15 : decode prog_4_method_3_code 15 = .ok (.iconst 1, 1) := by decide +kernel
theorem nd_O_isVerifiedIn_16 : decode prog_4_method_3_code 16 = .ok (.goto 4, 3) := by decide +kernel
theorem nd_O_isVerifiedIn_19 : decode prog_4_method_3_code 19 = .ok (.iconst 0, 1) := by decide +kernel
theorem nd_O_isVerifiedIn_20 : decode prog_4_method_3_code 20 = .ok (.ireturn, 1) := by decide +kernel
theorem nd_O_keepValue_0 : decode prog_4_method_4_code 0 = .ok (.aload_n 0, 1) := by decide +kernel
theorem nd_O_keepValue_1 : decode prog_4_method_4_code 1 = .ok (.getfield 23, 3) := by decide +kernel
theorem nd_O_keepValue_4 : decode prog_4_method_4_code 4 = .ok (.ifCond .eq 16, 3) := by decide +kernel
theorem nd_O_keepValue_7 : decode prog_4_method_4_code 7 = .ok (.aload_n 0, 1) := by decide +kernel
theorem nd_O_keepValue_8 : decode prog_4_method_4_code 8 = .ok (.getfield 35, 3) := by decide +kernel
theorem nd_O_keepValue_11 : decode prog_4_method_4_code 11 = .ok (.lload_n 1, 1) := by decide +kernel
theorem nd_O_keepValue_12 : decode prog_4_method_4_code 12 = .ok (.lcmp, 1) := by decide +kernel
theorem nd_O_keepValue_13 : decode prog_4_method_4_code 13 = .ok (.ifCond .ne 7, 3) := by decide +kernel
theorem nd_O_keepValue_16 : decode prog_4_method_4_code 16 = .ok (.iconst 1, 1) := by decide +kernel
theorem nd_O_keepValue_17 : decode prog_4_method_4_code 17 = .ok (.goto 4, 3) := by decide +kernel
theorem nd_O_keepValue_20 : decode prog_4_method_4_code 20 = .ok (.iconst 0, 1) := by decide +kernel
theorem nd_O_keepValue_21 : decode prog_4_method_4_code 21 = .ok (.istore 4, 2) := by decide +kernel
theorem nd_O_keepValue_23 : decode prog_4_method_4_code 23 = .ok (.iload 4, 2) := by decide +kernel
theorem nd_O_keepValue_25 : decode prog_4_method_4_code 25 = .ok (.ifCond .ne 16, 3) := by decide +kernel
theorem nd_O_keepValue_28 : decode prog_4_method_4_code 28 = .ok (.aload_n 0, 1) := by decide +kernel
theorem nd_O_keepValue_29 : decode prog_4_method_4_code 29 = .ok (.iload_n 3, 1) := by decide +kernel
theorem nd_O_keepValue_30 : decode prog_4_method_4_code 30 = .ok (.invokevirtual 39, 3) := by decide +kernel
theorem nd_O_keepValue_33 : decode prog_4_method_4_code 33 = .ok (.ifCond .ne 8, 3) := by decide +kernel
theorem nd_O_keepValue_36 : decode prog_4_method_4_code 36 = .ok (.aload_n 0, 1) := by decide +kernel
theorem nd_O_keepValue_37 : decode prog_4_method_4_code 37 = .ok (.iload_n 3, 1) := by decide +kernel
theorem nd_O_keepValue_38 : decode prog_4_method_4_code 38 = .ok (.putfield 29, 3) := by decide +kernel
theorem nd_O_keepValue_41 : decode prog_4_method_4_code 41 = .ok (.aload_n 0, 1) := by decide +kernel
theorem nd_O_keepValue_42 : decode prog_4_method_4_code 42 = .ok (.iconst 1, 1) := by decide +kernel
theorem nd_O_keepValue_43 : decode prog_4_method_4_code 43 = .ok (.putfield 19, 3) := by decide +kernel
theorem nd_O_keepValue_46 : decode prog_4_method_4_code 46 = .ok (.aload_n 0, 1) := by decide +kernel
theorem nd_O_keepValue_47 : decode prog_4_method_4_code 47 = .ok (.iconst 1, 1) := by decide +kernel
theorem nd_O_keepValue_48 : decode prog_4_method_4_code 48 = .ok (.putfield 23, 3) := by decide +kernel
theorem nd_O_keepValue_51 : decode prog_4_method_4_code 51 = .ok (.aload_n 0, 1) := by decide +kernel
theorem nd_O_keepValue_52 : decode prog_4_method_4_code 52 = .ok (.lload_n 1, 1) := by decide +kernel
theorem nd_O_keepValue_53 : decode prog_4_method_4_code 53 = .ok (.putfield 35, 3) := by decide +kernel
theorem nd_O_keepValue_56 : decode prog_4_method_4_code 56 = .ok (.aload_n 0, 1) := by decide +kernel
theorem nd_O_keepValue_57 : decode prog_4_method_4_code 57 = .ok (.iload_n 3, 1) := by decide +kernel
theorem nd_O_keepValue_58 : decode prog_4_method_4_code 58 = .ok (.putfield 26, 3) := by decide +kernel
theorem nd_O_keepValue_61 : decode prog_4_method_4_code 61 = .ok (.return_, 1) := by decide +kernel
theorem nd_O_addRead_0 : decode prog_4_method_5_code 0 = .ok (.iconst 0, 1) := by decide +kernel
theorem nd_O_addRead_1 : decode prog_4_method_5_code 1 = .ok (.istore_n 2, 1) := by decide +kernel
theorem nd_O_addRead_2 : decode prog_4_method_5_code 2 = .ok (.iload_n 2, 1) := by decide +kernel
theorem nd_O_addRead_3 : decode prog_4_method_5_code 3 = .ok (.aload_n 0, 1) := by decide +kernel
theorem nd_O_addRead_4 : decode prog_4_method_5_code 4 = .ok (.getfield 15, 3) := by decide +kernel
theorem nd_O_addRead_7 : decode prog_4_method_5_code 7 = .ok (.if_icmp .ge 20, 3) := by decide +kernel
theorem nd_O_addRead_10 : decode prog_4_method_5_code 10 = .ok (.aload_n 0, 1) := by decide +kernel
theorem nd_O_addRead_11 : decode prog_4_method_5_code 11 = .ok (.getfield 9, 3) := by decide +kernel
theorem nd_O_addRead_14 : decode prog_4_method_5_code 14 = .ok (.iload_n 2, 1) := by decide +kernel
theorem nd_O_addRead_15 : decode prog_4_method_5_code 15 = .ok (.iaload, 1) := by decide +kernel
theorem nd_O_addRead_16 : decode prog_4_method_5_code 16 = .ok (.iload_n 1, 1) := by decide +kernel
theorem nd_O_addRead_17 : decode prog_4_method_5_code 17 = .ok (.if_icmp .ne 4, 3) := by decide +kernel
theorem nd_O_addRead_20 : decode prog_4_method_5_code 20 = .ok (.return_, 1) := by decide +kernel
theorem nd_O_addRead_21 : decode prog_4_method_5_code 21 = .ok (.iinc 2 1, 3) := by decide +kernel
theorem nd_O_addRead_24 : decode prog_4_method_5_code 24 = .ok (.goto (-22), 3) := by decide +kernel
theorem nd_O_addRead_27 : decode prog_4_method_5_code 27 = .ok (.aload_n 0, 1) := by decide +kernel
theorem nd_O_addRead_28 : decode prog_4_method_5_code 28 = .ok (.getfield 15, 3) := by decide +kernel
theorem nd_O_addRead_31 : decode prog_4_method_5_code 31 = .ok (.aload_n 0, 1) := by decide +kernel
theorem nd_O_addRead_32 : decode prog_4_method_5_code 32 = .ok (.getfield 9, 3) := by decide +kernel
theorem nd_O_addRead_35 : decode prog_4_method_5_code 35 = .ok (.arraylength, 1) := by decide +kernel
theorem nd_O_addRead_36 : decode prog_4_method_5_code 36 = .ok (.if_icmp .ge 23, 3) := by decide +kernel
theorem nd_O_addRead_39 : decode prog_4_method_5_code 39 = .ok (.aload_n 0, 1) := by decide +kernel
theorem nd_O_addRead_40 : decode prog_4_method_5_code 40 = .ok (.getfield 9, 3) := by decide +kernel
theorem nd_O_addRead_43 : decode prog_4_method_5_code 43 = .ok (.aload_n 0, 1) := by decide +kernel
theorem nd_O_addRead_44 : decode prog_4_method_5_code 44 = .ok (.getfield 15, 3) := by decide +kernel
theorem nd_O_addRead_47 : decode prog_4_method_5_code 47 = .ok (.iload_n 1, 1) := by decide +kernel
theorem nd_O_addRead_48 : decode prog_4_method_5_code 48 = .ok (.iastore, 1) := by decide +kernel
theorem nd_O_addRead_49 : decode prog_4_method_5_code 49 = .ok (.aload_n 0, 1) := by decide +kernel
theorem nd_O_addRead_50 : decode prog_4_method_5_code 50 = .ok (.dup, 1) := by decide +kernel
theorem nd_O_addRead_51 : decode prog_4_method_5_code 51 = .ok (.getfield 15, 3) := by decide +kernel
theorem nd_O_addRead_54 : decode prog_4_method_5_code 54 = .ok (.iconst 1, 1) := by decide +kernel
theorem nd_O_addRead_55 : decode prog_4_method_5_code 55 = .ok (.iadd, 1) := by decide +kernel
theorem nd_O_addRead_56 : decode prog_4_method_5_code 56 = .ok (.putfield 15, 3) := by decide +kernel
theorem nd_O_addRead_59 : decode prog_4_method_5_code 59 = .ok (.return_, 1) := by decide +kernel
theorem nd_J_floorMod_0 : decode prog_9_method_50_code 0 = .ok (.iload_n 0, 1) := by decide +kernel
theorem nd_J_floorMod_1 : decode prog_9_method_50_code 1 = .ok (.iload_n 1, 1) := by decide +kernel
theorem nd_J_floorMod_2 : decode prog_9_method_50_code 2 = .ok (.irem, 1) := by decide +kernel
theorem nd_J_floorMod_3 : decode prog_9_method_50_code 3 = .ok (.istore_n 2, 1) := by decide +kernel
theorem nd_J_floorMod_4 : decode prog_9_method_50_code 4 = .ok (.iload_n 0, 1) := by decide +kernel
theorem nd_J_floorMod_5 : decode prog_9_method_50_code 5 = .ok (.iload_n 1, 1) := by decide +kernel
theorem nd_J_floorMod_6 : decode prog_9_method_50_code 6 = .ok (.ixor, 1) := by decide +kernel
theorem nd_J_floorMod_7 : decode prog_9_method_50_code 7 = .ok (.ifCond .ge 11, 3) := by decide +kernel
theorem nd_J_floorMod_10 : decode prog_9_method_50_code 10 = .ok (.iload_n 2, 1) := by decide +kernel
theorem nd_J_floorMod_11 : decode prog_9_method_50_code 11 = .ok (.ifCond .eq 7, 3) := by decide +kernel
theorem nd_J_floorMod_14 : decode prog_9_method_50_code 14 = .ok (.iload_n 2, 1) := by decide +kernel
theorem nd_J_floorMod_15 : decode prog_9_method_50_code 15 = .ok (.iload_n 1, 1) := by decide +kernel
theorem nd_J_floorMod_16 : decode prog_9_method_50_code 16 = .ok (.iadd, 1) := by decide +kernel
theorem nd_J_floorMod_17 : decode prog_9_method_50_code 17 = .ok (.ireturn, 1) := by decide +kernel
theorem nd_J_floorMod_18 : decode prog_9_method_50_code 18 = .ok (.iload_n 2, 1) := by decide +kernel
theorem nd_J_floorMod_19 : decode prog_9_method_50_code 19 = .ok (.ireturn, 1) := by decide +kernel
