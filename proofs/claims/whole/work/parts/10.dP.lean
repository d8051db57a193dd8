theorem nd_P_init_0 : decode prog_5_method_1_code 0 = .ok (.aload_n 0, 1) := by decide +kernel
theorem nd_P_init_1 : decode prog_5_method_1_code 1 = .ok (.invokespecial 3, 3) := by decide +kernel
theorem nd_P_init_4 : decode prog_5_method_1_code 4 = .ok (.aload_n 0, 1) := by decide +kernel
theorem nd_P_init_5 : decode prog_5_method_1_code 5 = .ok (.aload_n 1, 1) := by decide +kernel
theorem nd_P_init_6 : decode prog_5_method_1_code 6 = .ok (.putfield 9, 3) := by decide +kernel
theorem nd_P_init_9 : decode prog_5_method_1_code 9 = .ok (.return_, 1) := by decide +kernel
theorem nd_P_accepts_0 : decode prog_5_method_2_code 0 = .ok (.aload_n 0, 1) := by decide +kernel
theorem nd_P_accepts_1 : decode prog_5_method_2_code 1 = .ok (.iconst 0, 1) := by decide +kernel
theorem nd_P_accepts_2 : decode prog_5_method_2_code 2 = .ok (.putfield 15, 3) := by decide +kernel
theorem nd_P_accepts_5 : decode prog_5_method_2_code 5 = .ok (.aload_n 0, 1) := by decide +kernel
theorem nd_P_accepts_6 : decode prog_5_method_2_code 6 = .ok (.getfield 9, 3) := by decide +kernel
theorem nd_P_accepts_9 : decode prog_5_method_2_code 9 = .ok (.iconst 0, 1) := by decide +kernel
theorem nd_P_accepts_10 : decode prog_5_method_2_code 10 = .ok (.putfield 19, 3) := by decide +kernel
theorem nd_P_accepts_13 : decode prog_5_method_2_code 13 = .ok (.aload_n 0, 1) := by decide +kernel
theorem nd_P_accepts_14 : decode prog_5_method_2_code 14 = .ok (.iconst 0, 1) := by decide +kernel
theorem nd_P_accepts_15 : decode prog_5_method_2_code 15 = .ok (.invokevirtual 24, 3) := by decide +kernel
theorem nd_P_accepts_18 : decode prog_5_method_2_code 18 = .ok (.ifCond .eq 21, 3) := by decide +kernel
theorem nd_P_accepts_21 : decode prog_5_method_2_code 21 = .ok (.aload_n 0, 1) := by decide +kernel
theorem nd_P_accepts_22 : decode prog_5_method_2_code 22 = .ok (.getfield 15, 3) := by decide +kernel
theorem nd_P_accepts_25 : decode prog_5_method_2_code 25 = .ok (.aload_n 0, 1) := by decide +kernel
theorem nd_P_accepts_26 : decode prog_5_method_2_code 26 = .ok (.getfield 9, 3) := by decide +kernel
theorem nd_P_accepts_29 : decode prog_5_method_2_code 29 = .ok (.getfield 28, 3) := by decide +kernel
theorem nd_P_accepts_32 : decode prog_5_method_2_code 32 = .ok (.if_icmp .ne 7, 3) := by decide +kernel
theorem nd_P_accepts_35 : decode prog_5_method_2_code 35 = .ok (.iconst 1, 1) := by decide +kernel
theorem nd_P_accepts_36 : decode prog_5_method_2_code 36 = .ok (.goto 4, 3) := by decide +kernel
theorem nd_P_accepts_39 : decode prog_5_method_2_code 39 = .ok (.iconst 0, 1) := by decide +kernel
theorem nd_P_accepts_40 : decode prog_5_method_2_code 40 = .ok (.ireturn, 1) := by decide +kernel
theorem nd_P_fault_0 : decode prog_5_method_3_code 0 = .ok (.aload_n 0, 1) := by decide +kernel
theorem nd_P_fault_1 : decode prog_5_method_3_code 1 = .ok (.getfield 15, 3) := by decide +kernel
theorem nd_P_fault_4 : decode prog_5_method_3_code 4 = .ok (.ireturn, 1) := by decide +kernel
theorem nd_P_next_0 : decode prog_5_method_4_code 0 = .ok (.aload_n 0, 1) := by decide +kernel
theorem nd_P_next_1 : decode prog_5_method_4_code 1 = .ok (.getfield 15, 3) := by decide +kernel
theorem nd_P_next_4 : decode prog_5_method_4_code 4 = .ok (.aload_n 0, 1) := by decide +kernel
theorem nd_P_next_5 : decode prog_5_method_4_code 5 = .ok (.getfield 9, 3) := by decide +kernel
theorem nd_P_next_8 : decode prog_5_method_4_code 8 = .ok (.getfield 28, 3) := by decide +kernel
theorem nd_P_next_11 : decode prog_5_method_4_code 11 = .ok (.if_icmp .ge 18, 3) := by decide +kernel
theorem nd_P_next_14 : decode prog_5_method_4_code 14 = .ok (.aload_n 0, 1) := by decide +kernel
theorem nd_P_next_15 : decode prog_5_method_4_code 15 = .ok (.getfield 9, 3) := by decide +kernel
theorem nd_P_next_18 : decode prog_5_method_4_code 18 = .ok (.getfield 31, 3) := by decide +kernel
theorem nd_P_next_21 : decode prog_5_method_4_code 21 = .ok (.aload_n 0, 1) := by decide +kernel
theorem nd_P_next_22 : decode prog_5_method_4_code 22 = .ok (.getfield 15, 3) := by decide +kernel
theorem nd_P_next_25 : decode prog_5_method_4_code 25 = .ok (.caload, 1) := by decide +kernel
theorem nd_P_next_26 : decode prog_5_method_4_code 26 = .ok (.goto 4, 3) := by decide +kernel
theorem nd_P_next_29 : decode prog_5_method_4_code 29 = .ok (.iconst 0, 1) := by decide +kernel
theorem nd_P_next_30 : decode prog_5_method_4_code 30 = .ok (.ireturn, 1) := by decide +kernel
theorem nd_P_take_0 : decode prog_5_method_5_code 0 = .ok (.aload_n 0, 1) := by decide +kernel
theorem nd_P_take_1 : decode prog_5_method_5_code 1 = .ok (.invokevirtual 35, 3) := by decide +kernel
theorem nd_P_take_4 : decode prog_5_method_5_code 4 = .ok (.iload_n 1, 1) := by decide +kernel
theorem nd_P_take_5 : decode prog_5_method_5_code 5 = .ok (.if_icmp .eq 5, 3) := by decide +kernel
theorem nd_P_take_8 : decode prog_5_method_5_code 8 = .ok (.iconst 0, 1) := by decide +kernel
theorem nd_P_take_9 : decode prog_5_method_5_code 9 = .ok (.ireturn, 1) := by decide +kernel
theorem nd_P_take_10 : decode prog_5_method_5_code 10 = .ok (.aload_n 0, 1) := by decide +kernel
theorem nd_P_take_11 : decode prog_5_method_5_code 11 = .ok (.dup, 1) := by decide +kernel
theorem nd_P_take_12 : decode prog_5_method_5_code 12 = .ok (.getfield 15, 3) := by decide +kernel
theorem nd_P_take_15 : decode prog_5_method_5_code 15 = .ok (.iconst 1, 1) := by decide +kernel
theorem nd_P_take_16 : decode prog_5_method_5_code 16 = .ok (.iadd, 1) := by decide +kernel
theorem nd_P_take_17 : decode prog_5_method_5_code 17 = .ok (.putfield 15, 3) := by decide +kernel
theorem nd_P_take_20 : decode prog_5_method_5_code 20 = .ok (.iconst 1, 1) := by decide +kernel
theorem nd_P_take_21 : decode prog_5_method_5_code 21 = .ok (.ireturn, 1) := by decide +kernel
theorem nd_P_takeFormula_0 : decode prog_5_method_6_code 0 = .ok (.aload_n 0, 1) := by decide +kernel
theorem nd_P_takeFormula_1 : decode prog_5_method_6_code 1 = .ok (.iload_n 1, 1) := by decide +kernel
theorem nd_P_takeFormula_2 : decode prog_5_method_6_code 2 = .ok (.invokevirtual 39, 3) := by decide +kernel
theorem nd_P_takeFormula_5 : decode prog_5_method_6_code 5 = .ok (.ifCond .ne 5, 3) := by decide +kernel
theorem nd_P_takeFormula_8 : decode prog_5_method_6_code 8 = .ok (.iconst 0, 1) := by decide +kernel
theorem nd_P_takeFormula_9 : decode prog_5_method_6_code 9 = .ok (.ireturn, 1) := by decide +kernel
theorem nd_P_takeFormula_10 : decode prog_5_method_6_code 10 = .ok (.aload_n 0, 1) := by decide +kernel
theorem nd_P_takeFormula_11 : decode prog_5_method_6_code 11 = .ok (.invokevirtual 35, 3) := by decide +kernel
theorem nd_P_takeFormula_14 : decode prog_5_method_6_code 14 = .ok (.istore_n 2, 1) := by decide +kernel
theorem nd_P_takeFormula_15 : decode prog_5_method_6_code 15 = .ok (.iload_n 2, 1) := by decide +kernel
theorem nd_P_takeFormula_16 : decode prog_5_method_6_code 16 = .ok (.bipush 60, 2) := by decide +kernel
theorem nd_P_takeFormula_18 : decode prog_5_method_6_code 18 = .ok (.if_icmp .eq 9, 3) := by decide +kernel
theorem nd_P_takeFormula_21 : decode prog_5_method_6_code 21 = .ok (.iload_n 2, 1) := by decide +kernel
theorem nd_P_takeFormula_22 : decode prog_5_method_6_code 22 = .ok (.bipush 61, 2) := by decide +kernel
theorem nd_P_takeFormula_24 : decode prog_5_method_6_code 24 = .ok (.if_icmp .ne 45, 3) := by decide +kernel
theorem nd_P_takeFormula_27 : decode prog_5_method_6_code 27 = .ok (.aload_n 0, 1) := by decide +kernel
theorem nd_P_takeFormula_28 : decode prog_5_method_6_code 28 = .ok (.dup, 1) := by decide +kernel
theorem nd_P_takeFormula_29 : decode prog_5_method_6_code 29 = .ok (.getfield 15, 3) := by decide +kernel
theorem nd_P_takeFormula_32 : decode prog_5_method_6_code 32 = .ok (.iconst 1, 1) := by decide +kernel
theorem nd_P_takeFormula_33 : decode prog_5_method_6_code 33 = .ok (.iadd, 1) := by decide +kernel
theorem nd_P_takeFormula_34 : decode prog_5_method_6_code 34 = .ok (.putfield 15, 3) := by decide +kernel
theorem nd_P_takeFormula_37 : decode prog_5_method_6_code 37 = .ok (.aload_n 0, 1) := by decide +kernel
theorem nd_P_takeFormula_38 : decode prog_5_method_6_code 38 = .ok (.iload_n 1, 1) := by decide +kernel
theorem nd_P_takeFormula_39 : decode prog_5_method_6_code 39 = .ok (.invokevirtual 39, 3) := by decide +kernel
theorem nd_P_takeFormula_42 : decode prog_5_method_6_code 42 = .ok (.ifCond .ne 5, 3) := by decide +kernel
theorem nd_P_takeFormula_45 : decode prog_5_method_6_code 45 = .ok (.iconst 0, 1) := by decide +kernel
theorem nd_P_takeFormula_46 : decode prog_5_method_6_code 46 = .ok (.ireturn, 1) := by decide +kernel
theorem nd_P_takeFormula_47 : decode prog_5_method_6_code 47 = .ok (.aload_n 0, 1) := by decide +kernel
theorem nd_P_takeFormula_48 : decode prog_5_method_6_code 48 = .ok (.getfield 9, 3) := by decide +kernel
theorem nd_P_takeFormula_51 : decode prog_5_method_6_code 51 = .ok (.iload_n 2, 1) := by decide +kernel
theorem nd_P_takeFormula_52 : decode prog_5_method_6_code 52 = .ok (.bipush 60, 2) := by decide +kernel
theorem nd_P_takeFormula_54 : decode prog_5_method_6_code 54 = .ok (.if_icmp .ne 8, 3) := by decide +kernel
theorem nd_P_takeFormula_57 : decode prog_5_method_6_code 57 = .ok (.bipush 9, 2) := by decide +kernel
theorem nd_P_takeFormula_59 : decode prog_5_method_6_code 59 = .ok (.goto 5, 3) := by decide +kernel
theorem nd_P_takeFormula_62 : decode prog_5_method_6_code 62 = .ok (.bipush 10, 2) := by decide +kernel
theorem nd_P_takeFormula_64 : decode prog_5_method_6_code 64 = .ok (.iconst 0, 1) := by decide +kernel
theorem nd_P_takeFormula_65 : decode prog_5_method_6_code 65 = .ok (.invokevirtual 42, 3) := by decide +kernel
theorem nd_P_takeFormula_68 : decode prog_5_method_6_code 68 = .ok (.pop, 1) := by decide +kernel
theorem nd_P_takeFormula_69 : decode prog_5_method_6_code 69 = .ok (.aload_n 0, 1) := by decide +kernel
theorem nd_P_takeFormula_70 : decode prog_5_method_6_code 70 = .ok (.bipush 63, 2) := by decide +kernel
theorem nd_P_takeFormula_72 : decode prog_5_method_6_code 72 = .ok (.invokevirtual 46, 3) := by decide +kernel
theorem nd_P_takeFormula_75 : decode prog_5_method_6_code 75 = .ok (.ifCond .eq 11, 3) := by decide +kernel
theorem nd_P_takeFormula_78 : decode prog_5_method_6_code 78 = .ok (.aload_n 0, 1) := by decide +kernel
theorem nd_P_takeFormula_79 : decode prog_5_method_6_code 79 = .ok (.iload_n 1, 1) := by decide +kernel
theorem nd_P_takeFormula_80 : decode prog_5_method_6_code 80 = .ok (.invokevirtual 50, 3) := by decide +kernel
theorem nd_P_takeFormula_83 : decode prog_5_method_6_code 83 = .ok (.ifCond .eq 7, 3) := by decide +kernel
theorem nd_P_takeFormula_86 : decode prog_5_method_6_code 86 = .ok (.iconst 1, 1) := by decide +kernel
theorem nd_P_takeFormula_87 : decode prog_5_method_6_code 87 = .ok (.goto 4, 3) := by decide +kernel
theorem nd_P_takeFormula_90 : decode prog_5_method_6_code 90 = .ok (.iconst 0, 1) := by decide +kernel
theorem nd_P_takeFormula_91 : decode prog_5_method_6_code 91 = .ok (.ireturn, 1) := by decide +kernel
theorem nd_P_takeBranches_0 : decode prog_5_method_7_code 0 = .ok (.aload_n 0, 1) := by decide +kernel
theorem nd_P_takeBranches_1 : decode prog_5_method_7_code 1 = .ok (.getfield 9, 3) := by decide +kernel
theorem nd_P_takeBranches_4 : decode prog_5_method_7_code 4 = .ok (.iconst 4, 1) := by decide +kernel
theorem nd_P_takeBranches_5 : decode prog_5_method_7_code 5 = .ok (.iconst 0, 1) := by decide +kernel
theorem nd_P_takeBranches_6 : decode prog_5_method_7_code 6 = .ok (.invokevirtual 42, 3) := by decide +kernel
theorem nd_P_takeBranches_9 : decode prog_5_method_7_code 9 = .ok (.istore_n 2, 1) := by decide +kernel
theorem nd_P_takeBranches_10 : decode prog_5_method_7_code 10 = .ok (.aload_n 0, 1) := by decide +kernel
theorem nd_P_takeBranches_11 : decode prog_5_method_7_code 11 = .ok (.iload_n 1, 1) := by decide +kernel
theorem nd_P_takeBranches_12 : decode prog_5_method_7_code 12 = .ok (.invokevirtual 24, 3) := by decide +kernel
theorem nd_P_takeBranches_15 : decode prog_5_method_7_code 15 = .ok (.ifCond .eq 12, 3) := by decide +kernel
theorem nd_P_takeBranches_18 : decode prog_5_method_7_code 18 = .ok (.aload_n 0, 1) := by decide +kernel
theorem nd_P_takeBranches_19 : decode prog_5_method_7_code 19 = .ok (.bipush 58, 2) := by decide +kernel
theorem nd_P_takeBranches_21 : decode prog_5_method_7_code 21 = .ok (.invokevirtual 46, 3) := by decide +kernel
theorem nd_P_takeBranches_24 : decode prog_5_method_7_code 24 = .ok (.ifCond .ne 5, 3) := by decide +kernel
theorem nd_P_takeBranches_27 : decode prog_5_method_7_code 27 = .ok (.iconst 0, 1) := by decide +kernel
theorem nd_P_takeBranches_28 : decode prog_5_method_7_code 28 = .ok (.ireturn, 1) := by decide +kernel
theorem nd_P_takeBranches_29 : decode prog_5_method_7_code 29 = .ok (.aload_n 0, 1) := by decide +kernel
theorem nd_P_takeBranches_30 : decode prog_5_method_7_code 30 = .ok (.getfield 9, 3) := by decide +kernel
theorem nd_P_takeBranches_33 : decode prog_5_method_7_code 33 = .ok (.iconst 5, 1) := by decide +kernel
theorem nd_P_takeBranches_34 : decode prog_5_method_7_code 34 = .ok (.iconst 0, 1) := by decide +kernel
theorem nd_P_takeBranches_35 : decode prog_5_method_7_code 35 = .ok (.invokevirtual 42, 3) := by decide +kernel
theorem nd_P_takeBranches_38 : decode prog_5_method_7_code 38 = .ok (.istore_n 3, 1) := by decide +kernel
theorem nd_P_takeBranches_39 : decode prog_5_method_7_code 39 = .ok (.aload_n 0, 1) := by decide +kernel
theorem nd_P_takeBranches_40 : decode prog_5_method_7_code 40 = .ok (.getfield 9, 3) := by decide +kernel
theorem nd_P_takeBranches_43 : decode prog_5_method_7_code 43 = .ok (.iload_n 2, 1) := by decide +kernel
theorem nd_P_takeBranches_44 : decode prog_5_method_7_code 44 = .ok (.invokevirtual 53, 3) := by decide +kernel
theorem nd_P_takeBranches_47 : decode prog_5_method_7_code 47 = .ok (.aload_n 0, 1) := by decide +kernel
theorem nd_P_takeBranches_48 : decode prog_5_method_7_code 48 = .ok (.iload_n 1, 1) := by decide +kernel
theorem nd_P_takeBranches_49 : decode prog_5_method_7_code 49 = .ok (.invokevirtual 24, 3) := by decide +kernel
theorem nd_P_takeBranches_52 : decode prog_5_method_7_code 52 = .ok (.ifCond .ne 5, 3) := by decide +kernel
theorem nd_P_takeBranches_55 : decode prog_5_method_7_code 55 = .ok (.iconst 0, 1) := by decide +kernel
theorem nd_P_takeBranches_56 : decode prog_5_method_7_code 56 = .ok (.ireturn, 1) := by decide +kernel
theorem nd_P_takeBranches_57 : decode prog_5_method_7_code 57 = .ok (.aload_n 0, 1) := by decide +kernel
theorem nd_P_takeBranches_58 : decode prog_5_method_7_code 58 = .ok (.getfield 9, 3) := by decide +kernel
theorem nd_P_takeBranches_61 : decode prog_5_method_7_code 61 = .ok (.iload_n 3, 1) := by decide +kernel
theorem nd_P_takeBranches_62 : decode prog_5_method_7_code 62 = .ok (.invokevirtual 53, 3) := by decide +kernel
theorem nd_P_takeBranches_65 : decode prog_5_method_7_code 65 = .ok (.iconst 1, 1) := by decide +kernel
theorem nd_P_takeBranches_66 : decode prog_5_method_7_code 66 = .ok (.ireturn, 1) := by decide +kernel
theorem nd_P_takeSum_0 : decode prog_5_method_8_code 0 = .ok (.aload_n 0, 1) := by decide +kernel
theorem nd_P_takeSum_1 : decode prog_5_method_8_code 1 = .ok (.iload_n 1, 1) := by decide +kernel
theorem nd_P_takeSum_2 : decode prog_5_method_8_code 2 = .ok (.invokevirtual 57, 3) := by decide +kernel
theorem nd_P_takeSum_5 : decode prog_5_method_8_code 5 = .ok (.ifCond .ne 5, 3) := by decide +kernel
theorem nd_P_takeSum_8 : decode prog_5_method_8_code 8 = .ok (.iconst 0, 1) := by decide +kernel
theorem nd_P_takeSum_9 : decode prog_5_method_8_code 9 = .ok (.ireturn, 1) := by decide +kernel
theorem nd_P_takeSum_10 : decode prog_5_method_8_code 10 = .ok (.iconst 0, 1) := by decide +kernel
theorem nd_P_takeSum_11 : decode prog_5_method_8_code 11 = .ok (.istore_n 2, 1) := by decide +kernel
theorem nd_P_takeSum_12 : decode prog_5_method_8_code 12 = .ok (.iload_n 2, 1) := by decide +kernel
theorem nd_P_takeSum_13 : decode prog_5_method_8_code 13 = .ok (.bipush 30, 2) := by decide +kernel
theorem nd_P_takeSum_15 : decode prog_5_method_8_code 15 = .ok (.if_icmp .ge 70, 3) := by decide +kernel
theorem nd_P_takeSum_18 : decode prog_5_method_8_code 18 = .ok (.aload_n 0, 1) := by decide +kernel
theorem nd_P_takeSum_19 : decode prog_5_method_8_code 19 = .ok (.invokevirtual 35, 3) := by decide +kernel
theorem nd_P_takeSum_22 : decode prog_5_method_8_code 22 = .ok (.istore_n 3, 1) := by decide +kernel
theorem nd_P_takeSum_23 : decode prog_5_method_8_code 23 = .ok (.iload_n 3, 1) := by decide +kernel
theorem nd_P_takeSum_24 : decode prog_5_method_8_code 24 = .ok (.bipush 43, 2) := by decide +kernel
theorem nd_P_takeSum_26 : decode prog_5_method_8_code 26 = .ok (.if_icmp .eq 11, 3) := by decide +kernel
theorem nd_P_takeSum_29 : decode prog_5_method_8_code 29 = .ok (.iload_n 3, 1) := by decide +kernel
theorem nd_P_takeSum_30 : decode prog_5_method_8_code 30 = .ok (.bipush 45, 2) := by decide +kernel
theorem nd_P_takeSum_32 : decode prog_5_method_8_code 32 = .ok (.if_icmp .eq 5, 3) := by decide +kernel
theorem nd_P_takeSum_35 : decode prog_5_method_8_code 35 = .ok (.iconst 1, 1) := by decide +kernel
theorem nd_P_takeSum_36 : decode prog_5_method_8_code 36 = .ok (.ireturn, 1) := by decide +kernel
theorem nd_P_takeSum_37 : decode prog_5_method_8_code 37 = .ok (.aload_n 0, 1) := by decide +kernel
theorem nd_P_takeSum_38 : decode prog_5_method_8_code 38 = .ok (.dup, 1) := by decide +kernel
theorem nd_P_takeSum_39 : decode prog_5_method_8_code 39 = .ok (.getfield 15, 3) := by decide +kernel
theorem nd_P_takeSum_42 : decode prog_5_method_8_code 42 = .ok (.iconst 1, 1) := by decide +kernel
theorem nd_P_takeSum_43 : decode prog_5_method_8_code 43 = .ok (.iadd, 1) := by decide +kernel
theorem nd_P_takeSum_44 : decode prog_5_method_8_code 44 = .ok (.putfield 15, 3) := by decide +kernel
theorem nd_P_takeSum_47 : decode prog_5_method_8_code 47 = .ok (.aload_n 0, 1) := by decide +kernel
theorem nd_P_takeSum_48 : decode prog_5_method_8_code 48 = .ok (.iload_n 1, 1) := by decide +kernel
theorem nd_P_takeSum_49 : decode prog_5_method_8_code 49 = .ok (.invokevirtual 57, 3) := by decide +kernel
theorem nd_P_takeSum_52 : decode prog_5_method_8_code 52 = .ok (.ifCond .ne 5, 3) := by decide +kernel
theorem nd_P_takeSum_55 : decode prog_5_method_8_code 55 = .ok (.iconst 0, 1) := by decide +kernel
theorem nd_P_takeSum_56 : decode prog_5_method_8_code 56 = .ok (.ireturn, 1) := by decide +kernel
theorem nd_P_takeSum_57 : decode prog_5_method_8_code 57 = .ok (.aload_n 0, 1) := by decide +kernel
theorem nd_P_takeSum_58 : decode prog_5_method_8_code 58 = .ok (.getfield 9, 3) := by decide +kernel
theorem nd_P_takeSum_61 : decode prog_5_method_8_code 61 = .ok (.iload_n 3, 1) := by decide +kernel
theorem nd_P_takeSum_62 : decode prog_5_method_8_code 62 = .ok (.bipush 43, 2) := by decide +kernel
theorem nd_P_takeSum_64 : decode prog_5_method_8_code 64 = .ok (.if_icmp .ne 8, 3) := by decide +kernel
theorem nd_P_takeSum_67 : decode prog_5_method_8_code 67 = .ok (.bipush 6, 2) := by decide +kernel
theorem nd_P_takeSum_69 : decode prog_5_method_8_code 69 = .ok (.goto 5, 3) := by decide +kernel
theorem nd_P_takeSum_72 : decode prog_5_method_8_code 72 = .ok (.bipush 7, 2) := by decide +kernel
theorem nd_P_takeSum_74 : decode prog_5_method_8_code 74 = .ok (.iconst 0, 1) := by decide +kernel
theorem nd_P_takeSum_75 : decode prog_5_method_8_code 75 = .ok (.invokevirtual 42, 3) := by decide +kernel
theorem nd_P_takeSum_78 : decode prog_5_method_8_code 78 = .ok (.pop, 1) := by decide +kernel
theorem nd_P_takeSum_79 : decode prog_5_method_8_code 79 = .ok (.iinc 2 1, 3) := by decide +kernel
theorem nd_P_takeSum_82 : decode prog_5_method_8_code 82 = .ok (.goto (-70), 3) := by decide +kernel
theorem nd_P_takeSum_85 : decode prog_5_method_8_code 85 = .ok (.iconst 1, 1) := by decide +kernel
theorem nd_P_takeSum_86 : decode prog_5_method_8_code 86 = .ok (.ireturn, 1) := by decide +kernel
theorem nd_P_takeProduct_0 : decode prog_5_method_9_code 0 = .ok (.aload_n 0, 1) := by decide +kernel
theorem nd_P_takeProduct_1 : decode prog_5_method_9_code 1 = .ok (.iload_n 1, 1) := by decide +kernel
theorem nd_P_takeProduct_2 : decode prog_5_method_9_code 2 = .ok (.invokevirtual 60, 3) := by decide +kernel
theorem nd_P_takeProduct_5 : decode prog_5_method_9_code 5 = .ok (.ifCond .ne 5, 3) := by decide +kernel
theorem nd_P_takeProduct_8 : decode prog_5_method_9_code 8 = .ok (.iconst 0, 1) := by decide +kernel
theorem nd_P_takeProduct_9 : decode prog_5_method_9_code 9 = .ok (.ireturn, 1) := by decide +kernel
theorem nd_P_takeProduct_10 : decode prog_5_method_9_code 10 = .ok (.iconst 0, 1) := by decide +kernel
theorem nd_P_takeProduct_11 : decode prog_5_method_9_code 11 = .ok (.istore_n 2, 1) := by decide +kernel
theorem nd_P_takeProduct_12 : decode prog_5_method_9_code 12 = .ok (.iload_n 2, 1) := by decide +kernel
theorem nd_P_takeProduct_13 : decode prog_5_method_9_code 13 = .ok (.bipush 30, 2) := by decide +kernel
theorem nd_P_takeProduct_15 : decode prog_5_method_9_code 15 = .ok (.if_icmp .ge 39, 3) := by decide +kernel
theorem nd_P_takeProduct_18 : decode prog_5_method_9_code 18 = .ok (.aload_n 0, 1) := by decide +kernel
theorem nd_P_takeProduct_19 : decode prog_5_method_9_code 19 = .ok (.bipush 42, 2) := by decide +kernel
theorem nd_P_takeProduct_21 : decode prog_5_method_9_code 21 = .ok (.invokevirtual 46, 3) := by decide +kernel
theorem nd_P_takeProduct_24 : decode prog_5_method_9_code 24 = .ok (.ifCond .eq 30, 3) := by decide +kernel
theorem nd_P_takeProduct_27 : decode prog_5_method_9_code 27 = .ok (.aload_n 0, 1) := by decide +kernel
theorem nd_P_takeProduct_28 : decode prog_5_method_9_code 28 = .ok (.iload_n 1, 1) := by decide +kernel
theorem nd_P_takeProduct_29 : decode prog_5_method_9_code 29 = .ok (.invokevirtual 60, 3) := by decide +kernel
theorem nd_P_takeProduct_32 : decode prog_5_method_9_code 32 = .ok (.ifCond .ne 5, 3) := by decide +kernel
theorem nd_P_takeProduct_35 : decode prog_5_method_9_code 35 = .ok (.iconst 0, 1) := by decide +kernel
theorem nd_P_takeProduct_36 : decode prog_5_method_9_code 36 = .ok (.ireturn, 1) := by decide +kernel
theorem nd_P_takeProduct_37 : decode prog_5_method_9_code 37 = .ok (.aload_n 0, 1) := by decide +kernel
theorem nd_P_takeProduct_38 : decode prog_5_method_9_code 38 = .ok (.getfield 9, 3) := by decide +kernel
theorem nd_P_takeProduct_41 : decode prog_5_method_9_code 41 = .ok (.bipush 8, 2) := by decide +kernel
theorem nd_P_takeProduct_43 : decode prog_5_method_9_code 43 = .ok (.iconst 0, 1) := by decide +kernel
theorem nd_P_takeProduct_44 : decode prog_5_method_9_code 44 = .ok (.invokevirtual 42, 3) := by decide +kernel
theorem nd_P_takeProduct_47 : decode prog_5_method_9_code 47 = .ok (.pop, 1) := by decide +kernel
theorem nd_P_takeProduct_48 : decode prog_5_method_9_code 48 = .ok (.iinc 2 1, 3) := by decide +kernel
theorem nd_P_takeProduct_51 : decode prog_5_method_9_code 51 = .ok (.goto (-39), 3) := by decide +kernel
theorem nd_P_takeProduct_54 : decode prog_5_method_9_code 54 = .ok (.iconst 1, 1) := by decide +kernel
theorem nd_P_takeProduct_55 : decode prog_5_method_9_code 55 = .ok (.ireturn, 1) := by decide +kernel
theorem nd_P_takeUnit_0 : decode prog_5_method_10_code 0 = .ok (.aload_n 0, 1) := by decide +kernel
theorem nd_P_takeUnit_1 : decode prog_5_method_10_code 1 = .ok (.invokevirtual 35, 3) := by decide +kernel
theorem nd_P_takeUnit_4 : decode prog_5_method_10_code 4 = .ok (.istore_n 2, 1) := by decide +kernel
theorem nd_P_takeUnit_5 : decode prog_5_method_10_code 5 = .ok (.iload_n 2, 1) := by decide +kernel
theorem nd_P_takeUnit_6 : decode prog_5_method_10_code 6 = .ok (.invokestatic 63, 3) := by decide +kernel
theorem nd_P_takeUnit_9 : decode prog_5_method_10_code 9 = .ok (.ifCond .eq 28, 3) := by decide +kernel
theorem nd_P_takeUnit_12 : decode prog_5_method_10_code 12 = .ok (.aload_n 0, 1) := by decide +kernel
theorem nd_P_takeUnit_13 : decode prog_5_method_10_code 13 = .ok (.dup, 1) := by decide +kernel
theorem nd_P_takeUnit_14 : decode prog_5_method_10_code 14 = .ok (.getfield 15, 3) := by decide +kernel
theorem nd_P_takeUnit_17 : decode prog_5_method_10_code 17 = .ok (.iconst 1, 1) := by decide +kernel
theorem nd_P_takeUnit_18 : decode prog_5_method_10_code 18 = .ok (.iadd, 1) := by decide +kernel
theorem nd_P_takeUnit_19 : decode prog_5_method_10_code 19 = .ok (.putfield 15, 3) := by decide +kernel
theorem nd_P_takeUnit_22 : decode prog_5_method_10_code 22 = .ok (.aload_n 0, 1) := by decide +kernel
theorem nd_P_takeUnit_23 : decode prog_5_method_10_code 23 = .ok (.getfield 9, 3) := by decide +kernel
theorem nd_P_takeUnit_26 : decode prog_5_method_10_code 26 = .ok (.iconst 1, 1) := by decide +kernel
theorem nd_P_takeUnit_27 : decode prog_5_method_10_code 27 = .ok (.iload_n 2, 1) := by decide +kernel
theorem nd_P_takeUnit_28 : decode prog_5_method_10_code 28 = .ok (.bipush 65, 2) := by decide +kernel
theorem nd_P_takeUnit_30 : decode prog_5_method_10_code 30 = .ok (.isub, 1) := by decide +kernel
theorem nd_P_takeUnit_31 : decode prog_5_method_10_code 31 = .ok (.invokevirtual 42, 3) := by decide +kernel
theorem nd_P_takeUnit_34 : decode prog_5_method_10_code 34 = .ok (.pop, 1) := by decide +kernel
theorem nd_P_takeUnit_35 : decode prog_5_method_10_code 35 = .ok (.iconst 1, 1) := by decide +kernel
theorem nd_P_takeUnit_36 : decode prog_5_method_10_code 36 = .ok (.ireturn, 1) := by decide +kernel
theorem nd_P_takeUnit_37 : decode prog_5_method_10_code 37 = .ok (.iload_n 2, 1) := by decide +kernel
theorem nd_P_takeUnit_38 : decode prog_5_method_10_code 38 = .ok (.invokestatic 66, 3) := by decide +kernel
theorem nd_P_takeUnit_41 : decode prog_5_method_10_code 41 = .ok (.ifCond .eq 9, 3) := by decide +kernel
theorem nd_P_takeUnit_44 : decode prog_5_method_10_code 44 = .ok (.aload_n 0, 1) := by decide +kernel
theorem nd_P_takeUnit_45 : decode prog_5_method_10_code 45 = .ok (.invokevirtual 69, 3) := by decide +kernel
theorem nd_P_takeUnit_48 : decode prog_5_method_10_code 48 = .ok (.iconst 1, 1) := by decide +kernel
theorem nd_P_takeUnit_49 : decode prog_5_method_10_code 49 = .ok (.ireturn, 1) := by decide +kernel
theorem nd_P_takeUnit_50 : decode prog_5_method_10_code 50 = .ok (.iload_n 1, 1) := by decide +kernel
theorem nd_P_takeUnit_51 : decode prog_5_method_10_code 51 = .ok (.iconst 5, 1) := by decide +kernel
theorem nd_P_takeUnit_52 : decode prog_5_method_10_code 52 = .ok (.if_icmp .lt 5, 3) := by decide +kernel
theorem nd_P_takeUnit_55 : decode prog_5_method_10_code 55 = .ok (.iconst 0, 1) := by decide +kernel
theorem nd_P_takeUnit_56 : decode prog_5_method_10_code 56 = .ok (.ireturn, 1) := by decide +kernel
theorem nd_P_takeUnit_57 : decode prog_5_method_10_code 57 = .ok (.aload_n 0, 1) := by decide +kernel
theorem nd_P_takeUnit_58 : decode prog_5_method_10_code 58 = .ok (.bipush 40, 2) := by decide +kernel
theorem nd_P_takeUnit_60 : decode prog_5_method_10_code 60 = .ok (.invokevirtual 46, 3) := by decide +kernel
theorem nd_P_takeUnit_63 : decode prog_5_method_10_code 63 = .ok (.ifCond .eq 28, 3) := by decide +kernel
theorem nd_P_takeUnit_66 : decode prog_5_method_10_code 66 = .ok (.aload_n 0, 1) := by decide +kernel
theorem nd_P_takeUnit_67 : decode prog_5_method_10_code 67 = .ok (.iload_n 1, 1) := by decide +kernel
theorem nd_P_takeUnit_68 : decode prog_5_method_10_code 68 = .ok (.iconst 1, 1) := by decide +kernel
theorem nd_P_takeUnit_69 : decode prog_5_method_10_code 69 = .ok (.iadd, 1) := by decide +kernel
theorem nd_P_takeUnit_70 : decode prog_5_method_10_code 70 = .ok (.invokevirtual 24, 3) := by decide +kernel
theorem nd_P_takeUnit_73 : decode prog_5_method_10_code 73 = .ok (.ifCond .eq 16, 3) := by decide +kernel
theorem nd_P_takeUnit_76 : decode prog_5_method_10_code 76 = .ok (.aload_n 0, 1) := by decide +kernel
theorem nd_P_takeUnit_77 : decode prog_5_method_10_code 77 = .ok (.bipush 41, 2) := by decide +kernel
theorem nd_P_takeUnit_79 : decode prog_5_method_10_code 79 = .ok (.invokevirtual 46, 3) := by decide +kernel
theorem nd_P_takeUnit_82 : decode prog_5_method_10_code 82 = .ok (.ifCond .eq 7, 3) := by decide +kernel
theorem nd_P_takeUnit_85 : decode prog_5_method_10_code 85 = .ok (.iconst 1, 1) := by decide +kernel
theorem nd_P_takeUnit_86 : decode prog_5_method_10_code 86 = .ok (.goto 4, 3) := by decide +kernel
theorem nd_P_takeUnit_89 : decode prog_5_method_10_code 89 = .ok (.iconst 0, 1) := by decide +kernel
theorem nd_P_takeUnit_90 : decode prog_5_method_10_code 90 = .ok (.ireturn, 1) := by decide +kernel
theorem nd_P_takeUnit_91 : decode prog_5_method_10_code 91 = .ok (.aload_n 0, 1) := by decide +kernel
theorem nd_P_takeUnit_92 : decode prog_5_method_10_code 92 = .ok (.bipush 45, 2) := by decide +kernel
theorem nd_P_takeUnit_94 : decode prog_5_method_10_code 94 = .ok (.invokevirtual 46, 3) := by decide +kernel
theorem nd_P_takeUnit_97 : decode prog_5_method_10_code 97 = .ok (.ifCond .ne 14, 3) := by decide +kernel
theorem nd_P_takeUnit_100 : decode prog_5_method_10_code 100 = .ok (.aload_n 0, 1) := by decide +kernel
theorem nd_P_takeUnit_101 : decode prog_5_method_10_code 101 = .ok (.bipush 64, 2) := by decide +kernel
theorem nd_P_takeUnit_103 : decode prog_5_method_10_code 103 = .ok (.invokevirtual 46, 3) := by decide +kernel
theorem nd_P_takeUnit_106 : decode prog_5_method_10_code 106 = .ok (.ifCond .ne 5, 3) := by decide +kernel
theorem nd_P_takeUnit_109 : decode prog_5_method_10_code 109 = .ok (.iconst 0, 1) := by decide +kernel
theorem nd_P_takeUnit_110 : decode prog_5_method_10_code 110 = .ok (.ireturn, 1) := by decide +kernel
theorem nd_P_takeUnit_111 : decode prog_5_method_10_code 111 = .ok (.aload_n 0, 1) := by decide +kernel
theorem nd_P_takeUnit_112 : decode prog_5_method_10_code 112 = .ok (.iload_n 1, 1) := by decide +kernel
theorem nd_P_takeUnit_113 : decode prog_5_method_10_code 113 = .ok (.iconst 1, 1) := by decide +kernel
theorem nd_P_takeUnit_114 : decode prog_5_method_10_code 114 = .ok (.iadd, 1) := by decide +kernel
theorem nd_P_takeUnit_115 : decode prog_5_method_10_code 115 = .ok (.invokevirtual 60, 3) := by decide +kernel
theorem nd_P_takeUnit_118 : decode prog_5_method_10_code 118 = .ok (.ifCond .ne 5, 3) := by decide +kernel
theorem nd_P_takeUnit_121 : decode prog_5_method_10_code 121 = .ok (.iconst 0, 1) := by decide +kernel
theorem nd_P_takeUnit_122 : decode prog_5_method_10_code 122 = .ok (.ireturn, 1) := by decide +kernel
theorem nd_P_takeUnit_123 : decode prog_5_method_10_code 123 = .ok (.aload_n 0, 1) := by decide +kernel
theorem nd_P_takeUnit_124 : decode prog_5_method_10_code 124 = .ok (.getfield 9, 3) := by decide +kernel
theorem nd_P_takeUnit_127 : decode prog_5_method_10_code 127 = .ok (.iload_n 2, 1) := by decide +kernel
theorem nd_P_takeUnit_128 : decode prog_5_method_10_code 128 = .ok (.bipush 45, 2) := by decide +kernel
theorem nd_P_takeUnit_130 : decode prog_5_method_10_code 130 = .ok (.if_icmp .ne 7, 3) := by decide +kernel
theorem nd_P_takeUnit_133 : decode prog_5_method_10_code 133 = .ok (.iconst 3, 1) := by decide +kernel
theorem nd_P_takeUnit_134 : decode prog_5_method_10_code 134 = .ok (.goto 4, 3) := by decide +kernel
theorem nd_P_takeUnit_137 : decode prog_5_method_10_code 137 = .ok (.iconst 2, 1) := by decide +kernel
theorem nd_P_takeUnit_138 : decode prog_5_method_10_code 138 = .ok (.iconst 0, 1) := by decide +kernel
theorem nd_P_takeUnit_139 : decode prog_5_method_10_code 139 = .ok (.invokevirtual 42, 3) := by decide +kernel
theorem nd_P_takeUnit_142 : decode prog_5_method_10_code 142 = .ok (.pop, 1) := by decide +kernel
theorem nd_P_takeUnit_143 : decode prog_5_method_10_code 143 = .ok (.iconst 1, 1) := by decide +kernel
theorem nd_P_takeUnit_144 : decode prog_5_method_10_code 144 = .ok (.ireturn, 1) := by decide +kernel
theorem nd_P_takeNumber_0 : decode prog_5_method_11_code 0 = .ok (.iconst 0, 1) := by decide +kernel
theorem nd_P_takeNumber_1 : decode prog_5_method_11_code 1 = .ok (.istore_n 1, 1) := by decide +kernel
theorem nd_P_takeNumber_2 : decode prog_5_method_11_code 2 = .ok (.iconst 0, 1) := by decide +kernel
theorem nd_P_takeNumber_3 : decode prog_5_method_11_code 3 = .ok (.istore_n 2, 1) := by decide +kernel
theorem nd_P_takeNumber_4 : decode prog_5_method_11_code 4 = .ok (.iload_n 2, 1) := by decide +kernel
theorem nd_P_takeNumber_5 : decode prog_5_method_11_code 5 = .ok (.iconst 4, 1) := by decide +kernel
theorem nd_P_takeNumber_6 : decode prog_5_method_11_code 6 = .ok (.if_icmp .ge 42, 3) := by decide +kernel
theorem nd_P_takeNumber_9 : decode prog_5_method_11_code 9 = .ok (.aload_n 0, 1) := by decide +kernel
theorem nd_P_takeNumber_10 : decode prog_5_method_11_code 10 = .ok (.invokevirtual 35, 3) := by decide +kernel
theorem nd_P_takeNumber_13 : decode prog_5_method_11_code 13 = .ok (.invokestatic 66, 3) := by decide +kernel
theorem nd_P_takeNumber_16 : decode prog_5_method_11_code 16 = .ok (.ifCond .eq 32, 3) := by decide +kernel
theorem nd_P_takeNumber_19 : decode prog_5_method_11_code 19 = .ok (.iload_n 1, 1) := by decide +kernel
theorem nd_P_takeNumber_20 : decode prog_5_method_11_code 20 = .ok (.bipush 10, 2) := by decide +kernel
theorem nd_P_takeNumber_22 : decode prog_5_method_11_code 22 = .ok (.imul, 1) := by decide +kernel
theorem nd_P_takeNumber_23 : decode prog_5_method_11_code 23 = .ok (.aload_n 0, 1) := by decide +kernel
theorem nd_P_takeNumber_24 : decode prog_5_method_11_code 24 = .ok (.invokevirtual 35, 3) := by decide +kernel
theorem nd_P_takeNumber_27 : decode prog_5_method_11_code 27 = .ok (.bipush 48, 2) := by decide +kernel
theorem nd_P_takeNumber_29 : decode prog_5_method_11_code 29 = .ok (.isub, 1) := by decide +kernel
theorem nd_P_takeNumber_30 : decode prog_5_method_11_code 30 = .ok (.iadd, 1) := by decide +kernel
theorem nd_P_takeNumber_31 : decode prog_5_method_11_code 31 = .ok (.istore_n 1, 1) := by decide +kernel
theorem nd_P_takeNumber_32 : decode prog_5_method_11_code 32 = .ok (.aload_n 0, 1) := by decide +kernel
theorem nd_P_takeNumber_33 : decode prog_5_method_11_code 33 = .ok (.dup, 1) := by decide +kernel
theorem nd_P_takeNumber_34 : decode prog_5_method_11_code 34 = .ok (.getfield 15, 3) := by decide +kernel
theorem nd_P_takeNumber_37 : decode prog_5_method_11_code 37 = .ok (.iconst 1, 1) := by decide +kernel
theorem nd_P_takeNumber_38 : decode prog_5_method_11_code 38 = .ok (.iadd, 1) := by decide +kernel
theorem nd_P_takeNumber_39 : decode prog_5_method_11_code 39 = .ok (.putfield 15, 3) := by decide +kernel
theorem nd_P_takeNumber_42 : decode prog_5_method_11_code 42 = .ok (.iinc 2 1, 3) := by decide +kernel
theorem nd_P_takeNumber_45 : decode prog_5_method_11_code 45 = .ok (.goto (-41), 3) := by decide +kernel
theorem nd_P_takeNumber_48 : decode prog_5_method_11_code 48 = .ok (.aload_n 0, 1) := by decide +kernel
theorem nd_P_takeNumber_49 : decode prog_5_method_11_code 49 = .ok (.getfield 9, 3) := by decide +kernel
theorem nd_P_takeNumber_52 : decode prog_5_method_11_code 52 = .ok (.iconst 0, 1) := by decide +kernel
theorem nd_P_takeNumber_53 : decode prog_5_method_11_code 53 = .ok (.iload_n 1, 1) := by decide +kernel
theorem nd_P_takeNumber_54 : decode prog_5_method_11_code 54 = .ok (.invokevirtual 42, 3) := by decide +kernel
theorem nd_P_takeNumber_57 : decode prog_5_method_11_code 57 = .ok (.pop, 1) := by decide +kernel
theorem nd_P_takeNumber_58 : decode prog_5_method_11_code 58 = .ok (.return_, 1) := by decide +kernel
