theorem nd_N_init_0 : decode prog_1_method_1_code 0 = .ok (.aload_n 0, 1) := by decide +kernel
theorem nd_N_init_1 : decode prog_1_method_1_code 1 = .ok (.invokespecial 1, 3) := by decide +kernel
theorem nd_N_init_4 : decode prog_1_method_1_code 4 = .ok (.aload_n 0, 1) := by decide +kernel
theorem nd_N_init_5 : decode prog_1_method_1_code 5 = .ok (.iconst 1, 1) := by decide +kernel
theorem nd_N_init_6 : decode prog_1_method_1_code 6 = .ok (.bipush 12, 2) := by decide +kernel
theorem nd_N_init_8 : decode prog_1_method_1_code 8 = .ok (.iload_n 1, 1) := by decide +kernel
theorem nd_N_init_9 : decode prog_1_method_1_code 9 = .ok (.invokestatic 9, 3) := by decide +kernel
theorem nd_N_init_12 : decode prog_1_method_1_code 12 = .ok (.invokestatic 15, 3) := by decide +kernel
theorem nd_N_init_15 : decode prog_1_method_1_code 15 = .ok (.putfield 18, 3) := by decide +kernel
theorem nd_N_init_18 : decode prog_1_method_1_code 18 = .ok (.aload_n 0, 1) := by decide +kernel
theorem nd_N_init_19 : decode prog_1_method_1_code 19 = .ok (.bipush 12, 2) := by decide +kernel
theorem nd_N_init_21 : decode prog_1_method_1_code 21 = .ok (.anewarray 22, 3) := by decide +kernel
theorem nd_N_init_24 : decode prog_1_method_1_code 24 = .ok (.putfield 24, 3) := by decide +kernel
theorem nd_N_init_27 : decode prog_1_method_1_code 27 = .ok (.iconst 0, 1) := by decide +kernel
theorem nd_N_init_28 : decode prog_1_method_1_code 28 = .ok (.istore_n 2, 1) := by decide +kernel
theorem nd_N_init_29 : decode prog_1_method_1_code 29 = .ok (.iload_n 2, 1) := by decide +kernel
theorem nd_N_init_30 : decode prog_1_method_1_code 30 = .ok (.bipush 12, 2) := by decide +kernel
theorem nd_N_init_32 : decode prog_1_method_1_code 32 = .ok (.if_icmp .ge 22, 3) := by decide +kernel
theorem nd_N_init_35 : decode prog_1_method_1_code 35 = .ok (.aload_n 0, 1) := by decide +kernel
theorem nd_N_init_36 : decode prog_1_method_1_code 36 = .ok (.getfield 24, 3) := by decide +kernel
theorem nd_N_init_39 : decode prog_1_method_1_code 39 = .ok (.iload_n 2, 1) := by decide +kernel
theorem nd_N_init_40 : decode prog_1_method_1_code 40 = .ok (.new 22, 3) := by decide +kernel
theorem nd_N_init_43 : decode prog_1_method_1_code 43 = .ok (.dup, 1) := by decide +kernel
theorem nd_N_init_44 : decode prog_1_method_1_code 44 = .ok (.invokespecial 28, 3) := by decide +kernel
theorem nd_N_init_47 : decode prog_1_method_1_code 47 = .ok (.aastore, 1) := by decide +kernel
theorem nd_N_init_48 : decode prog_1_method_1_code 48 = .ok (.iinc 2 1, 3) := by decide +kernel
theorem nd_N_init_51 : decode prog_1_method_1_code 51 = .ok (.goto (-22), 3) := by decide +kernel
theorem nd_N_init_54 : decode prog_1_method_1_code 54 = .ok (.aload_n 0, 1) := by decide +kernel
theorem nd_N_init_55 : decode prog_1_method_1_code 55 = .ok (.iconst 3, 1) := by decide +kernel
theorem nd_N_init_56 : decode prog_1_method_1_code 56 = .ok (.newarray .int, 2) := by decide +kernel
theorem nd_N_init_58 : decode prog_1_method_1_code 58 = .ok (.putfield 29, 3) := by decide +kernel
theorem nd_N_init_61 : decode prog_1_method_1_code 61 = .ok (.aload_n 0, 1) := by decide +kernel
theorem nd_N_init_62 : decode prog_1_method_1_code 62 = .ok (.iconst 3, 1) := by decide +kernel
theorem nd_N_init_63 : decode prog_1_method_1_code 63 = .ok (.newarray .int, 2) := by decide +kernel
theorem nd_N_init_65 : decode prog_1_method_1_code 65 = .ok (.putfield 33, 3) := by decide +kernel
theorem nd_N_init_68 : decode prog_1_method_1_code 68 = .ok (.aload_n 0, 1) := by decide +kernel
theorem nd_N_init_69 : decode prog_1_method_1_code 69 = .ok (.new 36, 3) := by decide +kernel
theorem nd_N_init_72 : decode prog_1_method_1_code 72 = .ok (.dup, 1) := by decide +kernel
theorem nd_N_init_73 : decode prog_1_method_1_code 73 = .ok (.invokespecial 38, 3) := by decide +kernel
theorem nd_N_init_76 : decode prog_1_method_1_code 76 = .ok (.putfield 39, 3) := by decide +kernel
theorem nd_N_init_79 : decode prog_1_method_1_code 79 = .ok (.aload_n 0, 1) := by decide +kernel
theorem nd_N_init_80 : decode prog_1_method_1_code 80 = .ok (.new 43, 3) := by decide +kernel
theorem nd_N_init_83 : decode prog_1_method_1_code 83 = .ok (.dup, 1) := by decide +kernel
theorem nd_N_init_84 : decode prog_1_method_1_code 84 = .ok (.aload_n 0, 1) := by decide +kernel
theorem nd_N_init_85 : decode prog_1_method_1_code 85 = .ok (.getfield 39, 3) := by decide +kernel
theorem nd_N_init_88 : decode prog_1_method_1_code 88 = .ok (.invokespecial 45, 3) := by decide +kernel
theorem nd_N_init_91 : decode prog_1_method_1_code 91 = .ok (.putfield 48, 3) := by decide +kernel
theorem nd_N_init_94 : decode prog_1_method_1_code 94 = .ok (.aload_n 0, 1) := by decide +kernel
theorem nd_N_init_95 : decode prog_1_method_1_code 95 = .ok (.iconst 1, 1) := by decide +kernel
theorem nd_N_init_96 : decode prog_1_method_1_code 96 = .ok (.putfield 52, 3) := by decide +kernel
theorem nd_N_init_99 : decode prog_1_method_1_code 99 = .ok (.return_, 1) := by decide +kernel
theorem nd_N_type_0 : decode prog_1_method_2_code 0 = .ok (.iload_n 1, 1) := by decide +kernel
theorem nd_N_type_1 : decode prog_1_method_2_code 1 = .ok (.invokestatic 55, 3) := by decide +kernel
theorem nd_N_type_4 : decode prog_1_method_2_code 4 = .ok (.ifCond .eq 18, 3) := by decide +kernel
theorem nd_N_type_7 : decode prog_1_method_2_code 7 = .ok (.aload_n 0, 1) := by decide +kernel
theorem nd_N_type_8 : decode prog_1_method_2_code 8 = .ok (.getfield 39, 3) := by decide +kernel
theorem nd_N_type_11 : decode prog_1_method_2_code 11 = .ok (.iload_n 1, 1) := by decide +kernel
theorem nd_N_type_12 : decode prog_1_method_2_code 12 = .ok (.invokevirtual 59, 3) := by decide +kernel
theorem nd_N_type_15 : decode prog_1_method_2_code 15 = .ok (.ifCond .eq 7, 3) := by decide +kernel
theorem nd_N_type_18 : decode prog_1_method_2_code 18 = .ok (.iconst 1, 1) := by decide +kernel
theorem nd_N_type_19 : decode prog_1_method_2_code 19 = .ok (.goto 4, 3) := by decide +kernel
theorem nd_N_type_22 : decode prog_1_method_2_code 22 = .ok (.iconst 0, 1) := by decide +kernel
theorem nd_N_type_23 : decode prog_1_method_2_code 23 = .ok (.ireturn, 1) := by decide +kernel
theorem nd_N_define_0 : decode prog_1_method_3_code 0 = .ok (.iconst (-1), 1) := by decide +kernel
theorem nd_N_define_1 : decode prog_1_method_3_code 1 = .ok (.istore_n 2, 1) := by decide +kernel
theorem nd_N_define_2 : decode prog_1_method_3_code 2 = .ok (.iload_n 1, 1) := by decide +kernel
theorem nd_N_define_3 : decode prog_1_method_3_code 3 = .ok (.invokestatic 62, 3) := by decide +kernel
theorem nd_N_define_6 : decode prog_1_method_3_code 6 = .ok (.ifCond .eq 27, 3) := by decide +kernel
theorem nd_N_define_9 : decode prog_1_method_3_code 9 = .ok (.aload_n 0, 1) := by decide +kernel
theorem nd_N_define_10 : decode prog_1_method_3_code 10 = .ok (.getfield 48, 3) := by decide +kernel
theorem nd_N_define_13 : decode prog_1_method_3_code 13 = .ok (.invokevirtual 66, 3) := by decide +kernel
theorem nd_N_define_16 : decode prog_1_method_3_code 16 = .ok (.ifCond .eq 7, 3) := by decide +kernel
theorem nd_N_define_19 : decode prog_1_method_3_code 19 = .ok (.iconst 0, 1) := by decide +kernel
theorem nd_N_define_20 : decode prog_1_method_3_code 20 = .ok (.goto 12, 3) := by decide +kernel
theorem nd_N_define_23 : decode prog_1_method_3_code 23 = .ok (.iconst 1, 1) := by decide +kernel
theorem nd_N_define_24 : decode prog_1_method_3_code 24 = .ok (.aload_n 0, 1) := by decide +kernel
theorem nd_N_define_25 : decode prog_1_method_3_code 25 = .ok (.getfield 48, 3) := by decide +kernel
theorem nd_N_define_28 : decode prog_1_method_3_code 28 = .ok (.invokevirtual 70, 3) := by decide +kernel
theorem nd_N_define_31 : decode prog_1_method_3_code 31 = .ok (.iadd, 1) := by decide +kernel
theorem nd_N_define_32 : decode prog_1_method_3_code 32 = .ok (.istore_n 2, 1) := by decide +kernel
theorem nd_N_define_33 : decode prog_1_method_3_code 33 = .ok (.iload_n 2, 1) := by decide +kernel
theorem nd_N_define_34 : decode prog_1_method_3_code 34 = .ok (.ifCond .ne 13, 3) := by decide +kernel
theorem nd_N_define_37 : decode prog_1_method_3_code 37 = .ok (.aload_n 0, 1) := by decide +kernel
theorem nd_N_define_38 : decode prog_1_method_3_code 38 = .ok (.aload_n 0, 1) := by decide +kernel
theorem nd_N_define_39 : decode prog_1_method_3_code 39 = .ok (.getfield 24, 3) := by decide +kernel
theorem nd_N_define_42 : decode prog_1_method_3_code 42 = .ok (.iload_n 1, 1) := by decide +kernel
theorem nd_N_define_43 : decode prog_1_method_3_code 43 = .ok (.aaload, 1) := by decide +kernel
theorem nd_N_define_44 : decode prog_1_method_3_code 44 = .ok (.invokevirtual 74, 3) := by decide +kernel
theorem nd_N_define_47 : decode prog_1_method_3_code 47 = .ok (.aload_n 0, 1) := by decide +kernel
theorem nd_N_define_48 : decode prog_1_method_3_code 48 = .ok (.getfield 39, 3) := by decide +kernel
theorem nd_N_define_51 : decode prog_1_method_3_code 51 = .ok (.iconst 0, 1) := by decide +kernel
theorem nd_N_define_52 : decode prog_1_method_3_code 52 = .ok (.putfield 78, 3) := by decide +kernel
theorem nd_N_define_55 : decode prog_1_method_3_code 55 = .ok (.iload_n 2, 1) := by decide +kernel
theorem nd_N_define_56 : decode prog_1_method_3_code 56 = .ok (.ireturn, 1) := by decide +kernel
theorem nd_N_set_0 : decode prog_1_method_4_code 0 = .ok (.iload_n 1, 1) := by decide +kernel
theorem nd_N_set_1 : decode prog_1_method_4_code 1 = .ok (.invokestatic 62, 3) := by decide +kernel
theorem nd_N_set_4 : decode prog_1_method_4_code 4 = .ok (.ifCond .eq 10, 3) := by decide +kernel
theorem nd_N_set_7 : decode prog_1_method_4_code 7 = .ok (.iload_n 3, 1) := by decide +kernel
theorem nd_N_set_8 : decode prog_1_method_4_code 8 = .ok (.invokestatic 81, 3) := by decide +kernel
theorem nd_N_set_11 : decode prog_1_method_4_code 11 = .ok (.ifCond .ne 5, 3) := by decide +kernel
theorem nd_N_set_14 : decode prog_1_method_4_code 14 = .ok (.iconst 0, 1) := by decide +kernel
theorem nd_N_set_15 : decode prog_1_method_4_code 15 = .ok (.ireturn, 1) := by decide +kernel
theorem nd_N_set_16 : decode prog_1_method_4_code 16 = .ok (.aload_n 0, 1) := by decide +kernel
theorem nd_N_set_17 : decode prog_1_method_4_code 17 = .ok (.getfield 24, 3) := by decide +kernel
theorem nd_N_set_20 : decode prog_1_method_4_code 20 = .ok (.iload_n 1, 1) := by decide +kernel
theorem nd_N_set_21 : decode prog_1_method_4_code 21 = .ok (.aaload, 1) := by decide +kernel
theorem nd_N_set_22 : decode prog_1_method_4_code 22 = .ok (.astore 4, 2) := by decide +kernel
theorem nd_N_set_24 : decode prog_1_method_4_code 24 = .ok (.aload 4, 2) := by decide +kernel
theorem nd_N_set_26 : decode prog_1_method_4_code 26 = .ok (.getfield 84, 3) := by decide +kernel
theorem nd_N_set_29 : decode prog_1_method_4_code 29 = .ok (.ifCond .ne 21, 3) := by decide +kernel
theorem nd_N_set_32 : decode prog_1_method_4_code 32 = .ok (.aload 4, 2) := by decide +kernel
theorem nd_N_set_34 : decode prog_1_method_4_code 34 = .ok (.getfield 88, 3) := by decide +kernel
theorem nd_N_set_37 : decode prog_1_method_4_code 37 = .ok (.iload_n 2, 1) := by decide +kernel
theorem nd_N_set_38 : decode prog_1_method_4_code 38 = .ok (.if_icmp .ne 12, 3) := by decide +kernel
theorem nd_N_set_41 : decode prog_1_method_4_code 41 = .ok (.aload 4, 2) := by decide +kernel
theorem nd_N_set_43 : decode prog_1_method_4_code 43 = .ok (.getfield 91, 3) := by decide +kernel
theorem nd_N_set_46 : decode prog_1_method_4_code 46 = .ok (.iload_n 3, 1) := by decide +kernel
theorem nd_N_set_47 : decode prog_1_method_4_code 47 = .ok (.if_icmp .eq 11, 3) := by decide +kernel
theorem nd_N_set_50 : decode prog_1_method_4_code 50 = .ok (.aload_n 0, 1) := by decide +kernel
theorem nd_N_set_51 : decode prog_1_method_4_code 51 = .ok (.aload 4, 2) := by decide +kernel
theorem nd_N_set_53 : decode prog_1_method_4_code 53 = .ok (.iload_n 2, 1) := by decide +kernel
theorem nd_N_set_54 : decode prog_1_method_4_code 54 = .ok (.iload_n 3, 1) := by decide +kernel
theorem nd_N_set_55 : decode prog_1_method_4_code 55 = .ok (.invokevirtual 94, 3) := by decide +kernel
theorem nd_N_set_58 : decode prog_1_method_4_code 58 = .ok (.iconst 1, 1) := by decide +kernel
theorem nd_N_set_59 : decode prog_1_method_4_code 59 = .ok (.ireturn, 1) := by decide +kernel
theorem nd_N_ask_0 : decode prog_1_method_5_code 0 = .ok (.iload_n 1, 1) := by decide +kernel
theorem nd_N_ask_1 : decode prog_1_method_5_code 1 = .ok (.invokestatic 62, 3) := by decide +kernel
theorem nd_N_ask_4 : decode prog_1_method_5_code 4 = .ok (.ifCond .ne 7, 3) := by decide +kernel
theorem nd_N_ask_7 : decode prog_1_method_5_code 7 = .ok (.ldc2_w 98, 3) := by decide +kernel
theorem nd_N_ask_10 : decode prog_1_method_5_code 10 = .ok (.lreturn, 1) := by decide +kernel
theorem nd_N_ask_11 : decode prog_1_method_5_code 11 = .ok (.iconst 0, 1) := by decide +kernel
theorem nd_N_ask_12 : decode prog_1_method_5_code 12 = .ok (.istore_n 2, 1) := by decide +kernel
theorem nd_N_ask_13 : decode prog_1_method_5_code 13 = .ok (.iload_n 2, 1) := by decide +kernel
theorem nd_N_ask_14 : decode prog_1_method_5_code 14 = .ok (.aload_n 0, 1) := by decide +kernel
theorem nd_N_ask_15 : decode prog_1_method_5_code 15 = .ok (.getfield 33, 3) := by decide +kernel
theorem nd_N_ask_18 : decode prog_1_method_5_code 18 = .ok (.arraylength, 1) := by decide +kernel
theorem nd_N_ask_19 : decode prog_1_method_5_code 19 = .ok (.if_icmp .ge 16, 3) := by decide +kernel
theorem nd_N_ask_22 : decode prog_1_method_5_code 22 = .ok (.aload_n 0, 1) := by decide +kernel
theorem nd_N_ask_23 : decode prog_1_method_5_code 23 = .ok (.getfield 33, 3) := by decide +kernel
theorem nd_N_ask_26 : decode prog_1_method_5_code 26 = .ok (.iload_n 2, 1) := by decide +kernel
theorem nd_N_ask_27 : decode prog_1_method_5_code 27 = .ok (.iconst 0, 1) := by decide +kernel
theorem nd_N_ask_28 : decode prog_1_method_5_code 28 = .ok (.iastore, 1) := by decide +kernel
theorem nd_N_ask_29 : decode prog_1_method_5_code 29 = .ok (.iinc 2 1, 3) := by decide +kernel
theorem nd_N_ask_32 : decode prog_1_method_5_code 32 = .ok (.goto (-19), 3) := by decide +kernel
theorem nd_N_ask_35 : decode prog_1_method_5_code 35 = .ok (.aload_n 0, 1) := by decide +kernel
theorem nd_N_ask_36 : decode prog_1_method_5_code 36 = .ok (.aload_n 0, 1) := by decide +kernel
theorem nd_N_ask_37 : decode prog_1_method_5_code 37 = .ok (.getfield 24, 3) := by decide +kernel
theorem nd_N_ask_40 : decode prog_1_method_5_code 40 = .ok (.iload_n 1, 1) := by decide +kernel
theorem nd_N_ask_41 : decode prog_1_method_5_code 41 = .ok (.aaload, 1) := by decide +kernel
theorem nd_N_ask_42 : decode prog_1_method_5_code 42 = .ok (.invokevirtual 100, 3) := by decide +kernel
theorem nd_N_ask_45 : decode prog_1_method_5_code 45 = .ok (.lstore_n 2, 1) := by decide +kernel
theorem nd_N_ask_46 : decode prog_1_method_5_code 46 = .ok (.aload_n 0, 1) := by decide +kernel
theorem nd_N_ask_47 : decode prog_1_method_5_code 47 = .ok (.invokevirtual 104, 3) := by decide +kernel
theorem nd_N_ask_50 : decode prog_1_method_5_code 50 = .ok (.lload_n 2, 1) := by decide +kernel
theorem nd_N_ask_51 : decode prog_1_method_5_code 51 = .ok (.lreturn, 1) := by decide +kernel
theorem nd_N_revision_0 : decode prog_1_method_6_code 0 = .ok (.aload_n 0, 1) := by decide +kernel
theorem nd_N_revision_1 : decode prog_1_method_6_code 1 = .ok (.getfield 52, 3) := by decide +kernel
theorem nd_N_revision_4 : decode prog_1_method_6_code 4 = .ok (.ireturn, 1) := by decide +kernel
theorem nd_N_changed_0 : decode prog_1_method_7_code 0 = .ok (.iload_n 1, 1) := by decide +kernel
theorem nd_N_changed_1 : decode prog_1_method_7_code 1 = .ok (.invokestatic 81, 3) := by decide +kernel
theorem nd_N_changed_4 : decode prog_1_method_7_code 4 = .ok (.ifCond .eq 12, 3) := by decide +kernel
theorem nd_N_changed_7 : decode prog_1_method_7_code 7 = .ok (.aload_n 0, 1) := by decide +kernel
theorem nd_N_changed_8 : decode prog_1_method_7_code 8 = .ok (.getfield 29, 3) := by decide +kernel
theorem nd_N_changed_11 : decode prog_1_method_7_code 11 = .ok (.iload_n 1, 1) := by decide +kernel
theorem nd_N_changed_12 : decode prog_1_method_7_code 12 = .ok (.iaload, 1) := by decide +kernel
theorem nd_N_changed_13 : decode prog_1_method_7_code 13 = .ok (.goto 4, 3) := by decide +kernel
theorem nd_N_changed_16 : decode prog_1_method_7_code 16 = .ok (.iconst (-1), 1) := by decide +kernel
theorem nd_N_changed_17 : decode prog_1_method_7_code 17 = .ok (.ireturn, 1) := by decide +kernel
theorem nd_N_note_0 : decode prog_1_method_8_code 0 = .ok (.iload_n 1, 1) := by decide +kernel
theorem nd_N_note_1 : decode prog_1_method_8_code 1 = .ok (.invokestatic 62, 3) := by decide +kernel
theorem nd_N_note_4 : decode prog_1_method_8_code 4 = .ok (.ifCond .ne 5, 3) := by decide +kernel
theorem nd_N_note_7 : decode prog_1_method_8_code 7 = .ok (.iconst (-1), 1) := by decide +kernel
theorem nd_N_note_8 : decode prog_1_method_8_code 8 = .ok (.ireturn, 1) := by decide +kernel
theorem nd_N_note_9 : decode prog_1_method_8_code 9 = .ok (.aload_n 0, 1) := by decide +kernel
theorem nd_N_note_10 : decode prog_1_method_8_code 10 = .ok (.getfield 24, 3) := by decide +kernel
theorem nd_N_note_13 : decode prog_1_method_8_code 13 = .ok (.iload_n 1, 1) := by decide +kernel
theorem nd_N_note_14 : decode prog_1_method_8_code 14 = .ok (.aaload, 1) := by decide +kernel
theorem nd_N_note_15 : decode prog_1_method_8_code 15 = .ok (.astore_n 3, 1) := by decide +kernel
theorem nd_N_note_16 : decode prog_1_method_8_code 16 = .ok (.iload_n 2, 1) := by decide +kernel
theorem nd_N_note_17 : decode prog_1_method_8_code 17 = .ok (.tableswitch 103 0 7 #[47, 47, 47, 54, 59, 67, 72, 80], 47) := by decide +kernel
theorem nd_N_note_64 : decode prog_1_method_8_code 64 = .ok (.aload_n 3, 1) := by decide +kernel
theorem nd_N_note_65 : decode prog_1_method_8_code 65 = .ok (.getfield 107, 3) := by decide +kernel
theorem nd_N_note_68 : decode prog_1_method_8_code 68 = .ok (.iload_n 2, 1) := by decide +kernel
theorem nd_N_note_69 : decode prog_1_method_8_code 69 = .ok (.iaload, 1) := by decide +kernel
theorem nd_N_note_70 : decode prog_1_method_8_code 70 = .ok (.ireturn, 1) := by decide +kernel
theorem nd_N_note_71 : decode prog_1_method_8_code 71 = .ok (.aload_n 3, 1) := by decide +kernel
theorem nd_N_note_72 : decode prog_1_method_8_code 72 = .ok (.invokevirtual 110, 3) := by decide +kernel
theorem nd_N_note_75 : decode prog_1_method_8_code 75 = .ok (.ireturn, 1) := by decide +kernel
theorem nd_N_note_76 : decode prog_1_method_8_code 76 = .ok (.aload_n 3, 1) := by decide +kernel
theorem nd_N_note_77 : decode prog_1_method_8_code 77 = .ok (.getfield 113, 3) := by decide +kernel
theorem nd_N_note_80 : decode prog_1_method_8_code 80 = .ok (.getfield 117, 3) := by decide +kernel
theorem nd_N_note_83 : decode prog_1_method_8_code 83 = .ok (.ireturn, 1) := by decide +kernel
theorem nd_N_note_84 : decode prog_1_method_8_code 84 = .ok (.aload_n 3, 1) := by decide +kernel
theorem nd_N_note_85 : decode prog_1_method_8_code 85 = .ok (.invokevirtual 122, 3) := by decide +kernel
theorem nd_N_note_88 : decode prog_1_method_8_code 88 = .ok (.ireturn, 1) := by decide +kernel
theorem nd_N_note_89 : decode prog_1_method_8_code 89 = .ok (.aload_n 3, 1) := by decide +kernel
theorem nd_N_note_90 : decode prog_1_method_8_code 90 = .ok (.getfield 113, 3) := by decide +kernel
theorem nd_N_note_93 : decode prog_1_method_8_code 93 = .ok (.getfield 125, 3) := by decide +kernel
theorem nd_N_note_96 : decode prog_1_method_8_code 96 = .ok (.ireturn, 1) := by decide +kernel
theorem nd_N_note_97 : decode prog_1_method_8_code 97 = .ok (.aload_n 3, 1) := by decide +kernel
theorem nd_N_note_98 : decode prog_1_method_8_code 98 = .ok (.getfield 84, 3) := by decide +kernel
theorem nd_N_note_101 : decode prog_1_method_8_code 101 = .ok (.ifCond .eq 13, 3) := by decide +kernel
theorem nd_N_note_104 : decode prog_1_method_8_code 104 = .ok (.aload_n 3, 1) := by decide +kernel
theorem nd_N_note_105 : decode prog_1_method_8_code 105 = .ok (.getfield 113, 3) := by decide +kernel
theorem nd_N_note_108 : decode prog_1_method_8_code 108 = .ok (.getfield 128, 3) := by decide +kernel
theorem nd_N_note_111 : decode prog_1_method_8_code 111 = .ok (.ifCond .eq 7, 3) := by decide +kernel
theorem nd_N_note_114 : decode prog_1_method_8_code 114 = .ok (.iconst 1, 1) := by decide +kernel
theorem nd_N_note_115 : decode prog_1_method_8_code 115 = .ok (.goto 4, 3) := by decide +kernel
theorem nd_N_note_118 : decode prog_1_method_8_code 118 = .ok (.iconst 0, 1) := by decide +kernel
theorem nd_N_note_119 : decode prog_1_method_8_code 119 = .ok (.ireturn, 1) := by decide +kernel
theorem nd_N_note_120 : decode prog_1_method_8_code 120 = .ok (.iconst (-1), 1) := by decide +kernel
theorem nd_N_note_121 : decode prog_1_method_8_code 121 = .ok (.ireturn, 1) := by decide +kernel
theorem nd_N_read_0 : decode prog_1_method_9_code 0 = .ok (.iload_n 1, 1) := by decide +kernel
theorem nd_N_read_1 : decode prog_1_method_9_code 1 = .ok (.invokestatic 62, 3) := by decide +kernel
theorem nd_N_read_4 : decode prog_1_method_9_code 4 = .ok (.ifCond .eq 23, 3) := by decide +kernel
theorem nd_N_read_7 : decode prog_1_method_9_code 7 = .ok (.iload_n 2, 1) := by decide +kernel
theorem nd_N_read_8 : decode prog_1_method_9_code 8 = .ok (.ifCond .lt 19, 3) := by decide +kernel
theorem nd_N_read_11 : decode prog_1_method_9_code 11 = .ok (.iload_n 2, 1) := by decide +kernel
theorem nd_N_read_12 : decode prog_1_method_9_code 12 = .ok (.aload_n 0, 1) := by decide +kernel
theorem nd_N_read_13 : decode prog_1_method_9_code 13 = .ok (.getfield 24, 3) := by decide +kernel
theorem nd_N_read_16 : decode prog_1_method_9_code 16 = .ok (.iload_n 1, 1) := by decide +kernel
theorem nd_N_read_17 : decode prog_1_method_9_code 17 = .ok (.aaload, 1) := by decide +kernel
theorem nd_N_read_18 : decode prog_1_method_9_code 18 = .ok (.getfield 113, 3) := by decide +kernel
theorem nd_N_read_21 : decode prog_1_method_9_code 21 = .ok (.getfield 125, 3) := by decide +kernel
theorem nd_N_read_24 : decode prog_1_method_9_code 24 = .ok (.if_icmp .lt 5, 3) := by decide +kernel
theorem nd_N_read_27 : decode prog_1_method_9_code 27 = .ok (.iconst (-1), 1) := by decide +kernel
theorem nd_N_read_28 : decode prog_1_method_9_code 28 = .ok (.ireturn, 1) := by decide +kernel
theorem nd_N_read_29 : decode prog_1_method_9_code 29 = .ok (.aload_n 0, 1) := by decide +kernel
theorem nd_N_read_30 : decode prog_1_method_9_code 30 = .ok (.getfield 24, 3) := by decide +kernel
theorem nd_N_read_33 : decode prog_1_method_9_code 33 = .ok (.iload_n 1, 1) := by decide +kernel
theorem nd_N_read_34 : decode prog_1_method_9_code 34 = .ok (.aaload, 1) := by decide +kernel
theorem nd_N_read_35 : decode prog_1_method_9_code 35 = .ok (.getfield 113, 3) := by decide +kernel
theorem nd_N_read_38 : decode prog_1_method_9_code 38 = .ok (.getfield 131, 3) := by decide +kernel
theorem nd_N_read_41 : decode prog_1_method_9_code 41 = .ok (.iload_n 2, 1) := by decide +kernel
theorem nd_N_read_42 : decode prog_1_method_9_code 42 = .ok (.iaload, 1) := by decide +kernel
theorem nd_N_read_43 : decode prog_1_method_9_code 43 = .ok (.ireturn, 1) := by decide +kernel
theorem nd_N_count_0 : decode prog_1_method_10_code 0 = .ok (.iload_n 1, 1) := by decide +kernel
theorem nd_N_count_1 : decode prog_1_method_10_code 1 = .ok (.iconst 3, 1) := by decide +kernel
theorem nd_N_count_2 : decode prog_1_method_10_code 2 = .ok (.if_icmp .ne 8, 3) := by decide +kernel
theorem nd_N_count_5 : decode prog_1_method_10_code 5 = .ok (.aload_n 0, 1) := by decide +kernel
theorem nd_N_count_6 : decode prog_1_method_10_code 6 = .ok (.invokevirtual 134, 3) := by decide +kernel
theorem nd_N_count_9 : decode prog_1_method_10_code 9 = .ok (.ireturn, 1) := by decide +kernel
theorem nd_N_count_10 : decode prog_1_method_10_code 10 = .ok (.iload_n 1, 1) := by decide +kernel
theorem nd_N_count_11 : decode prog_1_method_10_code 11 = .ok (.ifCond .lt 17, 3) := by decide +kernel
theorem nd_N_count_14 : decode prog_1_method_10_code 14 = .ok (.iload_n 1, 1) := by decide +kernel
theorem nd_N_count_15 : decode prog_1_method_10_code 15 = .ok (.iconst 2, 1) := by decide +kernel
theorem nd_N_count_16 : decode prog_1_method_10_code 16 = .ok (.if_icmp .gt 12, 3) := by decide +kernel
theorem nd_N_count_19 : decode prog_1_method_10_code 19 = .ok (.aload_n 0, 1) := by decide +kernel
theorem nd_N_count_20 : decode prog_1_method_10_code 20 = .ok (.getfield 33, 3) := by decide +kernel
theorem nd_N_count_23 : decode prog_1_method_10_code 23 = .ok (.iload_n 1, 1) := by decide +kernel
theorem nd_N_count_24 : decode prog_1_method_10_code 24 = .ok (.iaload, 1) := by decide +kernel
theorem nd_N_count_25 : decode prog_1_method_10_code 25 = .ok (.goto 4, 3) := by decide +kernel
theorem nd_N_count_28 : decode prog_1_method_10_code 28 = .ok (.iconst (-1), 1) := by decide +kernel
theorem nd_N_count_29 : decode prog_1_method_10_code 29 = .ok (.ireturn, 1) := by decide +kernel
theorem nd_N_isCell_0 : decode prog_1_method_11_code 0 = .ok (.iload_n 0, 1) := by decide +kernel
theorem nd_N_isCell_1 : decode prog_1_method_11_code 1 = .ok (.ifCond .lt 13, 3) := by decide +kernel
theorem nd_N_isCell_4 : decode prog_1_method_11_code 4 = .ok (.iload_n 0, 1) := by decide +kernel
theorem nd_N_isCell_5 : decode prog_1_method_11_code 5 = .ok (.bipush 12, 2) := by decide +kernel
theorem nd_N_isCell_7 : decode prog_1_method_11_code 7 = .ok (.if_icmp .ge 7, 3) := by decide +kernel
theorem nd_N_isCell_10 : decode prog_1_method_11_code 10 = .ok (.iconst 1, 1) := by decide +kernel
theorem nd_N_isCell_11 : decode prog_1_method_11_code 11 = .ok (.goto 4, 3) := by decide +kernel
theorem nd_N_isCell_14 : decode prog_1_method_11_code 14 = .ok (.iconst 0, 1) := by decide +kernel
theorem nd_N_isCell_15 : decode prog_1_method_11_code 15 = .ok (.ireturn, 1) := by decide +kernel
theorem nd_N_isDurability_0 : decode prog_1_method_12_code 0 = .ok (.iload_n 0, 1) := by decide +kernel
theorem nd_N_isDurability_1 : decode prog_1_method_12_code 1 = .ok (.ifCond .lt 12, 3) := by decide +kernel
theorem nd_N_isDurability_4 : decode prog_1_method_12_code 4 = .ok (.iload_n 0, 1) := by decide +kernel
theorem nd_N_isDurability_5 : decode prog_1_method_12_code 5 = .ok (.iconst 2, 1) := by decide +kernel
theorem nd_N_isDurability_6 : decode prog_1_method_12_code 6 = .ok (.if_icmp .gt 7, 3) := by decide +kernel
theorem nd_N_isDurability_9 : decode prog_1_method_12_code 9 = .ok (.iconst 1, 1) := by decide +kernel
theorem nd_N_isDurability_10 : decode prog_1_method_12_code 10 = .ok (.goto 4, 3) := by decide +kernel
theorem nd_N_isDurability_13 : decode prog_1_method_12_code 13 = .ok (.iconst 0, 1) := by decide +kernel
theorem nd_N_isDurability_14 : decode prog_1_method_12_code 14 = .ok (.ireturn, 1) := by decide +kernel
theorem nd_N_makeFormula_0 : decode prog_1_method_13_code 0 = .ok (.aload_n 1, 1) := by decide +kernel
theorem nd_N_makeFormula_1 : decode prog_1_method_13_code 1 = .ok (.getfield 84, 3) := by decide +kernel
theorem nd_N_makeFormula_4 : decode prog_1_method_13_code 4 = .ok (.ifCond .eq 18, 3) := by decide +kernel
theorem nd_N_makeFormula_7 : decode prog_1_method_13_code 7 = .ok (.aload_n 1, 1) := by decide +kernel
theorem nd_N_makeFormula_8 : decode prog_1_method_13_code 8 = .ok (.getfield 137, 3) := by decide +kernel
theorem nd_N_makeFormula_11 : decode prog_1_method_13_code 11 = .ok (.aload_n 0, 1) := by decide +kernel
theorem nd_N_makeFormula_12 : decode prog_1_method_13_code 12 = .ok (.getfield 39, 3) := by decide +kernel
theorem nd_N_makeFormula_15 : decode prog_1_method_13_code 15 = .ok (.invokevirtual 140, 3) := by decide +kernel
theorem nd_N_makeFormula_18 : decode prog_1_method_13_code 18 = .ok (.ifCond .eq 4, 3) := by decide +kernel
theorem nd_N_makeFormula_21 : decode prog_1_method_13_code 21 = .ok (.return_, 1) := by decide +kernel
theorem nd_N_makeFormula_22 : decode prog_1_method_13_code 22 = .ok (.aload_n 0, 1) := by decide +kernel
theorem nd_N_makeFormula_23 : decode prog_1_method_13_code 23 = .ok (.aload_n 1, 1) := by decide +kernel
theorem nd_N_makeFormula_24 : decode prog_1_method_13_code 24 = .ok (.invokevirtual 144, 3) := by decide +kernel
theorem nd_N_makeFormula_27 : decode prog_1_method_13_code 27 = .ok (.invokevirtual 147, 3) := by decide +kernel
theorem nd_N_makeFormula_30 : decode prog_1_method_13_code 30 = .ok (.aload_n 1, 1) := by decide +kernel
theorem nd_N_makeFormula_31 : decode prog_1_method_13_code 31 = .ok (.getfield 137, 3) := by decide +kernel
theorem nd_N_makeFormula_34 : decode prog_1_method_13_code 34 = .ok (.aload_n 0, 1) := by decide +kernel
theorem nd_N_makeFormula_35 : decode prog_1_method_13_code 35 = .ok (.getfield 39, 3) := by decide +kernel
theorem nd_N_makeFormula_38 : decode prog_1_method_13_code 38 = .ok (.invokevirtual 151, 3) := by decide +kernel
theorem nd_N_makeFormula_41 : decode prog_1_method_13_code 41 = .ok (.aload_n 1, 1) := by decide +kernel
theorem nd_N_makeFormula_42 : decode prog_1_method_13_code 42 = .ok (.aload_n 0, 1) := by decide +kernel
theorem nd_N_makeFormula_43 : decode prog_1_method_13_code 43 = .ok (.getfield 52, 3) := by decide +kernel
theorem nd_N_makeFormula_46 : decode prog_1_method_13_code 46 = .ok (.putfield 154, 3) := by decide +kernel
theorem nd_N_makeFormula_49 : decode prog_1_method_13_code 49 = .ok (.aload_n 1, 1) := by decide +kernel
theorem nd_N_makeFormula_50 : decode prog_1_method_13_code 50 = .ok (.iconst 1, 1) := by decide +kernel
theorem nd_N_makeFormula_51 : decode prog_1_method_13_code 51 = .ok (.putfield 84, 3) := by decide +kernel
theorem nd_N_makeFormula_54 : decode prog_1_method_13_code 54 = .ok (.return_, 1) := by decide +kernel
theorem nd_N_makeInput_0 : decode prog_1_method_14_code 0 = .ok (.aload_n 0, 1) := by decide +kernel
theorem nd_N_makeInput_1 : decode prog_1_method_14_code 1 = .ok (.aload_n 1, 1) := by decide +kernel
theorem nd_N_makeInput_2 : decode prog_1_method_14_code 2 = .ok (.invokevirtual 144, 3) := by decide +kernel
theorem nd_N_makeInput_5 : decode prog_1_method_14_code 5 = .ok (.invokevirtual 147, 3) := by decide +kernel
theorem nd_N_makeInput_8 : decode prog_1_method_14_code 8 = .ok (.aload_n 1, 1) := by decide +kernel
theorem nd_N_makeInput_9 : decode prog_1_method_14_code 9 = .ok (.getfield 84, 3) := by decide +kernel
theorem nd_N_makeInput_12 : decode prog_1_method_14_code 12 = .ok (.ifCond .ne 11, 3) := by decide +kernel
theorem nd_N_makeInput_15 : decode prog_1_method_14_code 15 = .ok (.aload_n 1, 1) := by decide +kernel
theorem nd_N_makeInput_16 : decode prog_1_method_14_code 16 = .ok (.getfield 88, 3) := by decide +kernel
theorem nd_N_makeInput_19 : decode prog_1_method_14_code 19 = .ok (.iload_n 2, 1) := by decide +kernel
theorem nd_N_makeInput_20 : decode prog_1_method_14_code 20 = .ok (.if_icmp .eq 11, 3) := by decide +kernel
theorem nd_N_makeInput_23 : decode prog_1_method_14_code 23 = .ok (.aload_n 1, 1) := by decide +kernel
theorem nd_N_makeInput_24 : decode prog_1_method_14_code 24 = .ok (.aload_n 0, 1) := by decide +kernel
theorem nd_N_makeInput_25 : decode prog_1_method_14_code 25 = .ok (.getfield 52, 3) := by decide +kernel
theorem nd_N_makeInput_28 : decode prog_1_method_14_code 28 = .ok (.putfield 157, 3) := by decide +kernel
theorem nd_N_makeInput_31 : decode prog_1_method_14_code 31 = .ok (.aload_n 1, 1) := by decide +kernel
theorem nd_N_makeInput_32 : decode prog_1_method_14_code 32 = .ok (.iconst 0, 1) := by decide +kernel
theorem nd_N_makeInput_33 : decode prog_1_method_14_code 33 = .ok (.putfield 84, 3) := by decide +kernel
theorem nd_N_makeInput_36 : decode prog_1_method_14_code 36 = .ok (.aload_n 1, 1) := by decide +kernel
theorem nd_N_makeInput_37 : decode prog_1_method_14_code 37 = .ok (.iload_n 2, 1) := by decide +kernel
theorem nd_N_makeInput_38 : decode prog_1_method_14_code 38 = .ok (.putfield 88, 3) := by decide +kernel
theorem nd_N_makeInput_41 : decode prog_1_method_14_code 41 = .ok (.aload_n 1, 1) := by decide +kernel
theorem nd_N_makeInput_42 : decode prog_1_method_14_code 42 = .ok (.iload_n 3, 1) := by decide +kernel
theorem nd_N_makeInput_43 : decode prog_1_method_14_code 43 = .ok (.putfield 91, 3) := by decide +kernel
theorem nd_N_makeInput_46 : decode prog_1_method_14_code 46 = .ok (.aload_n 1, 1) := by decide +kernel
theorem nd_N_makeInput_47 : decode prog_1_method_14_code 47 = .ok (.getfield 113, 3) := by decide +kernel
theorem nd_N_makeInput_50 : decode prog_1_method_14_code 50 = .ok (.invokevirtual 160, 3) := by decide +kernel
theorem nd_N_makeInput_53 : decode prog_1_method_14_code 53 = .ok (.return_, 1) := by decide +kernel
theorem nd_N_startRevision_0 : decode prog_1_method_15_code 0 = .ok (.aload_n 0, 1) := by decide +kernel
theorem nd_N_startRevision_1 : decode prog_1_method_15_code 1 = .ok (.dup, 1) := by decide +kernel
theorem nd_N_startRevision_2 : decode prog_1_method_15_code 2 = .ok (.getfield 52, 3) := by decide +kernel
theorem nd_N_startRevision_5 : decode prog_1_method_15_code 5 = .ok (.iconst 1, 1) := by decide +kernel
theorem nd_N_startRevision_6 : decode prog_1_method_15_code 6 = .ok (.iadd, 1) := by decide +kernel
theorem nd_N_startRevision_7 : decode prog_1_method_15_code 7 = .ok (.putfield 52, 3) := by decide +kernel
theorem nd_N_startRevision_10 : decode prog_1_method_15_code 10 = .ok (.iconst 0, 1) := by decide +kernel
theorem nd_N_startRevision_11 : decode prog_1_method_15_code 11 = .ok (.istore_n 2, 1) := by decide +kernel
theorem nd_N_startRevision_12 : decode prog_1_method_15_code 12 = .ok (.iload_n 2, 1) := by decide +kernel
theorem nd_N_startRevision_13 : decode prog_1_method_15_code 13 = .ok (.iload_n 1, 1) := by decide +kernel
theorem nd_N_startRevision_14 : decode prog_1_method_15_code 14 = .ok (.if_icmp .gt 19, 3) := by decide +kernel
theorem nd_N_startRevision_17 : decode prog_1_method_15_code 17 = .ok (.aload_n 0, 1) := by decide +kernel
theorem nd_N_startRevision_18 : decode prog_1_method_15_code 18 = .ok (.getfield 29, 3) := by decide +kernel
theorem nd_N_startRevision_21 : decode prog_1_method_15_code 21 = .ok (.iload_n 2, 1) := by decide +kernel
theorem nd_N_startRevision_22 : decode prog_1_method_15_code 22 = .ok (.aload_n 0, 1) := by decide +kernel
theorem nd_N_startRevision_23 : decode prog_1_method_15_code 23 = .ok (.getfield 52, 3) := by decide +kernel
theorem nd_N_startRevision_26 : decode prog_1_method_15_code 26 = .ok (.iastore, 1) := by decide +kernel
theorem nd_N_startRevision_27 : decode prog_1_method_15_code 27 = .ok (.iinc 2 1, 3) := by decide +kernel
theorem nd_N_startRevision_30 : decode prog_1_method_15_code 30 = .ok (.goto (-18), 3) := by decide +kernel
theorem nd_N_startRevision_33 : decode prog_1_method_15_code 33 = .ok (.return_, 1) := by decide +kernel
theorem nd_N_upToDateValue_0 : decode prog_1_method_16_code 0 = .ok (.aload_n 1, 1) := by decide +kernel
theorem nd_N_upToDateValue_1 : decode prog_1_method_16_code 1 = .ok (.getfield 84, 3) := by decide +kernel
theorem nd_N_upToDateValue_4 : decode prog_1_method_16_code 4 = .ok (.ifCond .ne 9, 3) := by decide +kernel
theorem nd_N_upToDateValue_7 : decode prog_1_method_16_code 7 = .ok (.aload_n 1, 1) := by decide +kernel
theorem nd_N_upToDateValue_8 : decode prog_1_method_16_code 8 = .ok (.getfield 88, 3) := by decide +kernel
theorem nd_N_upToDateValue_11 : decode prog_1_method_16_code 11 = .ok (.i2l, 1) := by decide +kernel
theorem nd_N_upToDateValue_12 : decode prog_1_method_16_code 12 = .ok (.lreturn, 1) := by decide +kernel
theorem nd_N_upToDateValue_13 : decode prog_1_method_16_code 13 = .ok (.aload_n 0, 1) := by decide +kernel
theorem nd_N_upToDateValue_14 : decode prog_1_method_16_code 14 = .ok (.aload_n 1, 1) := by decide +kernel
theorem nd_N_upToDateValue_15 : decode prog_1_method_16_code 15 = .ok (.invokevirtual 163, 3) := by decide +kernel
theorem nd_N_upToDateValue_18 : decode prog_1_method_16_code 18 = .ok (.aload_n 1, 1) := by decide +kernel
theorem nd_N_upToDateValue_19 : decode prog_1_method_16_code 19 = .ok (.getfield 113, 3) := by decide +kernel
theorem nd_N_upToDateValue_22 : decode prog_1_method_16_code 22 = .ok (.getfield 128, 3) := by decide +kernel
theorem nd_N_upToDateValue_25 : decode prog_1_method_16_code 25 = .ok (.ifCond .ne 8, 3) := by decide +kernel
theorem nd_N_upToDateValue_28 : decode prog_1_method_16_code 28 = .ok (.aload_n 0, 1) := by decide +kernel
theorem nd_N_upToDateValue_29 : decode prog_1_method_16_code 29 = .ok (.aload_n 1, 1) := by decide +kernel
theorem nd_N_upToDateValue_30 : decode prog_1_method_16_code 30 = .ok (.invokevirtual 166, 3) := by decide +kernel
theorem nd_N_upToDateValue_33 : decode prog_1_method_16_code 33 = .ok (.aload_n 0, 1) := by decide +kernel
theorem nd_N_upToDateValue_34 : decode prog_1_method_16_code 34 = .ok (.aload_n 1, 1) := by decide +kernel
theorem nd_N_upToDateValue_35 : decode prog_1_method_16_code 35 = .ok (.invokevirtual 169, 3) := by decide +kernel
theorem nd_N_upToDateValue_38 : decode prog_1_method_16_code 38 = .ok (.aload_n 1, 1) := by decide +kernel
theorem nd_N_upToDateValue_39 : decode prog_1_method_16_code 39 = .ok (.getfield 113, 3) := by decide +kernel
theorem nd_N_upToDateValue_42 : decode prog_1_method_16_code 42 = .ok (.getfield 172, 3) := by decide +kernel
theorem nd_N_upToDateValue_45 : decode prog_1_method_16_code 45 = .ok (.lreturn, 1) := by decide +kernel
theorem nd_N_bringUpToDate_0 : decode prog_1_method_17_code 0 = .ok (.aload_n 1, 1) := by decide +kernel
theorem nd_N_bringUpToDate_1 : decode prog_1_method_17_code 1 = .ok (.getfield 84, 3) := by decide +kernel
theorem nd_N_bringUpToDate_4 : decode prog_1_method_17_code 4 = .ok (.ifCond .eq 24, 3) := by decide +kernel
theorem nd_N_bringUpToDate_7 : decode prog_1_method_17_code 7 = .ok (.aload_n 1, 1) := by decide +kernel
theorem nd_N_bringUpToDate_8 : decode prog_1_method_17_code 8 = .ok (.getfield 176, 3) := by decide +kernel
theorem nd_N_bringUpToDate_11 : decode prog_1_method_17_code 11 = .ok (.ifCond .ne 17, 3) := by decide +kernel
theorem nd_N_bringUpToDate_14 : decode prog_1_method_17_code 14 = .ok (.aload_n 1, 1) := by decide +kernel
theorem nd_N_bringUpToDate_15 : decode prog_1_method_17_code 15 = .ok (.getfield 113, 3) := by decide +kernel
theorem nd_N_bringUpToDate_18 : decode prog_1_method_17_code 18 = .ok (.aload_n 0, 1) := by decide +kernel
theorem nd_N_bringUpToDate_19 : decode prog_1_method_17_code 19 = .ok (.getfield 52, 3) := by decide +kernel
theorem nd_N_bringUpToDate_22 : decode prog_1_method_17_code 22 = .ok (.invokevirtual 179, 3) := by decide +kernel
theorem nd_N_bringUpToDate_25 : decode prog_1_method_17_code 25 = .ok (.ifCond .eq 4, 3) := by decide +kernel
theorem nd_N_bringUpToDate_28 : decode prog_1_method_17_code 28 = .ok (.return_, 1) := by decide +kernel
theorem nd_N_bringUpToDate_29 : decode prog_1_method_17_code 29 = .ok (.aload_n 1, 1) := by decide +kernel
theorem nd_N_bringUpToDate_30 : decode prog_1_method_17_code 30 = .ok (.iconst 1, 1) := by decide +kernel
theorem nd_N_bringUpToDate_31 : decode prog_1_method_17_code 31 = .ok (.putfield 176, 3) := by decide +kernel
theorem nd_N_bringUpToDate_34 : decode prog_1_method_17_code 34 = .ok (.aload_n 0, 1) := by decide +kernel
theorem nd_N_bringUpToDate_35 : decode prog_1_method_17_code 35 = .ok (.aload_n 1, 1) := by decide +kernel
theorem nd_N_bringUpToDate_36 : decode prog_1_method_17_code 36 = .ok (.getfield 113, 3) := by decide +kernel
theorem nd_N_bringUpToDate_39 : decode prog_1_method_17_code 39 = .ok (.invokevirtual 182, 3) := by decide +kernel
theorem nd_N_bringUpToDate_42 : decode prog_1_method_17_code 42 = .ok (.ifCond .eq 12, 3) := by decide +kernel
theorem nd_N_bringUpToDate_45 : decode prog_1_method_17_code 45 = .ok (.aload_n 0, 1) := by decide +kernel
theorem nd_N_bringUpToDate_46 : decode prog_1_method_17_code 46 = .ok (.aload_n 1, 1) := by decide +kernel
theorem nd_N_bringUpToDate_47 : decode prog_1_method_17_code 47 = .ok (.iconst 2, 1) := by decide +kernel
theorem nd_N_bringUpToDate_48 : decode prog_1_method_17_code 48 = .ok (.invokevirtual 186, 3) := by decide +kernel
theorem nd_N_bringUpToDate_51 : decode prog_1_method_17_code 51 = .ok (.goto 40, 3) := by decide +kernel
theorem nd_N_bringUpToDate_54 : decode prog_1_method_17_code 54 = .ok (.aload_n 0, 1) := by decide +kernel
theorem nd_N_bringUpToDate_55 : decode prog_1_method_17_code 55 = .ok (.aload_n 1, 1) := by decide +kernel
theorem nd_N_bringUpToDate_56 : decode prog_1_method_17_code 56 = .ok (.invokevirtual 190, 3) := by decide +kernel
theorem nd_N_bringUpToDate_59 : decode prog_1_method_17_code 59 = .ok (.ifCond .eq 27, 3) := by decide +kernel
theorem nd_N_bringUpToDate_62 : decode prog_1_method_17_code 62 = .ok (.aload_n 1, 1) := by decide +kernel
theorem nd_N_bringUpToDate_63 : decode prog_1_method_17_code 63 = .ok (.getfield 113, 3) := by decide +kernel
theorem nd_N_bringUpToDate_66 : decode prog_1_method_17_code 66 = .ok (.aload_n 0, 1) := by decide +kernel
theorem nd_N_bringUpToDate_67 : decode prog_1_method_17_code 67 = .ok (.aload_n 1, 1) := by decide +kernel
theorem nd_N_bringUpToDate_68 : decode prog_1_method_17_code 68 = .ok (.getfield 113, 3) := by decide +kernel
theorem nd_N_bringUpToDate_71 : decode prog_1_method_17_code 71 = .ok (.invokevirtual 194, 3) := by decide +kernel
theorem nd_N_bringUpToDate_74 : decode prog_1_method_17_code 74 = .ok (.putfield 198, 3) := by decide +kernel
theorem nd_N_bringUpToDate_77 : decode prog_1_method_17_code 77 = .ok (.aload_n 0, 1) := by decide +kernel
theorem nd_N_bringUpToDate_78 : decode prog_1_method_17_code 78 = .ok (.aload_n 1, 1) := by decide +kernel
theorem nd_N_bringUpToDate_79 : decode prog_1_method_17_code 79 = .ok (.iconst 1, 1) := by decide +kernel
theorem nd_N_bringUpToDate_80 : decode prog_1_method_17_code 80 = .ok (.invokevirtual 186, 3) := by decide +kernel
theorem nd_N_bringUpToDate_83 : decode prog_1_method_17_code 83 = .ok (.goto 8, 3) := by decide +kernel
theorem nd_N_bringUpToDate_86 : decode prog_1_method_17_code 86 = .ok (.aload_n 0, 1) := by decide +kernel
theorem nd_N_bringUpToDate_87 : decode prog_1_method_17_code 87 = .ok (.aload_n 1, 1) := by decide +kernel
theorem nd_N_bringUpToDate_88 : decode prog_1_method_17_code 88 = .ok (.invokevirtual 166, 3) := by decide +kernel
theorem nd_N_bringUpToDate_91 : decode prog_1_method_17_code 91 = .ok (.aload_n 1, 1) := by decide +kernel
theorem nd_N_bringUpToDate_92 : decode prog_1_method_17_code 92 = .ok (.iconst 0, 1) := by decide +kernel
theorem nd_N_bringUpToDate_93 : decode prog_1_method_17_code 93 = .ok (.putfield 176, 3) := by decide +kernel
theorem nd_N_bringUpToDate_96 : decode prog_1_method_17_code 96 = .ok (.return_, 1) := by decide +kernel
theorem nd_N_passes_0 : decode prog_1_method_18_code 0 = .ok (.aload_n 1, 1) := by decide +kernel
theorem nd_N_passes_1 : decode prog_1_method_18_code 1 = .ok (.getfield 199, 3) := by decide +kernel
theorem nd_N_passes_4 : decode prog_1_method_18_code 4 = .ok (.ifCond .eq 23, 3) := by decide +kernel
theorem nd_N_passes_7 : decode prog_1_method_18_code 7 = .ok (.aload_n 0, 1) := by decide +kernel
theorem nd_N_passes_8 : decode prog_1_method_18_code 8 = .ok (.getfield 29, 3) := by decide +kernel
theorem nd_N_passes_11 : decode prog_1_method_18_code 11 = .ok (.aload_n 1, 1) := by decide +kernel
theorem nd_N_passes_12 : decode prog_1_method_18_code 12 = .ok (.getfield 198, 3) := by decide +kernel
theorem nd_N_passes_15 : decode prog_1_method_18_code 15 = .ok (.iaload, 1) := by decide +kernel
theorem nd_N_passes_16 : decode prog_1_method_18_code 16 = .ok (.aload_n 1, 1) := by decide +kernel
theorem nd_N_passes_17 : decode prog_1_method_18_code 17 = .ok (.getfield 117, 3) := by decide +kernel
theorem nd_N_passes_20 : decode prog_1_method_18_code 20 = .ok (.if_icmp .gt 7, 3) := by decide +kernel
theorem nd_N_passes_23 : decode prog_1_method_18_code 23 = .ok (.iconst 1, 1) := by decide +kernel
theorem nd_N_passes_24 : decode prog_1_method_18_code 24 = .ok (.goto 4, 3) := by decide +kernel
theorem nd_N_passes_27 : decode prog_1_method_18_code 27 = .ok (.iconst 0, 1) := by decide +kernel
theorem nd_N_passes_28 : decode prog_1_method_18_code 28 = .ok (.ireturn, 1) := by decide +kernel
theorem nd_N_readsAreUnchanged_0 : decode prog_1_method_19_code 0 = .ok (.aload_n 1, 1) := by decide +kernel
theorem nd_N_readsAreUnchanged_1 : decode prog_1_method_19_code 1 = .ok (.getfield 113, 3) := by decide +kernel
theorem nd_N_readsAreUnchanged_4 : decode prog_1_method_19_code 4 = .ok (.astore_n 2, 1) := by decide +kernel
theorem nd_N_readsAreUnchanged_5 : decode prog_1_method_19_code 5 = .ok (.aload_n 2, 1) := by decide +kernel
theorem nd_N_readsAreUnchanged_6 : decode prog_1_method_19_code 6 = .ok (.getfield 199, 3) := by decide +kernel
theorem nd_N_readsAreUnchanged_9 : decode prog_1_method_19_code 9 = .ok (.ifCond .eq 14, 3) := by decide +kernel
theorem nd_N_readsAreUnchanged_12 : decode prog_1_method_19_code 12 = .ok (.aload_n 1, 1) := by decide +kernel
theorem nd_N_readsAreUnchanged_13 : decode prog_1_method_19_code 13 = .ok (.getfield 154, 3) := by decide +kernel
theorem nd_N_readsAreUnchanged_16 : decode prog_1_method_19_code 16 = .ok (.aload_n 2, 1) := by decide +kernel
theorem nd_N_readsAreUnchanged_17 : decode prog_1_method_19_code 17 = .ok (.getfield 117, 3) := by decide +kernel
theorem nd_N_readsAreUnchanged_20 : decode prog_1_method_19_code 20 = .ok (.if_icmp .le 5, 3) := by decide +kernel
theorem nd_N_readsAreUnchanged_23 : decode prog_1_method_19_code 23 = .ok (.iconst 0, 1) := by decide +kernel
theorem nd_N_readsAreUnchanged_24 : decode prog_1_method_19_code 24 = .ok (.ireturn, 1) := by decide +kernel
theorem nd_N_readsAreUnchanged_25 : decode prog_1_method_19_code 25 = .ok (.iconst 0, 1) := by decide +kernel
theorem nd_N_readsAreUnchanged_26 : decode prog_1_method_19_code 26 = .ok (.istore_n 3, 1) := by decide +kernel
theorem nd_N_readsAreUnchanged_27 : decode prog_1_method_19_code 27 = .ok (.iload_n 3, 1) := by decide +kernel
theorem nd_N_readsAreUnchanged_28 : decode prog_1_method_19_code 28 = .ok (.aload_n 2, 1) := by decide +kernel
theorem nd_N_readsAreUnchanged_29 : decode prog_1_method_19_code 29 = .ok (.getfield 125, 3) := by decide +kernel
theorem nd_N_readsAreUnchanged_32 : decode prog_1_method_19_code 32 = .ok (.if_icmp .ge 50, 3) := by decide +kernel
theorem nd_N_readsAreUnchanged_35 : decode prog_1_method_19_code 35 = .ok (.aload_n 0, 1) := by decide +kernel
theorem nd_N_readsAreUnchanged_36 : decode prog_1_method_19_code 36 = .ok (.getfield 24, 3) := by decide +kernel
theorem nd_N_readsAreUnchanged_39 : decode prog_1_method_19_code 39 = .ok (.aload_n 2, 1) := by decide +kernel
theorem nd_N_readsAreUnchanged_40 : decode prog_1_method_19_code 40 = .ok (.getfield 131, 3) := by decide +kernel
theorem nd_N_readsAreUnchanged_43 : decode prog_1_method_19_code 43 = .ok (.iload_n 3, 1) := by decide +kernel
theorem nd_N_readsAreUnchanged_44 : decode prog_1_method_19_code 44 = .ok (.iaload, 1) := by decide +kernel
theorem nd_N_readsAreUnchanged_45 : decode prog_1_method_19_code 45 = .ok (.aaload, 1) := by decide +kernel
theorem nd_N_readsAreUnchanged_46 : decode prog_1_method_19_code 46 = .ok (.astore 4, 2) := by decide +kernel
theorem nd_N_readsAreUnchanged_48 : decode prog_1_method_19_code 48 = .ok (.aload_n 0, 1) := by decide +kernel
theorem nd_N_readsAreUnchanged_49 : decode prog_1_method_19_code 49 = .ok (.aload 4, 2) := by decide +kernel
theorem nd_N_readsAreUnchanged_51 : decode prog_1_method_19_code 51 = .ok (.invokevirtual 163, 3) := by decide +kernel
theorem nd_N_readsAreUnchanged_54 : decode prog_1_method_19_code 54 = .ok (.aload 4, 2) := by decide +kernel
theorem nd_N_readsAreUnchanged_56 : decode prog_1_method_19_code 56 = .ok (.getfield 176, 3) := by decide +kernel
theorem nd_N_readsAreUnchanged_59 : decode prog_1_method_19_code 59 = .ok (.ifCond .ne 15, 3) := by decide +kernel
theorem nd_N_readsAreUnchanged_62 : decode prog_1_method_19_code 62 = .ok (.aload 4, 2) := by decide +kernel
theorem nd_N_readsAreUnchanged_64 : decode prog_1_method_19_code 64 = .ok (.invokevirtual 110, 3) := by decide +kernel
theorem nd_N_readsAreUnchanged_67 : decode prog_1_method_19_code 67 = .ok (.aload_n 2, 1) := by decide +kernel
theorem nd_N_readsAreUnchanged_68 : decode prog_1_method_19_code 68 = .ok (.getfield 117, 3) := by decide +kernel
theorem nd_N_readsAreUnchanged_71 : decode prog_1_method_19_code 71 = .ok (.if_icmp .le 5, 3) := by decide +kernel
theorem nd_N_readsAreUnchanged_74 : decode prog_1_method_19_code 74 = .ok (.iconst 0, 1) := by decide +kernel
theorem nd_N_readsAreUnchanged_75 : decode prog_1_method_19_code 75 = .ok (.ireturn, 1) := by decide +kernel
theorem nd_N_readsAreUnchanged_76 : decode prog_1_method_19_code 76 = .ok (.iinc 3 1, 3) := by decide +kernel
theorem nd_N_readsAreUnchanged_79 : decode prog_1_method_19_code 79 = .ok (.goto (-52), 3) := by decide +kernel
theorem nd_N_readsAreUnchanged_82 : decode prog_1_method_19_code 82 = .ok (.iconst 1, 1) := by decide +kernel
theorem nd_N_readsAreUnchanged_83 : decode prog_1_method_19_code 83 = .ok (.ireturn, 1) := by decide +kernel
theorem nd_N_verify_0 : decode prog_1_method_20_code 0 = .ok (.aload_n 1, 1) := by decide +kernel
theorem nd_N_verify_1 : decode prog_1_method_20_code 1 = .ok (.getfield 113, 3) := by decide +kernel
theorem nd_N_verify_4 : decode prog_1_method_20_code 4 = .ok (.aload_n 0, 1) := by decide +kernel
theorem nd_N_verify_5 : decode prog_1_method_20_code 5 = .ok (.getfield 52, 3) := by decide +kernel
theorem nd_N_verify_8 : decode prog_1_method_20_code 8 = .ok (.putfield 117, 3) := by decide +kernel
theorem nd_N_verify_11 : decode prog_1_method_20_code 11 = .ok (.aload_n 0, 1) := by decide +kernel
theorem nd_N_verify_12 : decode prog_1_method_20_code 12 = .ok (.aload_n 1, 1) := by decide +kernel
theorem nd_N_verify_13 : decode prog_1_method_20_code 13 = .ok (.iload_n 2, 1) := by decide +kernel
theorem nd_N_verify_14 : decode prog_1_method_20_code 14 = .ok (.invokevirtual 202, 3) := by decide +kernel
theorem nd_N_verify_17 : decode prog_1_method_20_code 17 = .ok (.return_, 1) := by decide +kernel
theorem nd_N_workOut_0 : decode prog_1_method_21_code 0 = .ok (.aload_n 1, 1) := by decide +kernel
theorem nd_N_workOut_1 : decode prog_1_method_21_code 1 = .ok (.iconst 1, 1) := by decide +kernel
theorem nd_N_workOut_2 : decode prog_1_method_21_code 2 = .ok (.putfield 176, 3) := by decide +kernel
theorem nd_N_workOut_5 : decode prog_1_method_21_code 5 = .ok (.aload_n 1, 1) := by decide +kernel
theorem nd_N_workOut_6 : decode prog_1_method_21_code 6 = .ok (.getfield 113, 3) := by decide +kernel
theorem nd_N_workOut_9 : decode prog_1_method_21_code 9 = .ok (.iconst 0, 1) := by decide +kernel
theorem nd_N_workOut_10 : decode prog_1_method_21_code 10 = .ok (.putfield 125, 3) := by decide +kernel
theorem nd_N_workOut_13 : decode prog_1_method_21_code 13 = .ok (.aload_n 0, 1) := by decide +kernel
theorem nd_N_workOut_14 : decode prog_1_method_21_code 14 = .ok (.aload_n 1, 1) := by decide +kernel
theorem nd_N_workOut_15 : decode prog_1_method_21_code 15 = .ok (.invokevirtual 204, 3) := by decide +kernel
theorem nd_N_workOut_18 : decode prog_1_method_21_code 18 = .ok (.lstore_n 2, 1) := by decide +kernel
theorem nd_N_workOut_19 : decode prog_1_method_21_code 19 = .ok (.aload_n 1, 1) := by decide +kernel
theorem nd_N_workOut_20 : decode prog_1_method_21_code 20 = .ok (.getfield 113, 3) := by decide +kernel
theorem nd_N_workOut_23 : decode prog_1_method_21_code 23 = .ok (.aload_n 0, 1) := by decide +kernel
theorem nd_N_workOut_24 : decode prog_1_method_21_code 24 = .ok (.aload_n 1, 1) := by decide +kernel
theorem nd_N_workOut_25 : decode prog_1_method_21_code 25 = .ok (.getfield 113, 3) := by decide +kernel
theorem nd_N_workOut_28 : decode prog_1_method_21_code 28 = .ok (.invokevirtual 194, 3) := by decide +kernel
theorem nd_N_workOut_31 : decode prog_1_method_21_code 31 = .ok (.putfield 198, 3) := by decide +kernel
theorem nd_N_workOut_34 : decode prog_1_method_21_code 34 = .ok (.aload_n 1, 1) := by decide +kernel
theorem nd_N_workOut_35 : decode prog_1_method_21_code 35 = .ok (.getfield 113, 3) := by decide +kernel
theorem nd_N_workOut_38 : decode prog_1_method_21_code 38 = .ok (.lload_n 2, 1) := by decide +kernel
theorem nd_N_workOut_39 : decode prog_1_method_21_code 39 = .ok (.aload_n 0, 1) := by decide +kernel
theorem nd_N_workOut_40 : decode prog_1_method_21_code 40 = .ok (.getfield 52, 3) := by decide +kernel
theorem nd_N_workOut_43 : decode prog_1_method_21_code 43 = .ok (.invokevirtual 207, 3) := by decide +kernel
theorem nd_N_workOut_46 : decode prog_1_method_21_code 46 = .ok (.aload_n 0, 1) := by decide +kernel
theorem nd_N_workOut_47 : decode prog_1_method_21_code 47 = .ok (.aload_n 1, 1) := by decide +kernel
theorem nd_N_workOut_48 : decode prog_1_method_21_code 48 = .ok (.invokevirtual 169, 3) := by decide +kernel
theorem nd_N_workOut_51 : decode prog_1_method_21_code 51 = .ok (.aload_n 0, 1) := by decide +kernel
theorem nd_N_workOut_52 : decode prog_1_method_21_code 52 = .ok (.aload_n 1, 1) := by decide +kernel
theorem nd_N_workOut_53 : decode prog_1_method_21_code 53 = .ok (.iconst 0, 1) := by decide +kernel
theorem nd_N_workOut_54 : decode prog_1_method_21_code 54 = .ok (.invokevirtual 202, 3) := by decide +kernel
theorem nd_N_workOut_57 : decode prog_1_method_21_code 57 = .ok (.aload_n 1, 1) := by decide +kernel
theorem nd_N_workOut_58 : decode prog_1_method_21_code 58 = .ok (.iconst 0, 1) := by decide +kernel
theorem nd_N_workOut_59 : decode prog_1_method_21_code 59 = .ok (.putfield 176, 3) := by decide +kernel
theorem nd_N_workOut_62 : decode prog_1_method_21_code 62 = .ok (.return_, 1) := by decide +kernel
theorem nd_N_leastDurability_0 : decode prog_1_method_22_code 0 = .ok (.iconst 2, 1) := by decide +kernel
theorem nd_N_leastDurability_1 : decode prog_1_method_22_code 1 = .ok (.istore_n 2, 1) := by decide +kernel
theorem nd_N_leastDurability_2 : decode prog_1_method_22_code 2 = .ok (.iconst 0, 1) := by decide +kernel
theorem nd_N_leastDurability_3 : decode prog_1_method_22_code 3 = .ok (.istore_n 3, 1) := by decide +kernel
theorem nd_N_leastDurability_4 : decode prog_1_method_22_code 4 = .ok (.iload_n 3, 1) := by decide +kernel
theorem nd_N_leastDurability_5 : decode prog_1_method_22_code 5 = .ok (.aload_n 1, 1) := by decide +kernel
theorem nd_N_leastDurability_6 : decode prog_1_method_22_code 6 = .ok (.getfield 125, 3) := by decide +kernel
theorem nd_N_leastDurability_9 : decode prog_1_method_22_code 9 = .ok (.if_icmp .ge 44, 3) := by decide +kernel
theorem nd_N_leastDurability_12 : decode prog_1_method_22_code 12 = .ok (.aload_n 0, 1) := by decide +kernel
theorem nd_N_leastDurability_13 : decode prog_1_method_22_code 13 = .ok (.getfield 24, 3) := by decide +kernel
theorem nd_N_leastDurability_16 : decode prog_1_method_22_code 16 = .ok (.aload_n 1, 1) := by decide +kernel
theorem nd_N_leastDurability_17 : decode prog_1_method_22_code 17 = .ok (.getfield 131, 3) := by decide +kernel
theorem nd_N_leastDurability_20 : decode prog_1_method_22_code 20 = .ok (.iload_n 3, 1) := by decide +kernel
theorem nd_N_leastDurability_21 : decode prog_1_method_22_code 21 = .ok (.iaload, 1) := by decide +kernel
theorem nd_N_leastDurability_22 : decode prog_1_method_22_code 22 = .ok (.aaload, 1) := by decide +kernel
theorem nd_N_leastDurability_23 : decode prog_1_method_22_code 23 = .ok (.astore 4, 2) := by decide +kernel
theorem nd_N_leastDurability_25 : decode prog_1_method_22_code 25 = .ok (.iload_n 2, 1) := by decide +kernel
theorem nd_N_leastDurability_26 : decode prog_1_method_22_code 26 = .ok (.aload 4, 2) := by decide +kernel
theorem nd_N_leastDurability_28 : decode prog_1_method_22_code 28 = .ok (.getfield 176, 3) := by decide +kernel
theorem nd_N_leastDurability_31 : decode prog_1_method_22_code 31 = .ok (.ifCond .eq 7, 3) := by decide +kernel
theorem nd_N_leastDurability_34 : decode prog_1_method_22_code 34 = .ok (.iconst 0, 1) := by decide +kernel
theorem nd_N_leastDurability_35 : decode prog_1_method_22_code 35 = .ok (.goto 8, 3) := by decide +kernel
theorem nd_N_leastDurability_38 : decode prog_1_method_22_code 38 = .ok (.aload 4, 2) := by decide +kernel
theorem nd_N_leastDurability_40 : decode prog_1_method_22_code 40 = .ok (.invokevirtual 122, 3) := by decide +kernel
theorem nd_N_leastDurability_43 : decode prog_1_method_22_code 43 = .ok (.invokestatic 9, 3) := by decide +kernel
theorem nd_N_leastDurability_46 : decode prog_1_method_22_code 46 = .ok (.istore_n 2, 1) := by decide +kernel
theorem nd_N_leastDurability_47 : decode prog_1_method_22_code 47 = .ok (.iinc 3 1, 3) := by decide +kernel
theorem nd_N_leastDurability_50 : decode prog_1_method_22_code 50 = .ok (.goto (-46), 3) := by decide +kernel
theorem nd_N_leastDurability_53 : decode prog_1_method_22_code 53 = .ok (.iload_n 2, 1) := by decide +kernel
theorem nd_N_leastDurability_54 : decode prog_1_method_22_code 54 = .ok (.ireturn, 1) := by decide +kernel
theorem nd_N_evaluate_0 : decode prog_1_method_23_code 0 = .ok (.aload_n 1, 1) := by decide +kernel
theorem nd_N_evaluate_1 : decode prog_1_method_23_code 1 = .ok (.getfield 137, 3) := by decide +kernel
theorem nd_N_evaluate_4 : decode prog_1_method_23_code 4 = .ok (.astore_n 2, 1) := by decide +kernel
theorem nd_N_evaluate_5 : decode prog_1_method_23_code 5 = .ok (.aload_n 1, 1) := by decide +kernel
theorem nd_N_evaluate_6 : decode prog_1_method_23_code 6 = .ok (.getfield 211, 3) := by decide +kernel
theorem nd_N_evaluate_9 : decode prog_1_method_23_code 9 = .ok (.astore_n 3, 1) := by decide +kernel
theorem nd_N_evaluate_10 : decode prog_1_method_23_code 10 = .ok (.iconst 0, 1) := by decide +kernel
theorem nd_N_evaluate_11 : decode prog_1_method_23_code 11 = .ok (.istore 4, 2) := by decide +kernel
theorem nd_N_evaluate_13 : decode prog_1_method_23_code 13 = .ok (.iconst 0, 1) := by decide +kernel
theorem nd_N_evaluate_14 : decode prog_1_method_23_code 14 = .ok (.istore 5, 2) := by decide +kernel
theorem nd_N_evaluate_16 : decode prog_1_method_23_code 16 = .ok (.iconst 0, 1) := by decide +kernel
theorem nd_N_evaluate_17 : decode prog_1_method_23_code 17 = .ok (.istore 6, 2) := by decide +kernel
theorem nd_N_evaluate_19 : decode prog_1_method_23_code 19 = .ok (.iload 6, 2) := by decide +kernel
theorem nd_N_evaluate_21 : decode prog_1_method_23_code 21 = .ok (.bipush 30, 2) := by decide +kernel
theorem nd_N_evaluate_23 : decode prog_1_method_23_code 23 = .ok (.if_icmp .ge 220, 3) := by decide +kernel
theorem nd_N_evaluate_26 : decode prog_1_method_23_code 26 = .ok (.iload 5, 2) := by decide +kernel
theorem nd_N_evaluate_28 : decode prog_1_method_23_code 28 = .ok (.aload_n 2, 1) := by decide +kernel
theorem nd_N_evaluate_29 : decode prog_1_method_23_code 29 = .ok (.getfield 214, 3) := by decide +kernel
theorem nd_N_evaluate_32 : decode prog_1_method_23_code 32 = .ok (.if_icmp .ge 211, 3) := by decide +kernel
theorem nd_N_evaluate_35 : decode prog_1_method_23_code 35 = .ok (.aload_n 2, 1) := by decide +kernel
theorem nd_N_evaluate_36 : decode prog_1_method_23_code 36 = .ok (.iload 5, 2) := by decide +kernel
theorem nd_N_evaluate_38 : decode prog_1_method_23_code 38 = .ok (.invokevirtual 217, 3) := by decide +kernel
theorem nd_N_evaluate_41 : decode prog_1_method_23_code 41 = .ok (.istore 7, 2) := by decide +kernel
theorem nd_N_evaluate_43 : decode prog_1_method_23_code 43 = .ok (.aload_n 2, 1) := by decide +kernel
theorem nd_N_evaluate_44 : decode prog_1_method_23_code 44 = .ok (.iload 5, 2) := by decide +kernel
theorem nd_N_evaluate_46 : decode prog_1_method_23_code 46 = .ok (.invokevirtual 221, 3) := by decide +kernel
theorem nd_N_evaluate_49 : decode prog_1_method_23_code 49 = .ok (.istore 8, 2) := by decide +kernel
theorem nd_N_evaluate_51 : decode prog_1_method_23_code 51 = .ok (.iinc 5 1, 3) := by decide +kernel
theorem nd_N_evaluate_54 : decode prog_1_method_23_code 54 = .ok (.iload 8, 2) := by decide +kernel
theorem nd_N_evaluate_56 : decode prog_1_method_23_code 56 = .ok (.tableswitch 157 0 5 #[40, 52, 52, 112, 128, 150], 40) := by decide +kernel
theorem nd_N_evaluate_96 : decode prog_1_method_23_code 96 = .ok (.aload_n 3, 1) := by decide +kernel
theorem nd_N_evaluate_97 : decode prog_1_method_23_code 97 = .ok (.iload 4, 2) := by decide +kernel
theorem nd_N_evaluate_99 : decode prog_1_method_23_code 99 = .ok (.iinc 4 1, 3) := by decide +kernel
theorem nd_N_evaluate_102 : decode prog_1_method_23_code 102 = .ok (.iload 7, 2) := by decide +kernel
theorem nd_N_evaluate_104 : decode prog_1_method_23_code 104 = .ok (.iastore, 1) := by decide +kernel
theorem nd_N_evaluate_105 : decode prog_1_method_23_code 105 = .ok (.goto 132, 3) := by decide +kernel
theorem nd_N_evaluate_108 : decode prog_1_method_23_code 108 = .ok (.iload 8, 2) := by decide +kernel
theorem nd_N_evaluate_110 : decode prog_1_method_23_code 110 = .ok (.iconst 1, 1) := by decide +kernel
theorem nd_N_evaluate_111 : decode prog_1_method_23_code 111 = .ok (.if_icmp .ne 8, 3) := by decide +kernel
theorem nd_N_evaluate_114 : decode prog_1_method_23_code 114 = .ok (.iload 7, 2) := by decide +kernel
theorem nd_N_evaluate_116 : decode prog_1_method_23_code 116 = .ok (.goto 15, 3) := by decide +kernel
theorem nd_N_evaluate_119 : decode prog_1_method_23_code 119 = .ok (.aload_n 3, 1) := by decide +kernel
theorem nd_N_evaluate_120 : decode prog_1_method_23_code 120 = .ok (.iinc 4 (-1), 3) := by decide +kernel
theorem nd_N_evaluate_123 : decode prog_1_method_23_code 123 = .ok (.iload 4, 2) := by decide +kernel
theorem nd_N_evaluate_125 : decode prog_1_method_23_code 125 = .ok (.iaload, 1) := by decide +kernel
theorem nd_N_evaluate_126 : decode prog_1_method_23_code 126 = .ok (.bipush 12, 2) := by decide +kernel
theorem nd_N_evaluate_128 : decode prog_1_method_23_code 128 = .ok (.invokestatic 224, 3) := by decide +kernel
theorem nd_N_evaluate_131 : decode prog_1_method_23_code 131 = .ok (.istore 9, 2) := by decide +kernel
theorem nd_N_evaluate_133 : decode prog_1_method_23_code 133 = .ok (.aload_n 0, 1) := by decide +kernel
theorem nd_N_evaluate_134 : decode prog_1_method_23_code 134 = .ok (.aload_n 1, 1) := by decide +kernel
theorem nd_N_evaluate_135 : decode prog_1_method_23_code 135 = .ok (.iload 9, 2) := by decide +kernel
theorem nd_N_evaluate_137 : decode prog_1_method_23_code 137 = .ok (.invokevirtual 227, 3) := by decide +kernel
theorem nd_N_evaluate_140 : decode prog_1_method_23_code 140 = .ok (.lstore 10, 2) := by decide +kernel
theorem nd_N_evaluate_142 : decode prog_1_method_23_code 142 = .ok (.lload 10, 2) := by decide +kernel
theorem nd_N_evaluate_144 : decode prog_1_method_23_code 144 = .ok (.ldc2_w 231, 3) := by decide +kernel
theorem nd_N_evaluate_147 : decode prog_1_method_23_code 147 = .ok (.lcmp, 1) := by decide +kernel
theorem nd_N_evaluate_148 : decode prog_1_method_23_code 148 = .ok (.ifCond .ne 7, 3) := by decide +kernel
theorem nd_N_evaluate_151 : decode prog_1_method_23_code 151 = .ok (.ldc2_w 231, 3) := by decide +kernel
theorem nd_N_evaluate_154 : decode prog_1_method_23_code 154 = .ok (.lreturn, 1) := by decide +kernel
theorem nd_N_evaluate_155 : decode prog_1_method_23_code 155 = .ok (.aload_n 3, 1) := by decide +kernel
theorem nd_N_evaluate_156 : decode prog_1_method_23_code 156 = .ok (.iload 4, 2) := by decide +kernel
theorem nd_N_evaluate_158 : decode prog_1_method_23_code 158 = .ok (.iinc 4 1, 3) := by decide +kernel
theorem nd_N_evaluate_161 : decode prog_1_method_23_code 161 = .ok (.lload 10, 2) := by decide +kernel
theorem nd_N_evaluate_163 : decode prog_1_method_23_code 163 = .ok (.l2i, 1) := by decide +kernel
theorem nd_N_evaluate_164 : decode prog_1_method_23_code 164 = .ok (.iastore, 1) := by decide +kernel
theorem nd_N_evaluate_165 : decode prog_1_method_23_code 165 = .ok (.goto 72, 3) := by decide +kernel
theorem nd_N_evaluate_168 : decode prog_1_method_23_code 168 = .ok (.aload_n 3, 1) := by decide +kernel
theorem nd_N_evaluate_169 : decode prog_1_method_23_code 169 = .ok (.iload 4, 2) := by decide +kernel
theorem nd_N_evaluate_171 : decode prog_1_method_23_code 171 = .ok (.iconst 1, 1) := by decide +kernel
theorem nd_N_evaluate_172 : decode prog_1_method_23_code 172 = .ok (.isub, 1) := by decide +kernel
theorem nd_N_evaluate_173 : decode prog_1_method_23_code 173 = .ok (.aload_n 3, 1) := by decide +kernel
theorem nd_N_evaluate_174 : decode prog_1_method_23_code 174 = .ok (.iload 4, 2) := by decide +kernel
theorem nd_N_evaluate_176 : decode prog_1_method_23_code 176 = .ok (.iconst 1, 1) := by decide +kernel
theorem nd_N_evaluate_177 : decode prog_1_method_23_code 177 = .ok (.isub, 1) := by decide +kernel
theorem nd_N_evaluate_178 : decode prog_1_method_23_code 178 = .ok (.iaload, 1) := by decide +kernel
theorem nd_N_evaluate_179 : decode prog_1_method_23_code 179 = .ok (.ineg, 1) := by decide +kernel
theorem nd_N_evaluate_180 : decode prog_1_method_23_code 180 = .ok (.iastore, 1) := by decide +kernel
theorem nd_N_evaluate_181 : decode prog_1_method_23_code 181 = .ok (.goto 56, 3) := by decide +kernel
theorem nd_N_evaluate_184 : decode prog_1_method_23_code 184 = .ok (.aload_n 3, 1) := by decide +kernel
theorem nd_N_evaluate_185 : decode prog_1_method_23_code 185 = .ok (.iinc 4 (-1), 3) := by decide +kernel
theorem nd_N_evaluate_188 : decode prog_1_method_23_code 188 = .ok (.iload 4, 2) := by decide +kernel
theorem nd_N_evaluate_190 : decode prog_1_method_23_code 190 = .ok (.iaload, 1) := by decide +kernel
theorem nd_N_evaluate_191 : decode prog_1_method_23_code 191 = .ok (.ifCond .ne 8, 3) := by decide +kernel
theorem nd_N_evaluate_194 : decode prog_1_method_23_code 194 = .ok (.iload 7, 2) := by decide +kernel
theorem nd_N_evaluate_196 : decode prog_1_method_23_code 196 = .ok (.goto 5, 3) := by decide +kernel
theorem nd_N_evaluate_199 : decode prog_1_method_23_code 199 = .ok (.iload 5, 2) := by decide +kernel
theorem nd_N_evaluate_201 : decode prog_1_method_23_code 201 = .ok (.istore 5, 2) := by decide +kernel
theorem nd_N_evaluate_203 : decode prog_1_method_23_code 203 = .ok (.goto 34, 3) := by decide +kernel
theorem nd_N_evaluate_206 : decode prog_1_method_23_code 206 = .ok (.iload 7, 2) := by decide +kernel
theorem nd_N_evaluate_208 : decode prog_1_method_23_code 208 = .ok (.istore 5, 2) := by decide +kernel
theorem nd_N_evaluate_210 : decode prog_1_method_23_code 210 = .ok (.goto 27, 3) := by decide +kernel
theorem nd_N_evaluate_213 : decode prog_1_method_23_code 213 = .ok (.iinc 4 (-1), 3) := by decide +kernel
theorem nd_N_evaluate_216 : decode prog_1_method_23_code 216 = .ok (.aload_n 3, 1) := by decide +kernel
theorem nd_N_evaluate_217 : decode prog_1_method_23_code 217 = .ok (.iload 4, 2) := by decide +kernel
theorem nd_N_evaluate_219 : decode prog_1_method_23_code 219 = .ok (.iconst 1, 1) := by decide +kernel
theorem nd_N_evaluate_220 : decode prog_1_method_23_code 220 = .ok (.isub, 1) := by decide +kernel
theorem nd_N_evaluate_221 : decode prog_1_method_23_code 221 = .ok (.iload 8, 2) := by decide +kernel
theorem nd_N_evaluate_223 : decode prog_1_method_23_code 223 = .ok (.aload_n 3, 1) := by decide +kernel
theorem nd_N_evaluate_224 : decode prog_1_method_23_code 224 = .ok (.iload 4, 2) := by decide +kernel
theorem nd_N_evaluate_226 : decode prog_1_method_23_code 226 = .ok (.iconst 1, 1) := by decide +kernel
theorem nd_N_evaluate_227 : decode prog_1_method_23_code 227 = .ok (.isub, 1) := by decide +kernel
theorem nd_N_evaluate_228 : decode prog_1_method_23_code 228 = .ok (.iaload, 1) := by decide +kernel
theorem nd_N_evaluate_229 : decode prog_1_method_23_code 229 = .ok (.aload_n 3, 1) := by decide +kernel
theorem nd_N_evaluate_230 : decode prog_1_method_23_code 230 = .ok (.iload 4, 2) := by decide +kernel
theorem nd_N_evaluate_232 : decode prog_1_method_23_code 232 = .ok (.iaload, 1) := by decide +kernel
theorem nd_N_evaluate_233 : decode prog_1_method_23_code 233 = .ok (.invokestatic 233, 3) := by decide +kernel
theorem nd_N_evaluate_236 : decode prog_1_method_23_code 236 = .ok (.iastore, 1) := by decide +kernel
theorem nd_N_evaluate_237 : decode prog_1_method_23_code 237 = .ok (.iinc 6 1, 3) := by decide +kernel
theorem nd_N_evaluate_240 : decode prog_1_method_23_code 240 = .ok (.goto (-221), 3) := by decide +kernel
theorem nd_N_evaluate_243 : decode prog_1_method_23_code 243 = .ok (.aload_n 3, 1) := by decide +kernel
theorem nd_N_evaluate_244 : decode prog_1_method_23_code 244 = .ok (.iconst 0, 1) := by decide +kernel
theorem nd_N_evaluate_245 : decode prog_1_method_23_code 245 = .ok (.iaload, 1) := by decide +kernel
theorem nd_N_evaluate_246 : decode prog_1_method_23_code 246 = .ok (.i2l, 1) := by decide +kernel
theorem nd_N_evaluate_247 : decode prog_1_method_23_code 247 = .ok (.lreturn, 1) := by decide +kernel
theorem nd_N_combine_0 : decode prog_1_method_24_code 0 = .ok (.iload_n 0, 1) := by decide +kernel
theorem nd_N_combine_1 : decode prog_1_method_24_code 1 = .ok (.tableswitch 54 6 9 #[31, 35, 39, 43], 31) := by decide +kernel
theorem nd_N_combine_32 : decode prog_1_method_24_code 32 = .ok (.iload_n 1, 1) := by decide +kernel
theorem nd_N_combine_33 : decode prog_1_method_24_code 33 = .ok (.iload_n 2, 1) := by decide +kernel
theorem nd_N_combine_34 : decode prog_1_method_24_code 34 = .ok (.iadd, 1) := by decide +kernel
theorem nd_N_combine_35 : decode prog_1_method_24_code 35 = .ok (.ireturn, 1) := by decide +kernel
theorem nd_N_combine_36 : decode prog_1_method_24_code 36 = .ok (.iload_n 1, 1) := by decide +kernel
theorem nd_N_combine_37 : decode prog_1_method_24_code 37 = .ok (.iload_n 2, 1) := by decide +kernel
theorem nd_N_combine_38 : decode prog_1_method_24_code 38 = .ok (.isub, 1) := by decide +kernel
theorem nd_N_combine_39 : decode prog_1_method_24_code 39 = .ok (.ireturn, 1) := by decide +kernel
theorem nd_N_combine_40 : decode prog_1_method_24_code 40 = .ok (.iload_n 1, 1) := by decide +kernel
theorem nd_N_combine_41 : decode prog_1_method_24_code 41 = .ok (.iload_n 2, 1) := by decide +kernel
theorem nd_N_combine_42 : decode prog_1_method_24_code 42 = .ok (.imul, 1) := by decide +kernel
theorem nd_N_combine_43 : decode prog_1_method_24_code 43 = .ok (.ireturn, 1) := by decide +kernel
theorem nd_N_combine_44 : decode prog_1_method_24_code 44 = .ok (.iload_n 1, 1) := by decide +kernel
theorem nd_N_combine_45 : decode prog_1_method_24_code 45 = .ok (.iload_n 2, 1) := by decide +kernel
theorem nd_N_combine_46 : decode prog_1_method_24_code 46 = .ok (.if_icmp .ge 7, 3) := by decide +kernel
theorem nd_N_combine_49 : decode prog_1_method_24_code 49 = .ok (.iconst 1, 1) := by decide +kernel
theorem nd_N_combine_50 : decode prog_1_method_24_code 50 = .ok (.goto 4, 3) := by decide +kernel
theorem nd_N_combine_53 : decode prog_1_method_24_code 53 = .ok (.iconst 0, 1) := by decide +kernel
theorem nd_N_combine_54 : decode prog_1_method_24_code 54 = .ok (.ireturn, 1) := by decide +kernel
theorem nd_N_combine_55 : decode prog_1_method_24_code 55 = .ok (.iload_n 1, 1) := by decide +kernel
theorem nd_N_combine_56 : decode prog_1_method_24_code 56 = .ok (.iload_n 2, 1) := by decide +kernel
theorem nd_N_combine_57 : decode prog_1_method_24_code 57 = .ok (.if_icmp .ne 7, 3) := by decide +kernel
theorem nd_N_combine_60 : decode prog_1_method_24_code 60 = .ok (.iconst 1, 1) := by decide +kernel
theorem nd_N_combine_61 : decode prog_1_method_24_code 61 = .ok (.goto 4, 3) := by decide +kernel
theorem nd_N_combine_64 : decode prog_1_method_24_code 64 = .ok (.iconst 0, 1) := by decide +kernel
theorem nd_N_combine_65 : decode prog_1_method_24_code 65 = .ok (.ireturn, 1) := by decide +kernel
theorem nd_N_giveTo_0 : decode prog_1_method_25_code 0 = .ok (.aload_n 1, 1) := by decide +kernel
theorem nd_N_giveTo_1 : decode prog_1_method_25_code 1 = .ok (.getfield 113, 3) := by decide +kernel
theorem nd_N_giveTo_4 : decode prog_1_method_25_code 4 = .ok (.iload_n 2, 1) := by decide +kernel
theorem nd_N_giveTo_5 : decode prog_1_method_25_code 5 = .ok (.invokevirtual 237, 3) := by decide +kernel
theorem nd_N_giveTo_8 : decode prog_1_method_25_code 8 = .ok (.aload_n 0, 1) := by decide +kernel
theorem nd_N_giveTo_9 : decode prog_1_method_25_code 9 = .ok (.getfield 24, 3) := by decide +kernel
theorem nd_N_giveTo_12 : decode prog_1_method_25_code 12 = .ok (.iload_n 2, 1) := by decide +kernel
theorem nd_N_giveTo_13 : decode prog_1_method_25_code 13 = .ok (.aaload, 1) := by decide +kernel
theorem nd_N_giveTo_14 : decode prog_1_method_25_code 14 = .ok (.astore_n 3, 1) := by decide +kernel
theorem nd_N_giveTo_15 : decode prog_1_method_25_code 15 = .ok (.aload_n 3, 1) := by decide +kernel
theorem nd_N_giveTo_16 : decode prog_1_method_25_code 16 = .ok (.getfield 176, 3) := by decide +kernel
theorem nd_N_giveTo_19 : decode prog_1_method_25_code 19 = .ok (.ifCond .eq 9, 3) := by decide +kernel
theorem nd_N_giveTo_22 : decode prog_1_method_25_code 22 = .ok (.ldc2_w 231, 3) := by decide +kernel
theorem nd_N_giveTo_25 : decode prog_1_method_25_code 25 = .ok (.goto 8, 3) := by decide +kernel
theorem nd_N_giveTo_28 : decode prog_1_method_25_code 28 = .ok (.aload_n 0, 1) := by decide +kernel
theorem nd_N_giveTo_29 : decode prog_1_method_25_code 29 = .ok (.aload_n 3, 1) := by decide +kernel
theorem nd_N_giveTo_30 : decode prog_1_method_25_code 30 = .ok (.invokevirtual 100, 3) := by decide +kernel
theorem nd_N_giveTo_33 : decode prog_1_method_25_code 33 = .ok (.lreturn, 1) := by decide +kernel
theorem nd_N_markUsed_0 : decode prog_1_method_26_code 0 = .ok (.aload_n 0, 1) := by decide +kernel
theorem nd_N_markUsed_1 : decode prog_1_method_26_code 1 = .ok (.dup, 1) := by decide +kernel
theorem nd_N_markUsed_2 : decode prog_1_method_26_code 2 = .ok (.getfield 240, 3) := by decide +kernel
theorem nd_N_markUsed_5 : decode prog_1_method_26_code 5 = .ok (.iconst 1, 1) := by decide +kernel
theorem nd_N_markUsed_6 : decode prog_1_method_26_code 6 = .ok (.iadd, 1) := by decide +kernel
theorem nd_N_markUsed_7 : decode prog_1_method_26_code 7 = .ok (.putfield 240, 3) := by decide +kernel
theorem nd_N_markUsed_10 : decode prog_1_method_26_code 10 = .ok (.aload_n 1, 1) := by decide +kernel
theorem nd_N_markUsed_11 : decode prog_1_method_26_code 11 = .ok (.aload_n 0, 1) := by decide +kernel
theorem nd_N_markUsed_12 : decode prog_1_method_26_code 12 = .ok (.getfield 240, 3) := by decide +kernel
theorem nd_N_markUsed_15 : decode prog_1_method_26_code 15 = .ok (.putfield 243, 3) := by decide +kernel
theorem nd_N_markUsed_18 : decode prog_1_method_26_code 18 = .ok (.return_, 1) := by decide +kernel
theorem nd_N_tally_0 : decode prog_1_method_27_code 0 = .ok (.aload_n 1, 1) := by decide +kernel
theorem nd_N_tally_1 : decode prog_1_method_27_code 1 = .ok (.getfield 107, 3) := by decide +kernel
theorem nd_N_tally_4 : decode prog_1_method_27_code 4 = .ok (.iload_n 2, 1) := by decide +kernel
theorem nd_N_tally_5 : decode prog_1_method_27_code 5 = .ok (.dup2, 1) := by decide +kernel
theorem nd_N_tally_6 : decode prog_1_method_27_code 6 = .ok (.iaload, 1) := by decide +kernel
theorem nd_N_tally_7 : decode prog_1_method_27_code 7 = .ok (.iconst 1, 1) := by decide +kernel
theorem nd_N_tally_8 : decode prog_1_method_27_code 8 = .ok (.iadd, 1) := by decide +kernel
theorem nd_N_tally_9 : decode prog_1_method_27_code 9 = .ok (.iastore, 1) := by decide +kernel
theorem nd_N_tally_10 : decode prog_1_method_27_code 10 = .ok (.aload_n 0, 1) := by decide +kernel
theorem nd_N_tally_11 : decode prog_1_method_27_code 11 = .ok (.getfield 33, 3) := by decide +kernel
theorem nd_N_tally_14 : decode prog_1_method_27_code 14 = .ok (.iload_n 2, 1) := by decide +kernel
theorem nd_N_tally_15 : decode prog_1_method_27_code 15 = .ok (.dup2, 1) := by decide +kernel
theorem nd_N_tally_16 : decode prog_1_method_27_code 16 = .ok (.iaload, 1) := by decide +kernel
theorem nd_N_tally_17 : decode prog_1_method_27_code 17 = .ok (.iconst 1, 1) := by decide +kernel
theorem nd_N_tally_18 : decode prog_1_method_27_code 18 = .ok (.iadd, 1) := by decide +kernel
theorem nd_N_tally_19 : decode prog_1_method_27_code 19 = .ok (.iastore, 1) := by decide +kernel
theorem nd_N_tally_20 : decode prog_1_method_27_code 20 = .ok (.return_, 1) := by decide +kernel
theorem nd_N_valuesInNotes_0 : decode prog_1_method_28_code 0 = .ok (.iconst 0, 1) := by decide +kernel
theorem nd_N_valuesInNotes_1 : decode prog_1_method_28_code 1 = .ok (.istore_n 1, 1) := by decide +kernel
theorem nd_N_valuesInNotes_2 : decode prog_1_method_28_code 2 = .ok (.iconst 0, 1) := by decide +kernel
theorem nd_N_valuesInNotes_3 : decode prog_1_method_28_code 3 = .ok (.istore_n 2, 1) := by decide +kernel
theorem nd_N_valuesInNotes_4 : decode prog_1_method_28_code 4 = .ok (.iload_n 2, 1) := by decide +kernel
theorem nd_N_valuesInNotes_5 : decode prog_1_method_28_code 5 = .ok (.bipush 12, 2) := by decide +kernel
theorem nd_N_valuesInNotes_7 : decode prog_1_method_28_code 7 = .ok (.if_icmp .ge 32, 3) := by decide +kernel
theorem nd_N_valuesInNotes_10 : decode prog_1_method_28_code 10 = .ok (.iload_n 1, 1) := by decide +kernel
theorem nd_N_valuesInNotes_11 : decode prog_1_method_28_code 11 = .ok (.aload_n 0, 1) := by decide +kernel
theorem nd_N_valuesInNotes_12 : decode prog_1_method_28_code 12 = .ok (.getfield 24, 3) := by decide +kernel
theorem nd_N_valuesInNotes_15 : decode prog_1_method_28_code 15 = .ok (.iload_n 2, 1) := by decide +kernel
theorem nd_N_valuesInNotes_16 : decode prog_1_method_28_code 16 = .ok (.aaload, 1) := by decide +kernel
theorem nd_N_valuesInNotes_17 : decode prog_1_method_28_code 17 = .ok (.getfield 113, 3) := by decide +kernel
theorem nd_N_valuesInNotes_20 : decode prog_1_method_28_code 20 = .ok (.getfield 128, 3) := by decide +kernel
theorem nd_N_valuesInNotes_23 : decode prog_1_method_28_code 23 = .ok (.ifCond .eq 7, 3) := by decide +kernel
theorem nd_N_valuesInNotes_26 : decode prog_1_method_28_code 26 = .ok (.iconst 1, 1) := by decide +kernel
theorem nd_N_valuesInNotes_27 : decode prog_1_method_28_code 27 = .ok (.goto 4, 3) := by decide +kernel
theorem nd_N_valuesInNotes_30 : decode prog_1_method_28_code 30 = .ok (.iconst 0, 1) := by decide +kernel
theorem nd_N_valuesInNotes_31 : decode prog_1_method_28_code 31 = .ok (.iadd, 1) := by decide +kernel
theorem nd_N_valuesInNotes_32 : decode prog_1_method_28_code 32 = .ok (.istore_n 1, 1) := by decide +kernel
theorem nd_N_valuesInNotes_33 : decode prog_1_method_28_code 33 = .ok (.iinc 2 1, 3) := by decide +kernel
theorem nd_N_valuesInNotes_36 : decode prog_1_method_28_code 36 = .ok (.goto (-32), 3) := by decide +kernel
theorem nd_N_valuesInNotes_39 : decode prog_1_method_28_code 39 = .ok (.iload_n 1, 1) := by decide +kernel
theorem nd_N_valuesInNotes_40 : decode prog_1_method_28_code 40 = .ok (.ireturn, 1) := by decide +kernel
theorem nd_N_dropValuesBeyondKept_0 : decode prog_1_method_29_code 0 = .ok (.aload_n 0, 1) := by decide +kernel
theorem nd_N_dropValuesBeyondKept_1 : decode prog_1_method_29_code 1 = .ok (.invokevirtual 134, 3) := by decide +kernel
theorem nd_N_dropValuesBeyondKept_4 : decode prog_1_method_29_code 4 = .ok (.istore_n 1, 1) := by decide +kernel
theorem nd_N_dropValuesBeyondKept_5 : decode prog_1_method_29_code 5 = .ok (.iload_n 1, 1) := by decide +kernel
theorem nd_N_dropValuesBeyondKept_6 : decode prog_1_method_29_code 6 = .ok (.aload_n 0, 1) := by decide +kernel
theorem nd_N_dropValuesBeyondKept_7 : decode prog_1_method_29_code 7 = .ok (.getfield 18, 3) := by decide +kernel
theorem nd_N_dropValuesBeyondKept_10 : decode prog_1_method_29_code 10 = .ok (.if_icmp .le 13, 3) := by decide +kernel
theorem nd_N_dropValuesBeyondKept_13 : decode prog_1_method_29_code 13 = .ok (.aload_n 0, 1) := by decide +kernel
theorem nd_N_dropValuesBeyondKept_14 : decode prog_1_method_29_code 14 = .ok (.invokevirtual 246, 3) := by decide +kernel
theorem nd_N_dropValuesBeyondKept_17 : decode prog_1_method_29_code 17 = .ok (.iinc 1 (-1), 3) := by decide +kernel
theorem nd_N_dropValuesBeyondKept_20 : decode prog_1_method_29_code 20 = .ok (.goto (-15), 3) := by decide +kernel
theorem nd_N_dropValuesBeyondKept_23 : decode prog_1_method_29_code 23 = .ok (.return_, 1) := by decide +kernel
theorem nd_N_dropLongestUnused_0 : decode prog_1_method_30_code 0 = .ok (.aconst_null, 1) := by decide +kernel
theorem nd_N_dropLongestUnused_1 : decode prog_1_method_30_code 1 = .ok (.astore_n 1, 1) := by decide +kernel
theorem nd_N_dropLongestUnused_2 : decode prog_1_method_30_code 2 = .ok (.iconst 0, 1) := by decide +kernel
theorem nd_N_dropLongestUnused_3 : decode prog_1_method_30_code 3 = .ok (.istore_n 2, 1) := by decide +kernel
theorem nd_N_dropLongestUnused_4 : decode prog_1_method_30_code 4 = .ok (.iload_n 2, 1) := by decide +kernel
theorem nd_N_dropLongestUnused_5 : decode prog_1_method_30_code 5 = .ok (.bipush 12, 2) := by decide +kernel
theorem nd_N_dropLongestUnused_7 : decode prog_1_method_30_code 7 = .ok (.if_icmp .ge 43, 3) := by decide +kernel
theorem nd_N_dropLongestUnused_10 : decode prog_1_method_30_code 10 = .ok (.aload_n 0, 1) := by decide +kernel
theorem nd_N_dropLongestUnused_11 : decode prog_1_method_30_code 11 = .ok (.getfield 24, 3) := by decide +kernel
theorem nd_N_dropLongestUnused_14 : decode prog_1_method_30_code 14 = .ok (.iload_n 2, 1) := by decide +kernel
theorem nd_N_dropLongestUnused_15 : decode prog_1_method_30_code 15 = .ok (.aaload, 1) := by decide +kernel
theorem nd_N_dropLongestUnused_16 : decode prog_1_method_30_code 16 = .ok (.astore_n 3, 1) := by decide +kernel
theorem nd_N_dropLongestUnused_17 : decode prog_1_method_30_code 17 = .ok (.aload_n 3, 1) := by decide +kernel
theorem nd_N_dropLongestUnused_18 : decode prog_1_method_30_code 18 = .ok (.getfield 113, 3) := by decide +kernel
theorem nd_N_dropLongestUnused_21 : decode prog_1_method_30_code 21 = .ok (.getfield 128, 3) := by decide +kernel
theorem nd_N_dropLongestUnused_24 : decode prog_1_method_30_code 24 = .ok (.ifCond .eq 20, 3) := by decide +kernel
theorem nd_N_dropLongestUnused_27 : decode prog_1_method_30_code 27 = .ok (.aload_n 1, 1) := by decide +kernel
theorem nd_N_dropLongestUnused_28 : decode prog_1_method_30_code 28 = .ok (.ifnull 14, 3) := by decide +kernel
theorem nd_N_dropLongestUnused_31 : decode prog_1_method_30_code 31 = .ok (.aload_n 3, 1) := by decide +kernel
theorem nd_N_dropLongestUnused_32 : decode prog_1_method_30_code 32 = .ok (.getfield 243, 3) := by decide +kernel
theorem nd_N_dropLongestUnused_35 : decode prog_1_method_30_code 35 = .ok (.aload_n 1, 1) := by decide +kernel
theorem nd_N_dropLongestUnused_36 : decode prog_1_method_30_code 36 = .ok (.getfield 243, 3) := by decide +kernel
theorem nd_N_dropLongestUnused_39 : decode prog_1_method_30_code 39 = .ok (.if_icmp .ge 5, 3) := by decide +kernel
theorem nd_N_dropLongestUnused_42 : decode prog_1_method_30_code 42 = .ok (.aload_n 3, 1) := by decide +kernel
theorem nd_N_dropLongestUnused_43 : decode prog_1_method_30_code 43 = .ok (.astore_n 1, 1) := by decide +kernel
theorem nd_N_dropLongestUnused_44 : decode prog_1_method_30_code 44 = .ok (.iinc 2 1, 3) := by decide +kernel
theorem nd_N_dropLongestUnused_47 : decode prog_1_method_30_code 47 = .ok (.goto (-43), 3) := by decide +kernel
theorem nd_N_dropLongestUnused_50 : decode prog_1_method_30_code 50 = .ok (.aload_n 1, 1) := by decide +kernel
theorem nd_N_dropLongestUnused_51 : decode prog_1_method_30_code 51 = .ok (.ifnull 11, 3) := by decide +kernel
theorem nd_N_dropLongestUnused_54 : decode prog_1_method_30_code 54 = .ok (.aload_n 1, 1) := by decide +kernel
theorem nd_N_dropLongestUnused_55 : decode prog_1_method_30_code 55 = .ok (.getfield 113, 3) := by decide +kernel
theorem nd_N_dropLongestUnused_58 : decode prog_1_method_30_code 58 = .ok (.iconst 0, 1) := by decide +kernel
theorem nd_N_dropLongestUnused_59 : decode prog_1_method_30_code 59 = .ok (.putfield 128, 3) := by decide +kernel
theorem nd_N_dropLongestUnused_62 : decode prog_1_method_30_code 62 = .ok (.return_, 1) := by decide +kernel
