theorem d_H_hasContents_0 : decode prog_11_method_2_code 0 = .ok (.aload_n 0, 1) := by decide +kernel
theorem d_H_hasContents_1 : decode prog_11_method_2_code 1 = .ok (.getfield 9, 3) := by decide +kernel
theorem d_H_hasContents_4 : decode prog_11_method_2_code 4 = .ok (.iconst 1, 1) := by decide +kernel
theorem d_H_hasContents_5 : decode prog_11_method_2_code 5 = .ok (.if_icmp .eq 11, 3) := by decide +kernel
theorem d_H_hasContents_8 : decode prog_11_method_2_code 8 = .ok (.aload_n 0, 1) := by decide +kernel
theorem d_H_hasContents_9 : decode prog_11_method_2_code 9 = .ok (.getfield 9, 3) := by decide +kernel
theorem d_H_hasContents_12 : decode prog_11_method_2_code 12 = .ok (.iconst 3, 1) := by decide +kernel
theorem d_H_hasContents_13 : decode prog_11_method_2_code 13 = .ok (.if_icmp .ne 7, 3) := by decide +kernel
theorem d_H_hasContents_16 : decode prog_11_method_2_code 16 = .ok (.iconst 1, 1) := by decide +kernel
theorem d_H_hasContents_17 : decode prog_11_method_2_code 17 = .ok (.goto 4, 3) := by decide +kernel
theorem d_H_hasContents_20 : decode prog_11_method_2_code 20 = .ok (.iconst 0, 1) := by decide +kernel
theorem d_H_hasContents_21 : decode prog_11_method_2_code 21 = .ok (.ireturn, 1) := by decide +kernel
theorem d_S_latest_0 : decode prog_1_method_18_code 0 = .ok (.aload_n 0, 1) := by decide +kernel
theorem d_S_latest_1 : decode prog_1_method_18_code 1 = .ok (.iload_n 1, 1) := by decide +kernel
theorem d_S_latest_2 : decode prog_1_method_18_code 2 = .ok (.iload_n 3, 1) := by decide +kernel
theorem d_S_latest_3 : decode prog_1_method_18_code 3 = .ok (.invokevirtual 198, 3) := by decide +kernel
theorem d_S_latest_6 : decode prog_1_method_18_code 6 = .ok (.astore 4, 2) := by decide +kernel
theorem d_S_latest_8 : decode prog_1_method_18_code 8 = .ok (.aload 4, 2) := by decide +kernel
theorem d_S_latest_10 : decode prog_1_method_18_code 10 = .ok (.ifnull 10, 3) := by decide +kernel
theorem d_S_latest_13 : decode prog_1_method_18_code 13 = .ok (.iload_n 2, 1) := by decide +kernel
theorem d_S_latest_14 : decode prog_1_method_18_code 14 = .ok (.invokestatic 117, 3) := by decide +kernel
theorem d_S_latest_17 : decode prog_1_method_18_code 17 = .ok (.ifCond .ne 7, 3) := by decide +kernel
theorem d_S_latest_20 : decode prog_1_method_18_code 20 = .ok (.iconst (-1), 1) := by decide +kernel
theorem d_S_latest_21 : decode prog_1_method_18_code 21 = .ok (.goto 10, 3) := by decide +kernel
theorem d_S_latest_24 : decode prog_1_method_18_code 24 = .ok (.aload 4, 2) := by decide +kernel
theorem d_S_latest_26 : decode prog_1_method_18_code 26 = .ok (.getfield 208, 3) := by decide +kernel
theorem d_S_latest_29 : decode prog_1_method_18_code 29 = .ok (.iload_n 2, 1) := by decide +kernel
theorem d_S_latest_30 : decode prog_1_method_18_code 30 = .ok (.iaload, 1) := by decide +kernel
theorem d_S_latest_31 : decode prog_1_method_18_code 31 = .ok (.ireturn, 1) := by decide +kernel
theorem d_S_answer_0 : decode prog_1_method_19_code 0 = .ok (.aload_n 0, 1) := by decide +kernel
theorem d_S_answer_1 : decode prog_1_method_19_code 1 = .ok (.iload_n 1, 1) := by decide +kernel
theorem d_S_answer_2 : decode prog_1_method_19_code 2 = .ok (.iload_n 3, 1) := by decide +kernel
theorem d_S_answer_3 : decode prog_1_method_19_code 3 = .ok (.invokevirtual 198, 3) := by decide +kernel
theorem d_S_answer_6 : decode prog_1_method_19_code 6 = .ok (.astore 4, 2) := by decide +kernel
theorem d_S_answer_8 : decode prog_1_method_19_code 8 = .ok (.aload 4, 2) := by decide +kernel
theorem d_S_answer_10 : decode prog_1_method_19_code 10 = .ok (.ifnull 10, 3) := by decide +kernel
theorem d_S_answer_13 : decode prog_1_method_19_code 13 = .ok (.iload_n 2, 1) := by decide +kernel
theorem d_S_answer_14 : decode prog_1_method_19_code 14 = .ok (.invokestatic 117, 3) := by decide +kernel
theorem d_S_answer_17 : decode prog_1_method_19_code 17 = .ok (.ifCond .ne 7, 3) := by decide +kernel
theorem d_S_answer_20 : decode prog_1_method_19_code 20 = .ok (.iconst (-1), 1) := by decide +kernel
theorem d_S_answer_21 : decode prog_1_method_19_code 21 = .ok (.goto 10, 3) := by decide +kernel
theorem d_S_answer_24 : decode prog_1_method_19_code 24 = .ok (.aload 4, 2) := by decide +kernel
theorem d_S_answer_26 : decode prog_1_method_19_code 26 = .ok (.getfield 211, 3) := by decide +kernel
theorem d_S_answer_29 : decode prog_1_method_19_code 29 = .ok (.iload_n 2, 1) := by decide +kernel
theorem d_S_answer_30 : decode prog_1_method_19_code 30 = .ok (.iaload, 1) := by decide +kernel
theorem d_S_answer_31 : decode prog_1_method_19_code 31 = .ok (.ireturn, 1) := by decide +kernel
theorem d_M_init_0 : decode prog_14_method_1_code 0 = .ok (.aload_n 0, 1) := by decide +kernel
theorem d_M_init_1 : decode prog_14_method_1_code 1 = .ok (.invokespecial 1, 3) := by decide +kernel
theorem d_M_init_4 : decode prog_14_method_1_code 4 = .ok (.aload_n 0, 1) := by decide +kernel
theorem d_M_init_5 : decode prog_14_method_1_code 5 = .ok (.bipush 12, 2) := by decide +kernel
theorem d_M_init_7 : decode prog_14_method_1_code 7 = .ok (.newarray .boolean, 2) := by decide +kernel
theorem d_M_init_9 : decode prog_14_method_1_code 9 = .ok (.putfield 7, 3) := by decide +kernel
theorem d_M_init_12 : decode prog_14_method_1_code 12 = .ok (.aload_n 0, 1) := by decide +kernel
theorem d_M_init_13 : decode prog_14_method_1_code 13 = .ok (.bipush 12, 2) := by decide +kernel
theorem d_M_init_15 : decode prog_14_method_1_code 15 = .ok (.newarray .boolean, 2) := by decide +kernel
theorem d_M_init_17 : decode prog_14_method_1_code 17 = .ok (.putfield 13, 3) := by decide +kernel
theorem d_M_init_20 : decode prog_14_method_1_code 20 = .ok (.aload_n 0, 1) := by decide +kernel
theorem d_M_init_21 : decode prog_14_method_1_code 21 = .ok (.bipush 12, 2) := by decide +kernel
theorem d_M_init_23 : decode prog_14_method_1_code 23 = .ok (.newarray .int, 2) := by decide +kernel
theorem d_M_init_25 : decode prog_14_method_1_code 25 = .ok (.putfield 16, 3) := by decide +kernel
theorem d_M_init_28 : decode prog_14_method_1_code 28 = .ok (.aload_n 0, 1) := by decide +kernel
theorem d_M_init_29 : decode prog_14_method_1_code 29 = .ok (.bipush 12, 2) := by decide +kernel
theorem d_M_init_31 : decode prog_14_method_1_code 31 = .ok (.newarray .int, 2) := by decide +kernel
theorem d_M_init_33 : decode prog_14_method_1_code 33 = .ok (.putfield 20, 3) := by decide +kernel
theorem d_M_init_36 : decode prog_14_method_1_code 36 = .ok (.aload_n 0, 1) := by decide +kernel
theorem d_M_init_37 : decode prog_14_method_1_code 37 = .ok (.bipush 12, 2) := by decide +kernel
theorem d_M_init_39 : decode prog_14_method_1_code 39 = .ok (.newarray .int, 2) := by decide +kernel
theorem d_M_init_41 : decode prog_14_method_1_code 41 = .ok (.putfield 23, 3) := by decide +kernel
theorem d_M_init_44 : decode prog_14_method_1_code 44 = .ok (.aload_n 0, 1) := by decide +kernel
theorem d_M_init_45 : decode prog_14_method_1_code 45 = .ok (.sipush 14400, 3) := by decide +kernel
theorem d_M_init_48 : decode prog_14_method_1_code 48 = .ok (.newarray .int, 2) := by decide +kernel
theorem d_M_init_50 : decode prog_14_method_1_code 50 = .ok (.putfield 26, 3) := by decide +kernel
theorem d_M_init_53 : decode prog_14_method_1_code 53 = .ok (.aload_n 0, 1) := by decide +kernel
theorem d_M_init_54 : decode prog_14_method_1_code 54 = .ok (.bipush 15, 2) := by decide +kernel
theorem d_M_init_56 : decode prog_14_method_1_code 56 = .ok (.newarray .int, 2) := by decide +kernel
theorem d_M_init_58 : decode prog_14_method_1_code 58 = .ok (.putfield 29, 3) := by decide +kernel
theorem d_M_init_61 : decode prog_14_method_1_code 61 = .ok (.aload_n 0, 1) := by decide +kernel
theorem d_M_init_62 : decode prog_14_method_1_code 62 = .ok (.bipush 16, 2) := by decide +kernel
theorem d_M_init_64 : decode prog_14_method_1_code 64 = .ok (.newarray .int, 2) := by decide +kernel
theorem d_M_init_66 : decode prog_14_method_1_code 66 = .ok (.putfield 32, 3) := by decide +kernel
theorem d_M_init_69 : decode prog_14_method_1_code 69 = .ok (.aload_n 0, 1) := by decide +kernel
theorem d_M_init_70 : decode prog_14_method_1_code 70 = .ok (.sipush 128, 3) := by decide +kernel
theorem d_M_init_73 : decode prog_14_method_1_code 73 = .ok (.newarray .int, 2) := by decide +kernel
theorem d_M_init_75 : decode prog_14_method_1_code 75 = .ok (.putfield 35, 3) := by decide +kernel
theorem d_M_init_78 : decode prog_14_method_1_code 78 = .ok (.aload_n 0, 1) := by decide +kernel
theorem d_M_init_79 : decode prog_14_method_1_code 79 = .ok (.bipush 8, 2) := by decide +kernel
theorem d_M_init_81 : decode prog_14_method_1_code 81 = .ok (.newarray .int, 2) := by decide +kernel
theorem d_M_init_83 : decode prog_14_method_1_code 83 = .ok (.putfield 38, 3) := by decide +kernel
theorem d_M_init_86 : decode prog_14_method_1_code 86 = .ok (.aload_n 0, 1) := by decide +kernel
theorem d_M_init_87 : decode prog_14_method_1_code 87 = .ok (.bipush 8, 2) := by decide +kernel
theorem d_M_init_89 : decode prog_14_method_1_code 89 = .ok (.newarray .int, 2) := by decide +kernel
theorem d_M_init_91 : decode prog_14_method_1_code 91 = .ok (.putfield 41, 3) := by decide +kernel
theorem d_M_init_94 : decode prog_14_method_1_code 94 = .ok (.aload_n 0, 1) := by decide +kernel
theorem d_M_init_95 : decode prog_14_method_1_code 95 = .ok (.bipush 64, 2) := by decide +kernel
theorem d_M_init_97 : decode prog_14_method_1_code 97 = .ok (.newarray .int, 2) := by decide +kernel
theorem d_M_init_99 : decode prog_14_method_1_code 99 = .ok (.putfield 44, 3) := by decide +kernel
theorem d_M_init_102 : decode prog_14_method_1_code 102 = .ok (.return_, 1) := by decide +kernel
theorem d_M_crash_0 : decode prog_14_method_5_code 0 = .ok (.iload_n 1, 1) := by decide +kernel
theorem d_M_crash_1 : decode prog_14_method_5_code 1 = .ok (.bipush 12, 2) := by decide +kernel
theorem d_M_crash_3 : decode prog_14_method_5_code 3 = .ok (.invokestatic 47, 3) := by decide +kernel
theorem d_M_crash_6 : decode prog_14_method_5_code 6 = .ok (.ifCond .eq 12, 3) := by decide +kernel
theorem d_M_crash_9 : decode prog_14_method_5_code 9 = .ok (.aload_n 0, 1) := by decide +kernel
theorem d_M_crash_10 : decode prog_14_method_5_code 10 = .ok (.getfield 7, 3) := by decide +kernel
theorem d_M_crash_13 : decode prog_14_method_5_code 13 = .ok (.iload_n 1, 1) := by decide +kernel
theorem d_M_crash_14 : decode prog_14_method_5_code 14 = .ok (.baload, 1) := by decide +kernel
theorem d_M_crash_15 : decode prog_14_method_5_code 15 = .ok (.ifCond .eq 5, 3) := by decide +kernel
theorem d_M_crash_18 : decode prog_14_method_5_code 18 = .ok (.iconst 0, 1) := by decide +kernel
theorem d_M_crash_19 : decode prog_14_method_5_code 19 = .ok (.ireturn, 1) := by decide +kernel
theorem d_M_crash_20 : decode prog_14_method_5_code 20 = .ok (.aload_n 0, 1) := by decide +kernel
theorem d_M_crash_21 : decode prog_14_method_5_code 21 = .ok (.getfield 7, 3) := by decide +kernel
theorem d_M_crash_24 : decode prog_14_method_5_code 24 = .ok (.iload_n 1, 1) := by decide +kernel
theorem d_M_crash_25 : decode prog_14_method_5_code 25 = .ok (.iconst 1, 1) := by decide +kernel
theorem d_M_crash_26 : decode prog_14_method_5_code 26 = .ok (.bastore, 1) := by decide +kernel
theorem d_M_crash_27 : decode prog_14_method_5_code 27 = .ok (.aload_n 0, 1) := by decide +kernel
theorem d_M_crash_28 : decode prog_14_method_5_code 28 = .ok (.getfield 13, 3) := by decide +kernel
theorem d_M_crash_31 : decode prog_14_method_5_code 31 = .ok (.iload_n 1, 1) := by decide +kernel
theorem d_M_crash_32 : decode prog_14_method_5_code 32 = .ok (.iconst 0, 1) := by decide +kernel
theorem d_M_crash_33 : decode prog_14_method_5_code 33 = .ok (.bastore, 1) := by decide +kernel
theorem d_M_crash_34 : decode prog_14_method_5_code 34 = .ok (.iconst 1, 1) := by decide +kernel
theorem d_M_crash_35 : decode prog_14_method_5_code 35 = .ok (.ireturn, 1) := by decide +kernel
theorem d_M_below_0 : decode prog_14_method_2_code 0 = .ok (.iload_n 0, 1) := by decide +kernel
theorem d_M_below_1 : decode prog_14_method_2_code 1 = .ok (.ifCond .lt 12, 3) := by decide +kernel
theorem d_M_below_4 : decode prog_14_method_2_code 4 = .ok (.iload_n 0, 1) := by decide +kernel
theorem d_M_below_5 : decode prog_14_method_2_code 5 = .ok (.iload_n 1, 1) := by decide +kernel
theorem d_M_below_6 : decode prog_14_method_2_code 6 = .ok (.if_icmp .ge 7, 3) := by decide +kernel
theorem d_M_below_9 : decode prog_14_method_2_code 9 = .ok (.iconst 1, 1) := by decide +kernel
theorem d_M_below_10 : decode prog_14_method_2_code 10 = .ok (.goto 4, 3) := by decide +kernel
theorem d_M_below_13 : decode prog_14_method_2_code 13 = .ok (.iconst 0, 1) := by decide +kernel
theorem d_M_below_14 : decode prog_14_method_2_code 14 = .ok (.ireturn, 1) := by decide +kernel
theorem d_M_recover_0 : decode prog_14_method_6_code 0 = .ok (.iload_n 1, 1) := by decide +kernel
theorem d_M_recover_1 : decode prog_14_method_6_code 1 = .ok (.bipush 12, 2) := by decide +kernel
theorem d_M_recover_3 : decode prog_14_method_6_code 3 = .ok (.invokestatic 47, 3) := by decide +kernel
theorem d_M_recover_6 : decode prog_14_method_6_code 6 = .ok (.ifCond .eq 12, 3) := by decide +kernel
theorem d_M_recover_9 : decode prog_14_method_6_code 9 = .ok (.aload_n 0, 1) := by decide +kernel
theorem d_M_recover_10 : decode prog_14_method_6_code 10 = .ok (.getfield 7, 3) := by decide +kernel
theorem d_M_recover_13 : decode prog_14_method_6_code 13 = .ok (.iload_n 1, 1) := by decide +kernel
theorem d_M_recover_14 : decode prog_14_method_6_code 14 = .ok (.baload, 1) := by decide +kernel
theorem d_M_recover_15 : decode prog_14_method_6_code 15 = .ok (.ifCond .ne 5, 3) := by decide +kernel
theorem d_M_recover_18 : decode prog_14_method_6_code 18 = .ok (.iconst 0, 1) := by decide +kernel
theorem d_M_recover_19 : decode prog_14_method_6_code 19 = .ok (.ireturn, 1) := by decide +kernel
theorem d_M_recover_20 : decode prog_14_method_6_code 20 = .ok (.aload_n 0, 1) := by decide +kernel
theorem d_M_recover_21 : decode prog_14_method_6_code 21 = .ok (.getfield 7, 3) := by decide +kernel
theorem d_M_recover_24 : decode prog_14_method_6_code 24 = .ok (.iload_n 1, 1) := by decide +kernel
theorem d_M_recover_25 : decode prog_14_method_6_code 25 = .ok (.iconst 0, 1) := by decide +kernel
theorem d_M_recover_26 : decode prog_14_method_6_code 26 = .ok (.bastore, 1) := by decide +kernel
theorem d_M_recover_27 : decode prog_14_method_6_code 27 = .ok (.iconst 1, 1) := by decide +kernel
theorem d_M_recover_28 : decode prog_14_method_6_code 28 = .ok (.ireturn, 1) := by decide +kernel
theorem d_M_elect_0 : decode prog_14_method_13_code 0 = .ok (.iload_n 1, 1) := by decide +kernel
theorem d_M_elect_1 : decode prog_14_method_13_code 1 = .ok (.bipush 12, 2) := by decide +kernel
theorem d_M_elect_3 : decode prog_14_method_13_code 3 = .ok (.invokestatic 47, 3) := by decide +kernel
theorem d_M_elect_6 : decode prog_14_method_13_code 6 = .ok (.ifCond .eq 12, 3) := by decide +kernel
theorem d_M_elect_9 : decode prog_14_method_13_code 9 = .ok (.aload_n 0, 1) := by decide +kernel
theorem d_M_elect_10 : decode prog_14_method_13_code 10 = .ok (.getfield 7, 3) := by decide +kernel
theorem d_M_elect_13 : decode prog_14_method_13_code 13 = .ok (.iload_n 1, 1) := by decide +kernel
theorem d_M_elect_14 : decode prog_14_method_13_code 14 = .ok (.baload, 1) := by decide +kernel
theorem d_M_elect_15 : decode prog_14_method_13_code 15 = .ok (.ifCond .eq 5, 3) := by decide +kernel
theorem d_M_elect_18 : decode prog_14_method_13_code 18 = .ok (.iconst (-1), 1) := by decide +kernel
theorem d_M_elect_19 : decode prog_14_method_13_code 19 = .ok (.ireturn, 1) := by decide +kernel
theorem d_M_elect_20 : decode prog_14_method_13_code 20 = .ok (.aload_n 0, 1) := by decide +kernel
theorem d_M_elect_21 : decode prog_14_method_13_code 21 = .ok (.getfield 16, 3) := by decide +kernel
theorem d_M_elect_24 : decode prog_14_method_13_code 24 = .ok (.iload_n 1, 1) := by decide +kernel
theorem d_M_elect_25 : decode prog_14_method_13_code 25 = .ok (.iaload, 1) := by decide +kernel
theorem d_M_elect_26 : decode prog_14_method_13_code 26 = .ok (.iconst 1, 1) := by decide +kernel
theorem d_M_elect_27 : decode prog_14_method_13_code 27 = .ok (.iadd, 1) := by decide +kernel
theorem d_M_elect_28 : decode prog_14_method_13_code 28 = .ok (.istore_n 2, 1) := by decide +kernel
theorem d_M_elect_29 : decode prog_14_method_13_code 29 = .ok (.iload_n 2, 1) := by decide +kernel
theorem d_M_elect_30 : decode prog_14_method_13_code 30 = .ok (.iconst 3, 1) := by decide +kernel
theorem d_M_elect_31 : decode prog_14_method_13_code 31 = .ok (.irem, 1) := by decide +kernel
theorem d_M_elect_32 : decode prog_14_method_13_code 32 = .ok (.iload_n 1, 1) := by decide +kernel
theorem d_M_elect_33 : decode prog_14_method_13_code 33 = .ok (.iconst 3, 1) := by decide +kernel
theorem d_M_elect_34 : decode prog_14_method_13_code 34 = .ok (.irem, 1) := by decide +kernel
theorem d_M_elect_35 : decode prog_14_method_13_code 35 = .ok (.if_icmp .eq 9, 3) := by decide +kernel
theorem d_M_elect_38 : decode prog_14_method_13_code 38 = .ok (.iinc 2 1, 3) := by decide +kernel
theorem d_M_elect_41 : decode prog_14_method_13_code 41 = .ok (.goto (-12), 3) := by decide +kernel
theorem d_M_elect_44 : decode prog_14_method_13_code 44 = .ok (.iconst 0, 1) := by decide +kernel
theorem d_M_elect_45 : decode prog_14_method_13_code 45 = .ok (.istore_n 3, 1) := by decide +kernel
theorem d_M_elect_46 : decode prog_14_method_13_code 46 = .ok (.iload_n 1, 1) := by decide +kernel
theorem d_M_elect_47 : decode prog_14_method_13_code 47 = .ok (.iconst 3, 1) := by decide +kernel
theorem d_M_elect_48 : decode prog_14_method_13_code 48 = .ok (.idiv, 1) := by decide +kernel
theorem d_M_elect_49 : decode prog_14_method_13_code 49 = .ok (.iconst 3, 1) := by decide +kernel
theorem d_M_elect_50 : decode prog_14_method_13_code 50 = .ok (.imul, 1) := by decide +kernel
theorem d_M_elect_51 : decode prog_14_method_13_code 51 = .ok (.istore 4, 2) := by decide +kernel
theorem d_M_elect_53 : decode prog_14_method_13_code 53 = .ok (.iload 4, 2) := by decide +kernel
theorem d_M_elect_55 : decode prog_14_method_13_code 55 = .ok (.iload_n 1, 1) := by decide +kernel
theorem d_M_elect_56 : decode prog_14_method_13_code 56 = .ok (.iconst 3, 1) := by decide +kernel
theorem d_M_elect_57 : decode prog_14_method_13_code 57 = .ok (.idiv, 1) := by decide +kernel
theorem d_M_elect_58 : decode prog_14_method_13_code 58 = .ok (.iconst 3, 1) := by decide +kernel
theorem d_M_elect_59 : decode prog_14_method_13_code 59 = .ok (.imul, 1) := by decide +kernel
theorem d_M_elect_60 : decode prog_14_method_13_code 60 = .ok (.iconst 3, 1) := by decide +kernel
theorem d_M_elect_61 : decode prog_14_method_13_code 61 = .ok (.iadd, 1) := by decide +kernel
theorem d_M_elect_62 : decode prog_14_method_13_code 62 = .ok (.if_icmp .ge 96, 3) := by decide +kernel
theorem d_M_elect_65 : decode prog_14_method_13_code 65 = .ok (.aload_n 0, 1) := by decide +kernel
theorem d_M_elect_66 : decode prog_14_method_13_code 66 = .ok (.iload_n 1, 1) := by decide +kernel
theorem d_M_elect_67 : decode prog_14_method_13_code 67 = .ok (.invokevirtual 58, 3) := by decide +kernel
theorem d_M_elect_70 : decode prog_14_method_13_code 70 = .ok (.aload_n 0, 1) := by decide +kernel
theorem d_M_elect_71 : decode prog_14_method_13_code 71 = .ok (.iload 4, 2) := by decide +kernel
theorem d_M_elect_73 : decode prog_14_method_13_code 73 = .ok (.invokevirtual 58, 3) := by decide +kernel
theorem d_M_elect_76 : decode prog_14_method_13_code 76 = .ok (.if_icmp .lt 33, 3) := by decide +kernel
theorem d_M_elect_79 : decode prog_14_method_13_code 79 = .ok (.aload_n 0, 1) := by decide +kernel
theorem d_M_elect_80 : decode prog_14_method_13_code 80 = .ok (.iload_n 1, 1) := by decide +kernel
theorem d_M_elect_81 : decode prog_14_method_13_code 81 = .ok (.invokevirtual 58, 3) := by decide +kernel
theorem d_M_elect_84 : decode prog_14_method_13_code 84 = .ok (.aload_n 0, 1) := by decide +kernel
theorem d_M_elect_85 : decode prog_14_method_13_code 85 = .ok (.iload 4, 2) := by decide +kernel
theorem d_M_elect_87 : decode prog_14_method_13_code 87 = .ok (.invokevirtual 58, 3) := by decide +kernel
theorem d_M_elect_90 : decode prog_14_method_13_code 90 = .ok (.if_icmp .ne 23, 3) := by decide +kernel
theorem d_M_elect_93 : decode prog_14_method_13_code 93 = .ok (.aload_n 0, 1) := by decide +kernel
theorem d_M_elect_94 : decode prog_14_method_13_code 94 = .ok (.getfield 20, 3) := by decide +kernel
theorem d_M_elect_97 : decode prog_14_method_13_code 97 = .ok (.iload_n 1, 1) := by decide +kernel
theorem d_M_elect_98 : decode prog_14_method_13_code 98 = .ok (.iaload, 1) := by decide +kernel
theorem d_M_elect_99 : decode prog_14_method_13_code 99 = .ok (.aload_n 0, 1) := by decide +kernel
theorem d_M_elect_100 : decode prog_14_method_13_code 100 = .ok (.getfield 20, 3) := by decide +kernel
theorem d_M_elect_103 : decode prog_14_method_13_code 103 = .ok (.iload 4, 2) := by decide +kernel
theorem d_M_elect_105 : decode prog_14_method_13_code 105 = .ok (.iaload, 1) := by decide +kernel
theorem d_M_elect_106 : decode prog_14_method_13_code 106 = .ok (.if_icmp .ge 7, 3) := by decide +kernel
theorem d_M_elect_109 : decode prog_14_method_13_code 109 = .ok (.iconst 1, 1) := by decide +kernel
theorem d_M_elect_110 : decode prog_14_method_13_code 110 = .ok (.goto 4, 3) := by decide +kernel
theorem d_M_elect_113 : decode prog_14_method_13_code 113 = .ok (.iconst 0, 1) := by decide +kernel
theorem d_M_elect_114 : decode prog_14_method_13_code 114 = .ok (.istore 5, 2) := by decide +kernel
theorem d_M_elect_116 : decode prog_14_method_13_code 116 = .ok (.aload_n 0, 1) := by decide +kernel
theorem d_M_elect_117 : decode prog_14_method_13_code 117 = .ok (.getfield 7, 3) := by decide +kernel
theorem d_M_elect_120 : decode prog_14_method_13_code 120 = .ok (.iload 4, 2) := by decide +kernel
theorem d_M_elect_122 : decode prog_14_method_13_code 122 = .ok (.baload, 1) := by decide +kernel
theorem d_M_elect_123 : decode prog_14_method_13_code 123 = .ok (.ifCond .ne 29, 3) := by decide +kernel
theorem d_M_elect_126 : decode prog_14_method_13_code 126 = .ok (.aload_n 0, 1) := by decide +kernel
theorem d_M_elect_127 : decode prog_14_method_13_code 127 = .ok (.getfield 16, 3) := by decide +kernel
theorem d_M_elect_130 : decode prog_14_method_13_code 130 = .ok (.iload 4, 2) := by decide +kernel
theorem d_M_elect_132 : decode prog_14_method_13_code 132 = .ok (.iaload, 1) := by decide +kernel
theorem d_M_elect_133 : decode prog_14_method_13_code 133 = .ok (.iload_n 2, 1) := by decide +kernel
theorem d_M_elect_134 : decode prog_14_method_13_code 134 = .ok (.if_icmp .ge 18, 3) := by decide +kernel
theorem d_M_elect_137 : decode prog_14_method_13_code 137 = .ok (.iload 5, 2) := by decide +kernel
theorem d_M_elect_139 : decode prog_14_method_13_code 139 = .ok (.ifCond .ne 13, 3) := by decide +kernel
theorem d_M_elect_142 : decode prog_14_method_13_code 142 = .ok (.aload_n 0, 1) := by decide +kernel
theorem d_M_elect_143 : decode prog_14_method_13_code 143 = .ok (.iload 4, 2) := by decide +kernel
theorem d_M_elect_145 : decode prog_14_method_13_code 145 = .ok (.iload_n 2, 1) := by decide +kernel
theorem d_M_elect_146 : decode prog_14_method_13_code 146 = .ok (.invokevirtual 62, 3) := by decide +kernel
theorem d_M_elect_149 : decode prog_14_method_13_code 149 = .ok (.iinc 3 1, 3) := by decide +kernel
theorem d_M_elect_152 : decode prog_14_method_13_code 152 = .ok (.iinc 4 1, 3) := by decide +kernel
theorem d_M_elect_155 : decode prog_14_method_13_code 155 = .ok (.goto (-102), 3) := by decide +kernel
theorem d_M_elect_158 : decode prog_14_method_13_code 158 = .ok (.iload_n 3, 1) := by decide +kernel
theorem d_M_elect_159 : decode prog_14_method_13_code 159 = .ok (.iconst 2, 1) := by decide +kernel
theorem d_M_elect_160 : decode prog_14_method_13_code 160 = .ok (.if_icmp .ge 5, 3) := by decide +kernel
theorem d_M_elect_163 : decode prog_14_method_13_code 163 = .ok (.iconst 0, 1) := by decide +kernel
theorem d_M_elect_164 : decode prog_14_method_13_code 164 = .ok (.ireturn, 1) := by decide +kernel
theorem d_M_elect_165 : decode prog_14_method_13_code 165 = .ok (.aload_n 0, 1) := by decide +kernel
theorem d_M_elect_166 : decode prog_14_method_13_code 166 = .ok (.getfield 13, 3) := by decide +kernel
theorem d_M_elect_169 : decode prog_14_method_13_code 169 = .ok (.iload_n 1, 1) := by decide +kernel
theorem d_M_elect_170 : decode prog_14_method_13_code 170 = .ok (.iconst 1, 1) := by decide +kernel
theorem d_M_elect_171 : decode prog_14_method_13_code 171 = .ok (.bastore, 1) := by decide +kernel
theorem d_M_elect_172 : decode prog_14_method_13_code 172 = .ok (.aload_n 0, 1) := by decide +kernel
theorem d_M_elect_173 : decode prog_14_method_13_code 173 = .ok (.iconst 0, 1) := by decide +kernel
