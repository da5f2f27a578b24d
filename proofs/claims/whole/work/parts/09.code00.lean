theorem d_S_init_0 : decode prog_1_method_1_code 0 = .ok (.aload_n 0, 1) := by decide +kernel
theorem d_S_init_1 : decode prog_1_method_1_code 1 = .ok (.invokespecial 3, 3) := by decide +kernel
theorem d_S_init_4 : decode prog_1_method_1_code 4 = .ok (.aload_n 0, 1) := by decide +kernel
theorem d_S_init_5 : decode prog_1_method_1_code 5 = .ok (.bipush 12, 2) := by decide +kernel
theorem d_S_init_7 : decode prog_1_method_1_code 7 = .ok (.anewarray 9, 3) := by decide +kernel
theorem d_S_init_10 : decode prog_1_method_1_code 10 = .ok (.putfield 11, 3) := by decide +kernel
theorem d_S_init_13 : decode prog_1_method_1_code 13 = .ok (.aload_n 0, 1) := by decide +kernel
theorem d_S_init_14 : decode prog_1_method_1_code 14 = .ok (.iconst 3, 1) := by decide +kernel
theorem d_S_init_15 : decode prog_1_method_1_code 15 = .ok (.anewarray 15, 3) := by decide +kernel
theorem d_S_init_18 : decode prog_1_method_1_code 18 = .ok (.putfield 17, 3) := by decide +kernel
theorem d_S_init_21 : decode prog_1_method_1_code 21 = .ok (.aload_n 0, 1) := by decide +kernel
theorem d_S_init_22 : decode prog_1_method_1_code 22 = .ok (.bipush 9, 2) := by decide +kernel
theorem d_S_init_24 : decode prog_1_method_1_code 24 = .ok (.anewarray 21, 3) := by decide +kernel
theorem d_S_init_27 : decode prog_1_method_1_code 27 = .ok (.putfield 23, 3) := by decide +kernel
theorem d_S_init_30 : decode prog_1_method_1_code 30 = .ok (.new 27, 3) := by decide +kernel
theorem d_S_init_33 : decode prog_1_method_1_code 33 = .ok (.dup, 1) := by decide +kernel
theorem d_S_init_34 : decode prog_1_method_1_code 34 = .ok (.invokespecial 29, 3) := by decide +kernel
theorem d_S_init_37 : decode prog_1_method_1_code 37 = .ok (.astore_n 1, 1) := by decide +kernel
theorem d_S_init_38 : decode prog_1_method_1_code 38 = .ok (.iconst 0, 1) := by decide +kernel
theorem d_S_init_39 : decode prog_1_method_1_code 39 = .ok (.istore_n 2, 1) := by decide +kernel
theorem d_S_init_40 : decode prog_1_method_1_code 40 = .ok (.iload_n 2, 1) := by decide +kernel
theorem d_S_init_41 : decode prog_1_method_1_code 41 = .ok (.aload_n 0, 1) := by decide +kernel
theorem d_S_init_42 : decode prog_1_method_1_code 42 = .ok (.getfield 17, 3) := by decide +kernel
theorem d_S_init_45 : decode prog_1_method_1_code 45 = .ok (.arraylength, 1) := by decide +kernel
theorem d_S_init_46 : decode prog_1_method_1_code 46 = .ok (.if_icmp .ge 35, 3) := by decide +kernel
theorem d_S_init_49 : decode prog_1_method_1_code 49 = .ok (.aload_n 0, 1) := by decide +kernel
theorem d_S_init_50 : decode prog_1_method_1_code 50 = .ok (.getfield 17, 3) := by decide +kernel
theorem d_S_init_53 : decode prog_1_method_1_code 53 = .ok (.iload_n 2, 1) := by decide +kernel
theorem d_S_init_54 : decode prog_1_method_1_code 54 = .ok (.new 15, 3) := by decide +kernel
theorem d_S_init_57 : decode prog_1_method_1_code 57 = .ok (.dup, 1) := by decide +kernel
theorem d_S_init_58 : decode prog_1_method_1_code 58 = .ok (.aload_n 1, 1) := by decide +kernel
theorem d_S_init_59 : decode prog_1_method_1_code 59 = .ok (.invokespecial 30, 3) := by decide +kernel
theorem d_S_init_62 : decode prog_1_method_1_code 62 = .ok (.aastore, 1) := by decide +kernel
theorem d_S_init_63 : decode prog_1_method_1_code 63 = .ok (.aload_n 0, 1) := by decide +kernel
theorem d_S_init_64 : decode prog_1_method_1_code 64 = .ok (.getfield 11, 3) := by decide +kernel
theorem d_S_init_67 : decode prog_1_method_1_code 67 = .ok (.iload_n 2, 1) := by decide +kernel
theorem d_S_init_68 : decode prog_1_method_1_code 68 = .ok (.aload_n 0, 1) := by decide +kernel
theorem d_S_init_69 : decode prog_1_method_1_code 69 = .ok (.getfield 17, 3) := by decide +kernel
theorem d_S_init_72 : decode prog_1_method_1_code 72 = .ok (.iload_n 2, 1) := by decide +kernel
theorem d_S_init_73 : decode prog_1_method_1_code 73 = .ok (.aaload, 1) := by decide +kernel
theorem d_S_init_74 : decode prog_1_method_1_code 74 = .ok (.aastore, 1) := by decide +kernel
theorem d_S_init_75 : decode prog_1_method_1_code 75 = .ok (.iinc 2 1, 3) := by decide +kernel
theorem d_S_init_78 : decode prog_1_method_1_code 78 = .ok (.goto (-38), 3) := by decide +kernel
theorem d_S_init_81 : decode prog_1_method_1_code 81 = .ok (.iconst 0, 1) := by decide +kernel
theorem d_S_init_82 : decode prog_1_method_1_code 82 = .ok (.istore_n 2, 1) := by decide +kernel
theorem d_S_init_83 : decode prog_1_method_1_code 83 = .ok (.iload_n 2, 1) := by decide +kernel
theorem d_S_init_84 : decode prog_1_method_1_code 84 = .ok (.aload_n 0, 1) := by decide +kernel
theorem d_S_init_85 : decode prog_1_method_1_code 85 = .ok (.getfield 23, 3) := by decide +kernel
theorem d_S_init_88 : decode prog_1_method_1_code 88 = .ok (.arraylength, 1) := by decide +kernel
theorem d_S_init_89 : decode prog_1_method_1_code 89 = .ok (.if_icmp .ge 43, 3) := by decide +kernel
theorem d_S_init_92 : decode prog_1_method_1_code 92 = .ok (.aload_n 0, 1) := by decide +kernel
theorem d_S_init_93 : decode prog_1_method_1_code 93 = .ok (.getfield 23, 3) := by decide +kernel
theorem d_S_init_96 : decode prog_1_method_1_code 96 = .ok (.iload_n 2, 1) := by decide +kernel
theorem d_S_init_97 : decode prog_1_method_1_code 97 = .ok (.new 21, 3) := by decide +kernel
theorem d_S_init_100 : decode prog_1_method_1_code 100 = .ok (.dup, 1) := by decide +kernel
theorem d_S_init_101 : decode prog_1_method_1_code 101 = .ok (.iconst 3, 1) := by decide +kernel
theorem d_S_init_102 : decode prog_1_method_1_code 102 = .ok (.iload_n 2, 1) := by decide +kernel
theorem d_S_init_103 : decode prog_1_method_1_code 103 = .ok (.iadd, 1) := by decide +kernel
theorem d_S_init_104 : decode prog_1_method_1_code 104 = .ok (.invokestatic 33, 3) := by decide +kernel
theorem d_S_init_107 : decode prog_1_method_1_code 107 = .ok (.aload_n 1, 1) := by decide +kernel
theorem d_S_init_108 : decode prog_1_method_1_code 108 = .ok (.invokespecial 37, 3) := by decide +kernel
theorem d_S_init_111 : decode prog_1_method_1_code 111 = .ok (.aastore, 1) := by decide +kernel
theorem d_S_init_112 : decode prog_1_method_1_code 112 = .ok (.aload_n 0, 1) := by decide +kernel
theorem d_S_init_113 : decode prog_1_method_1_code 113 = .ok (.getfield 11, 3) := by decide +kernel
theorem d_S_init_116 : decode prog_1_method_1_code 116 = .ok (.iconst 3, 1) := by decide +kernel
theorem d_S_init_117 : decode prog_1_method_1_code 117 = .ok (.iload_n 2, 1) := by decide +kernel
theorem d_S_init_118 : decode prog_1_method_1_code 118 = .ok (.iadd, 1) := by decide +kernel
theorem d_S_init_119 : decode prog_1_method_1_code 119 = .ok (.aload_n 0, 1) := by decide +kernel
theorem d_S_init_120 : decode prog_1_method_1_code 120 = .ok (.getfield 23, 3) := by decide +kernel
theorem d_S_init_123 : decode prog_1_method_1_code 123 = .ok (.iload_n 2, 1) := by decide +kernel
theorem d_S_init_124 : decode prog_1_method_1_code 124 = .ok (.aaload, 1) := by decide +kernel
theorem d_S_init_125 : decode prog_1_method_1_code 125 = .ok (.aastore, 1) := by decide +kernel
theorem d_S_init_126 : decode prog_1_method_1_code 126 = .ok (.iinc 2 1, 3) := by decide +kernel
theorem d_S_init_129 : decode prog_1_method_1_code 129 = .ok (.goto (-46), 3) := by decide +kernel
theorem d_S_init_132 : decode prog_1_method_1_code 132 = .ok (.return_, 1) := by decide +kernel
theorem d_C_init_0 : decode prog_3_method_1_code 0 = .ok (.aload_n 0, 1) := by decide +kernel
theorem d_C_init_1 : decode prog_3_method_1_code 1 = .ok (.invokespecial 3, 3) := by decide +kernel
theorem d_C_init_4 : decode prog_3_method_1_code 4 = .ok (.aload_n 0, 1) := by decide +kernel
theorem d_C_init_5 : decode prog_3_method_1_code 5 = .ok (.iconst 4, 1) := by decide +kernel
theorem d_C_init_6 : decode prog_3_method_1_code 6 = .ok (.newarray .boolean, 2) := by decide +kernel
theorem d_C_init_8 : decode prog_3_method_1_code 8 = .ok (.putfield 9, 3) := by decide +kernel
theorem d_C_init_11 : decode prog_3_method_1_code 11 = .ok (.aload_n 0, 1) := by decide +kernel
theorem d_C_init_12 : decode prog_3_method_1_code 12 = .ok (.bipush 8, 2) := by decide +kernel
theorem d_C_init_14 : decode prog_3_method_1_code 14 = .ok (.newarray .int, 2) := by decide +kernel
theorem d_C_init_16 : decode prog_3_method_1_code 16 = .ok (.putfield 15, 3) := by decide +kernel
theorem d_C_init_19 : decode prog_3_method_1_code 19 = .ok (.aload_n 0, 1) := by decide +kernel
theorem d_C_init_20 : decode prog_3_method_1_code 20 = .ok (.iconst 4, 1) := by decide +kernel
theorem d_C_init_21 : decode prog_3_method_1_code 21 = .ok (.newarray .int, 2) := by decide +kernel
theorem d_C_init_23 : decode prog_3_method_1_code 23 = .ok (.putfield 19, 3) := by decide +kernel
theorem d_C_init_26 : decode prog_3_method_1_code 26 = .ok (.aload_n 0, 1) := by decide +kernel
theorem d_C_init_27 : decode prog_3_method_1_code 27 = .ok (.getfield 19, 3) := by decide +kernel
theorem d_C_init_30 : decode prog_3_method_1_code 30 = .ok (.iconst 0, 1) := by decide +kernel
theorem d_C_init_31 : decode prog_3_method_1_code 31 = .ok (.bipush 8, 2) := by decide +kernel
theorem d_C_init_33 : decode prog_3_method_1_code 33 = .ok (.iastore, 1) := by decide +kernel
theorem d_C_init_34 : decode prog_3_method_1_code 34 = .ok (.return_, 1) := by decide +kernel
theorem d_V_init_0 : decode prog_10_method_1_code 0 = .ok (.aload_n 0, 1) := by decide +kernel
theorem d_V_init_1 : decode prog_10_method_1_code 1 = .ok (.invokespecial 3, 3) := by decide +kernel
theorem d_V_init_4 : decode prog_10_method_1_code 4 = .ok (.aload_n 0, 1) := by decide +kernel
theorem d_V_init_5 : decode prog_10_method_1_code 5 = .ok (.bipush 16, 2) := by decide +kernel
theorem d_V_init_7 : decode prog_10_method_1_code 7 = .ok (.anewarray 9, 3) := by decide +kernel
theorem d_V_init_10 : decode prog_10_method_1_code 10 = .ok (.putfield 11, 3) := by decide +kernel
theorem d_V_init_13 : decode prog_10_method_1_code 13 = .ok (.aload_n 0, 1) := by decide +kernel
theorem d_V_init_14 : decode prog_10_method_1_code 14 = .ok (.getfield 11, 3) := by decide +kernel
theorem d_V_init_17 : decode prog_10_method_1_code 17 = .ok (.iconst 0, 1) := by decide +kernel
theorem d_V_init_18 : decode prog_10_method_1_code 18 = .ok (.aload_n 1, 1) := by decide +kernel
theorem d_V_init_19 : decode prog_10_method_1_code 19 = .ok (.aastore, 1) := by decide +kernel
theorem d_V_init_20 : decode prog_10_method_1_code 20 = .ok (.return_, 1) := by decide +kernel
theorem d_N_init_0 : decode prog_8_method_1_code 0 = .ok (.aload_n 0, 1) := by decide +kernel
theorem d_N_init_1 : decode prog_8_method_1_code 1 = .ok (.invokespecial 3, 3) := by decide +kernel
theorem d_N_init_4 : decode prog_8_method_1_code 4 = .ok (.aload_n 0, 1) := by decide +kernel
theorem d_N_init_5 : decode prog_8_method_1_code 5 = .ok (.iconst 1, 1) := by decide +kernel
theorem d_N_init_6 : decode prog_8_method_1_code 6 = .ok (.putfield 9, 3) := by decide +kernel
theorem d_N_init_9 : decode prog_8_method_1_code 9 = .ok (.aload_n 0, 1) := by decide +kernel
theorem d_N_init_10 : decode prog_8_method_1_code 10 = .ok (.bipush 80, 2) := by decide +kernel
theorem d_N_init_12 : decode prog_8_method_1_code 12 = .ok (.anewarray 15, 3) := by decide +kernel
theorem d_N_init_15 : decode prog_8_method_1_code 15 = .ok (.putfield 17, 3) := by decide +kernel
theorem d_N_init_18 : decode prog_8_method_1_code 18 = .ok (.return_, 1) := by decide +kernel
theorem d_S_groupOf_0 : decode prog_1_method_20_code 0 = .ok (.iload_n 0, 1) := by decide +kernel
theorem d_S_groupOf_1 : decode prog_1_method_20_code 1 = .ok (.iconst 3, 1) := by decide +kernel
theorem d_S_groupOf_2 : decode prog_1_method_20_code 2 = .ok (.idiv, 1) := by decide +kernel
theorem d_S_groupOf_3 : decode prog_1_method_20_code 3 = .ok (.ireturn, 1) := by decide +kernel
theorem d_T_init_0 : decode prog_12_method_1_code 0 = .ok (.aload_n 0, 1) := by decide +kernel
theorem d_T_init_1 : decode prog_12_method_1_code 1 = .ok (.invokespecial 3, 3) := by decide +kernel
theorem d_T_init_4 : decode prog_12_method_1_code 4 = .ok (.aload_n 0, 1) := by decide +kernel
theorem d_T_init_5 : decode prog_12_method_1_code 5 = .ok (.bipush 8, 2) := by decide +kernel
theorem d_T_init_7 : decode prog_12_method_1_code 7 = .ok (.anewarray 9, 3) := by decide +kernel
theorem d_T_init_10 : decode prog_12_method_1_code 10 = .ok (.putfield 11, 3) := by decide +kernel
theorem d_T_init_13 : decode prog_12_method_1_code 13 = .ok (.aload_n 0, 1) := by decide +kernel
theorem d_T_init_14 : decode prog_12_method_1_code 14 = .ok (.iload_n 1, 1) := by decide +kernel
theorem d_T_init_15 : decode prog_12_method_1_code 15 = .ok (.putfield 17, 3) := by decide +kernel
theorem d_T_init_18 : decode prog_12_method_1_code 18 = .ok (.aload_n 0, 1) := by decide +kernel
theorem d_T_init_19 : decode prog_12_method_1_code 19 = .ok (.aload_n 2, 1) := by decide +kernel
theorem d_T_init_20 : decode prog_12_method_1_code 20 = .ok (.putfield 21, 3) := by decide +kernel
theorem d_T_init_23 : decode prog_12_method_1_code 23 = .ok (.iconst 0, 1) := by decide +kernel
theorem d_T_init_24 : decode prog_12_method_1_code 24 = .ok (.istore_n 3, 1) := by decide +kernel
theorem d_T_init_25 : decode prog_12_method_1_code 25 = .ok (.iload_n 3, 1) := by decide +kernel
theorem d_T_init_26 : decode prog_12_method_1_code 26 = .ok (.bipush 8, 2) := by decide +kernel
theorem d_T_init_28 : decode prog_12_method_1_code 28 = .ok (.if_icmp .ge 22, 3) := by decide +kernel
theorem d_T_init_31 : decode prog_12_method_1_code 31 = .ok (.aload_n 0, 1) := by decide +kernel
theorem d_T_init_32 : decode prog_12_method_1_code 32 = .ok (.getfield 11, 3) := by decide +kernel
theorem d_T_init_35 : decode prog_12_method_1_code 35 = .ok (.iload_n 3, 1) := by decide +kernel
theorem d_T_init_36 : decode prog_12_method_1_code 36 = .ok (.new 9, 3) := by decide +kernel
theorem d_T_init_39 : decode prog_12_method_1_code 39 = .ok (.dup, 1) := by decide +kernel
theorem d_T_init_40 : decode prog_12_method_1_code 40 = .ok (.invokespecial 25, 3) := by decide +kernel
theorem d_T_init_43 : decode prog_12_method_1_code 43 = .ok (.aastore, 1) := by decide +kernel
theorem d_T_init_44 : decode prog_12_method_1_code 44 = .ok (.iinc 3 1, 3) := by decide +kernel
theorem d_T_init_47 : decode prog_12_method_1_code 47 = .ok (.goto (-22), 3) := by decide +kernel
theorem d_T_init_50 : decode prog_12_method_1_code 50 = .ok (.return_, 1) := by decide +kernel
theorem d_H_init_0 : decode prog_11_method_1_code 0 = .ok (.aload_n 0, 1) := by decide +kernel
theorem d_H_init_1 : decode prog_11_method_1_code 1 = .ok (.invokespecial 3, 3) := by decide +kernel
theorem d_H_init_4 : decode prog_11_method_1_code 4 = .ok (.aload_n 0, 1) := by decide +kernel
theorem d_H_init_5 : decode prog_11_method_1_code 5 = .ok (.iconst 0, 1) := by decide +kernel
theorem d_H_init_6 : decode prog_11_method_1_code 6 = .ok (.putfield 9, 3) := by decide +kernel
theorem d_H_init_9 : decode prog_11_method_1_code 9 = .ok (.aload_n 0, 1) := by decide +kernel
theorem d_H_init_10 : decode prog_11_method_1_code 10 = .ok (.iconst 2, 1) := by decide +kernel
theorem d_H_init_11 : decode prog_11_method_1_code 11 = .ok (.newarray .int, 2) := by decide +kernel
theorem d_H_init_13 : decode prog_11_method_1_code 13 = .ok (.putfield 15, 3) := by decide +kernel
theorem d_H_init_16 : decode prog_11_method_1_code 16 = .ok (.aload_n 0, 1) := by decide +kernel
theorem d_H_init_17 : decode prog_11_method_1_code 17 = .ok (.iconst 3, 1) := by decide +kernel
theorem d_H_init_18 : decode prog_11_method_1_code 18 = .ok (.newarray .int, 2) := by decide +kernel
theorem d_H_init_20 : decode prog_11_method_1_code 20 = .ok (.putfield 19, 3) := by decide +kernel
theorem d_H_init_23 : decode prog_11_method_1_code 23 = .ok (.aload_n 0, 1) := by decide +kernel
theorem d_H_init_24 : decode prog_11_method_1_code 24 = .ok (.iconst 3, 1) := by decide +kernel
theorem d_H_init_25 : decode prog_11_method_1_code 25 = .ok (.newarray .int, 2) := by decide +kernel
theorem d_H_init_27 : decode prog_11_method_1_code 27 = .ok (.putfield 22, 3) := by decide +kernel
theorem d_H_init_30 : decode prog_11_method_1_code 30 = .ok (.return_, 1) := by decide +kernel
theorem d_S_crash_0 : decode prog_1_method_2_code 0 = .ok (.aload_n 0, 1) := by decide +kernel
theorem d_S_crash_1 : decode prog_1_method_2_code 1 = .ok (.iload_n 1, 1) := by decide +kernel
theorem d_S_crash_2 : decode prog_1_method_2_code 2 = .ok (.invokevirtual 40, 3) := by decide +kernel
theorem d_S_crash_5 : decode prog_1_method_2_code 5 = .ok (.astore_n 2, 1) := by decide +kernel
theorem d_S_crash_6 : decode prog_1_method_2_code 6 = .ok (.aload_n 2, 1) := by decide +kernel
theorem d_S_crash_7 : decode prog_1_method_2_code 7 = .ok (.ifnonnull 5, 3) := by decide +kernel
theorem d_S_crash_10 : decode prog_1_method_2_code 10 = .ok (.iconst 0, 1) := by decide +kernel
theorem d_S_crash_11 : decode prog_1_method_2_code 11 = .ok (.ireturn, 1) := by decide +kernel
theorem d_S_crash_12 : decode prog_1_method_2_code 12 = .ok (.aload_n 2, 1) := by decide +kernel
theorem d_S_crash_13 : decode prog_1_method_2_code 13 = .ok (.iconst 0, 1) := by decide +kernel
theorem d_S_crash_14 : decode prog_1_method_2_code 14 = .ok (.putfield 44, 3) := by decide +kernel
theorem d_S_crash_17 : decode prog_1_method_2_code 17 = .ok (.aload_n 2, 1) := by decide +kernel
theorem d_S_crash_18 : decode prog_1_method_2_code 18 = .ok (.iconst 0, 1) := by decide +kernel
theorem d_S_crash_19 : decode prog_1_method_2_code 19 = .ok (.putfield 48, 3) := by decide +kernel
theorem d_S_crash_22 : decode prog_1_method_2_code 22 = .ok (.iconst 1, 1) := by decide +kernel
theorem d_S_crash_23 : decode prog_1_method_2_code 23 = .ok (.ireturn, 1) := by decide +kernel
theorem d_S_upNode_0 : decode prog_1_method_31_code 0 = .ok (.aload_n 0, 1) := by decide +kernel
theorem d_S_upNode_1 : decode prog_1_method_31_code 1 = .ok (.iload_n 1, 1) := by decide +kernel
theorem d_S_upNode_2 : decode prog_1_method_31_code 2 = .ok (.invokevirtual 51, 3) := by decide +kernel
theorem d_S_upNode_5 : decode prog_1_method_31_code 5 = .ok (.astore_n 2, 1) := by decide +kernel
theorem d_S_upNode_6 : decode prog_1_method_31_code 6 = .ok (.aload_n 2, 1) := by decide +kernel
theorem d_S_upNode_7 : decode prog_1_method_31_code 7 = .ok (.ifnull 14, 3) := by decide +kernel
theorem d_S_upNode_10 : decode prog_1_method_31_code 10 = .ok (.aload_n 2, 1) := by decide +kernel
theorem d_S_upNode_11 : decode prog_1_method_31_code 11 = .ok (.getfield 44, 3) := by decide +kernel
theorem d_S_upNode_14 : decode prog_1_method_31_code 14 = .ok (.ifCond .eq 7, 3) := by decide +kernel
theorem d_S_upNode_17 : decode prog_1_method_31_code 17 = .ok (.aload_n 2, 1) := by decide +kernel
theorem d_S_upNode_18 : decode prog_1_method_31_code 18 = .ok (.goto 4, 3) := by decide +kernel
theorem d_S_upNode_21 : decode prog_1_method_31_code 21 = .ok (.aconst_null, 1) := by decide +kernel
theorem d_S_upNode_22 : decode prog_1_method_31_code 22 = .ok (.areturn, 1) := by decide +kernel
theorem d_S_anyNode_0 : decode prog_1_method_28_code 0 = .ok (.iload_n 1, 1) := by decide +kernel
theorem d_S_anyNode_1 : decode prog_1_method_28_code 1 = .ok (.ifCond .lt 18, 3) := by decide +kernel
theorem d_S_anyNode_4 : decode prog_1_method_28_code 4 = .ok (.iload_n 1, 1) := by decide +kernel
theorem d_S_anyNode_5 : decode prog_1_method_28_code 5 = .ok (.bipush 12, 2) := by decide +kernel
theorem d_S_anyNode_7 : decode prog_1_method_28_code 7 = .ok (.if_icmp .ge 12, 3) := by decide +kernel
theorem d_S_anyNode_10 : decode prog_1_method_28_code 10 = .ok (.aload_n 0, 1) := by decide +kernel
theorem d_S_anyNode_11 : decode prog_1_method_28_code 11 = .ok (.getfield 11, 3) := by decide +kernel
theorem d_S_anyNode_14 : decode prog_1_method_28_code 14 = .ok (.iload_n 1, 1) := by decide +kernel
theorem d_S_anyNode_15 : decode prog_1_method_28_code 15 = .ok (.aaload, 1) := by decide +kernel
theorem d_S_anyNode_16 : decode prog_1_method_28_code 16 = .ok (.goto 4, 3) := by decide +kernel
theorem d_S_anyNode_19 : decode prog_1_method_28_code 19 = .ok (.aconst_null, 1) := by decide +kernel
theorem d_S_anyNode_20 : decode prog_1_method_28_code 20 = .ok (.areturn, 1) := by decide +kernel
theorem d_S_recover_0 : decode prog_1_method_3_code 0 = .ok (.aload_n 0, 1) := by decide +kernel
theorem d_S_recover_1 : decode prog_1_method_3_code 1 = .ok (.iload_n 1, 1) := by decide +kernel
theorem d_S_recover_2 : decode prog_1_method_3_code 2 = .ok (.invokevirtual 51, 3) := by decide +kernel
theorem d_S_recover_5 : decode prog_1_method_3_code 5 = .ok (.astore_n 2, 1) := by decide +kernel
theorem d_S_recover_6 : decode prog_1_method_3_code 6 = .ok (.aload_n 2, 1) := by decide +kernel
theorem d_S_recover_7 : decode prog_1_method_3_code 7 = .ok (.ifnull 10, 3) := by decide +kernel
theorem d_S_recover_10 : decode prog_1_method_3_code 10 = .ok (.aload_n 2, 1) := by decide +kernel
theorem d_S_recover_11 : decode prog_1_method_3_code 11 = .ok (.getfield 44, 3) := by decide +kernel
theorem d_S_recover_14 : decode prog_1_method_3_code 14 = .ok (.ifCond .eq 5, 3) := by decide +kernel
theorem d_S_recover_17 : decode prog_1_method_3_code 17 = .ok (.iconst 0, 1) := by decide +kernel
theorem d_S_recover_18 : decode prog_1_method_3_code 18 = .ok (.ireturn, 1) := by decide +kernel
theorem d_S_recover_19 : decode prog_1_method_3_code 19 = .ok (.aload_n 2, 1) := by decide +kernel
theorem d_S_recover_20 : decode prog_1_method_3_code 20 = .ok (.iconst 1, 1) := by decide +kernel
theorem d_S_recover_21 : decode prog_1_method_3_code 21 = .ok (.putfield 44, 3) := by decide +kernel
theorem d_S_recover_24 : decode prog_1_method_3_code 24 = .ok (.iconst 1, 1) := by decide +kernel
theorem d_S_recover_25 : decode prog_1_method_3_code 25 = .ok (.ireturn, 1) := by decide +kernel
theorem d_S_elect_0 : decode prog_1_method_4_code 0 = .ok (.aload_n 0, 1) := by decide +kernel
theorem d_S_elect_1 : decode prog_1_method_4_code 1 = .ok (.iload_n 1, 1) := by decide +kernel
theorem d_S_elect_2 : decode prog_1_method_4_code 2 = .ok (.invokevirtual 40, 3) := by decide +kernel
theorem d_S_elect_5 : decode prog_1_method_4_code 5 = .ok (.astore_n 2, 1) := by decide +kernel
theorem d_S_elect_6 : decode prog_1_method_4_code 6 = .ok (.aload_n 2, 1) := by decide +kernel
theorem d_S_elect_7 : decode prog_1_method_4_code 7 = .ok (.ifnonnull 5, 3) := by decide +kernel
theorem d_S_elect_10 : decode prog_1_method_4_code 10 = .ok (.iconst (-1), 1) := by decide +kernel
theorem d_S_elect_11 : decode prog_1_method_4_code 11 = .ok (.ireturn, 1) := by decide +kernel
theorem d_S_elect_12 : decode prog_1_method_4_code 12 = .ok (.aload_n 2, 1) := by decide +kernel
theorem d_S_elect_13 : decode prog_1_method_4_code 13 = .ok (.getfield 54, 3) := by decide +kernel
theorem d_S_elect_16 : decode prog_1_method_4_code 16 = .ok (.iconst 1, 1) := by decide +kernel
theorem d_S_elect_17 : decode prog_1_method_4_code 17 = .ok (.iadd, 1) := by decide +kernel
theorem d_S_elect_18 : decode prog_1_method_4_code 18 = .ok (.iload_n 1, 1) := by decide +kernel
theorem d_S_elect_19 : decode prog_1_method_4_code 19 = .ok (.aload_n 2, 1) := by decide +kernel
theorem d_S_elect_20 : decode prog_1_method_4_code 20 = .ok (.getfield 54, 3) := by decide +kernel
theorem d_S_elect_23 : decode prog_1_method_4_code 23 = .ok (.isub, 1) := by decide +kernel
theorem d_S_elect_24 : decode prog_1_method_4_code 24 = .ok (.iconst 1, 1) := by decide +kernel
theorem d_S_elect_25 : decode prog_1_method_4_code 25 = .ok (.isub, 1) := by decide +kernel
theorem d_S_elect_26 : decode prog_1_method_4_code 26 = .ok (.iconst 3, 1) := by decide +kernel
theorem d_S_elect_27 : decode prog_1_method_4_code 27 = .ok (.invokestatic 58, 3) := by decide +kernel
theorem d_S_elect_30 : decode prog_1_method_4_code 30 = .ok (.iadd, 1) := by decide +kernel
theorem d_S_elect_31 : decode prog_1_method_4_code 31 = .ok (.istore_n 3, 1) := by decide +kernel
theorem d_S_elect_32 : decode prog_1_method_4_code 32 = .ok (.aload_n 0, 1) := by decide +kernel
theorem d_S_elect_33 : decode prog_1_method_4_code 33 = .ok (.aload_n 2, 1) := by decide +kernel
theorem d_S_elect_34 : decode prog_1_method_4_code 34 = .ok (.iload_n 1, 1) := by decide +kernel
theorem d_S_elect_35 : decode prog_1_method_4_code 35 = .ok (.invokestatic 33, 3) := by decide +kernel
theorem d_S_elect_38 : decode prog_1_method_4_code 38 = .ok (.iload_n 3, 1) := by decide +kernel
