theorem d_M_copies_0 : decode prog_14_method_14_code 0 = .ok (.iconst 0, 1) := by decide +kernel
theorem d_M_copies_1 : decode prog_14_method_14_code 1 = .ok (.istore_n 3, 1) := by decide +kernel
theorem d_M_copies_2 : decode prog_14_method_14_code 2 = .ok (.iload_n 1, 1) := by decide +kernel
theorem d_M_copies_3 : decode prog_14_method_14_code 3 = .ok (.iconst 3, 1) := by decide +kernel
theorem d_M_copies_4 : decode prog_14_method_14_code 4 = .ok (.idiv, 1) := by decide +kernel
theorem d_M_copies_5 : decode prog_14_method_14_code 5 = .ok (.iconst 3, 1) := by decide +kernel
theorem d_M_copies_6 : decode prog_14_method_14_code 6 = .ok (.imul, 1) := by decide +kernel
theorem d_M_copies_7 : decode prog_14_method_14_code 7 = .ok (.istore 4, 2) := by decide +kernel
theorem d_M_copies_9 : decode prog_14_method_14_code 9 = .ok (.iload 4, 2) := by decide +kernel
theorem d_M_copies_11 : decode prog_14_method_14_code 11 = .ok (.iload_n 1, 1) := by decide +kernel
theorem d_M_copies_12 : decode prog_14_method_14_code 12 = .ok (.iconst 3, 1) := by decide +kernel
theorem d_M_copies_13 : decode prog_14_method_14_code 13 = .ok (.idiv, 1) := by decide +kernel
theorem d_M_copies_14 : decode prog_14_method_14_code 14 = .ok (.iconst 3, 1) := by decide +kernel
theorem d_M_copies_15 : decode prog_14_method_14_code 15 = .ok (.imul, 1) := by decide +kernel
theorem d_M_copies_16 : decode prog_14_method_14_code 16 = .ok (.iconst 3, 1) := by decide +kernel
theorem d_M_copies_17 : decode prog_14_method_14_code 17 = .ok (.iadd, 1) := by decide +kernel
theorem d_M_copies_18 : decode prog_14_method_14_code 18 = .ok (.if_icmp .ge 44, 3) := by decide +kernel
theorem d_M_copies_21 : decode prog_14_method_14_code 21 = .ok (.iload_n 3, 1) := by decide +kernel
theorem d_M_copies_22 : decode prog_14_method_14_code 22 = .ok (.iload_n 2, 1) := by decide +kernel
theorem d_M_copies_23 : decode prog_14_method_14_code 23 = .ok (.aload_n 0, 1) := by decide +kernel
theorem d_M_copies_24 : decode prog_14_method_14_code 24 = .ok (.getfield 20, 3) := by decide +kernel
theorem d_M_copies_27 : decode prog_14_method_14_code 27 = .ok (.iload 4, 2) := by decide +kernel
theorem d_M_copies_29 : decode prog_14_method_14_code 29 = .ok (.iaload, 1) := by decide +kernel
theorem d_M_copies_30 : decode prog_14_method_14_code 30 = .ok (.if_icmp .ge 23, 3) := by decide +kernel
theorem d_M_copies_33 : decode prog_14_method_14_code 33 = .ok (.aload_n 0, 1) := by decide +kernel
theorem d_M_copies_34 : decode prog_14_method_14_code 34 = .ok (.iload 4, 2) := by decide +kernel
theorem d_M_copies_36 : decode prog_14_method_14_code 36 = .ok (.iload_n 2, 1) := by decide +kernel
theorem d_M_copies_37 : decode prog_14_method_14_code 37 = .ok (.invokevirtual 55, 3) := by decide +kernel
theorem d_M_copies_40 : decode prog_14_method_14_code 40 = .ok (.aload_n 0, 1) := by decide +kernel
theorem d_M_copies_41 : decode prog_14_method_14_code 41 = .ok (.iload_n 1, 1) := by decide +kernel
theorem d_M_copies_42 : decode prog_14_method_14_code 42 = .ok (.iload_n 2, 1) := by decide +kernel
theorem d_M_copies_43 : decode prog_14_method_14_code 43 = .ok (.invokevirtual 55, 3) := by decide +kernel
theorem d_M_copies_46 : decode prog_14_method_14_code 46 = .ok (.if_icmp .ne 7, 3) := by decide +kernel
theorem d_M_copies_49 : decode prog_14_method_14_code 49 = .ok (.iconst 1, 1) := by decide +kernel
theorem d_M_copies_50 : decode prog_14_method_14_code 50 = .ok (.goto 4, 3) := by decide +kernel
theorem d_M_copies_53 : decode prog_14_method_14_code 53 = .ok (.iconst 0, 1) := by decide +kernel
theorem d_M_copies_54 : decode prog_14_method_14_code 54 = .ok (.iadd, 1) := by decide +kernel
theorem d_M_copies_55 : decode prog_14_method_14_code 55 = .ok (.istore_n 3, 1) := by decide +kernel
theorem d_M_copies_56 : decode prog_14_method_14_code 56 = .ok (.iinc 4 1, 3) := by decide +kernel
theorem d_M_copies_59 : decode prog_14_method_14_code 59 = .ok (.goto (-50), 3) := by decide +kernel
theorem d_M_copies_62 : decode prog_14_method_14_code 62 = .ok (.iload_n 3, 1) := by decide +kernel
theorem d_M_copies_63 : decode prog_14_method_14_code 63 = .ok (.ireturn, 1) := by decide +kernel
theorem d_M_change_0 : decode prog_14_method_25_code 0 = .ok (.iload_n 2, 1) := by decide +kernel
theorem d_M_change_1 : decode prog_14_method_25_code 1 = .ok (.iconst 2, 1) := by decide +kernel
theorem d_M_change_2 : decode prog_14_method_25_code 2 = .ok (.if_icmp .ne 31, 3) := by decide +kernel
theorem d_M_change_5 : decode prog_14_method_25_code 5 = .ok (.iload_n 3, 1) := by decide +kernel
theorem d_M_change_6 : decode prog_14_method_25_code 6 = .ok (.bipush 8, 2) := by decide +kernel
theorem d_M_change_8 : decode prog_14_method_25_code 8 = .ok (.invokestatic 47, 3) := by decide +kernel
theorem d_M_change_11 : decode prog_14_method_25_code 11 = .ok (.ifCond .eq 18, 3) := by decide +kernel
theorem d_M_change_14 : decode prog_14_method_25_code 14 = .ok (.iload 4, 2) := by decide +kernel
theorem d_M_change_16 : decode prog_14_method_25_code 16 = .ok (.iconst 1, 1) := by decide +kernel
theorem d_M_change_17 : decode prog_14_method_25_code 17 = .ok (.isub, 1) := by decide +kernel
theorem d_M_change_18 : decode prog_14_method_25_code 18 = .ok (.iconst 3, 1) := by decide +kernel
theorem d_M_change_19 : decode prog_14_method_25_code 19 = .ok (.invokestatic 47, 3) := by decide +kernel
theorem d_M_change_22 : decode prog_14_method_25_code 22 = .ok (.ifCond .eq 7, 3) := by decide +kernel
theorem d_M_change_25 : decode prog_14_method_25_code 25 = .ok (.iconst 1, 1) := by decide +kernel
theorem d_M_change_26 : decode prog_14_method_25_code 26 = .ok (.goto 14, 3) := by decide +kernel
theorem d_M_change_29 : decode prog_14_method_25_code 29 = .ok (.iconst 0, 1) := by decide +kernel
theorem d_M_change_30 : decode prog_14_method_25_code 30 = .ok (.goto 10, 3) := by decide +kernel
theorem d_M_change_33 : decode prog_14_method_25_code 33 = .ok (.iload_n 3, 1) := by decide +kernel
theorem d_M_change_34 : decode prog_14_method_25_code 34 = .ok (.iconst 1, 1) := by decide +kernel
theorem d_M_change_35 : decode prog_14_method_25_code 35 = .ok (.isub, 1) := by decide +kernel
theorem d_M_change_36 : decode prog_14_method_25_code 36 = .ok (.iconst 3, 1) := by decide +kernel
theorem d_M_change_37 : decode prog_14_method_25_code 37 = .ok (.invokestatic 47, 3) := by decide +kernel
theorem d_M_change_40 : decode prog_14_method_25_code 40 = .ok (.istore 5, 2) := by decide +kernel
theorem d_M_change_42 : decode prog_14_method_25_code 42 = .ok (.aload_n 0, 1) := by decide +kernel
theorem d_M_change_43 : decode prog_14_method_25_code 43 = .ok (.iload_n 1, 1) := by decide +kernel
theorem d_M_change_44 : decode prog_14_method_25_code 44 = .ok (.invokevirtual 108, 3) := by decide +kernel
theorem d_M_change_47 : decode prog_14_method_25_code 47 = .ok (.ifCond .ne 16, 3) := by decide +kernel
theorem d_M_change_50 : decode prog_14_method_25_code 50 = .ok (.iload_n 2, 1) := by decide +kernel
theorem d_M_change_51 : decode prog_14_method_25_code 51 = .ok (.iconst 3, 1) := by decide +kernel
theorem d_M_change_52 : decode prog_14_method_25_code 52 = .ok (.invokestatic 47, 3) := by decide +kernel
theorem d_M_change_55 : decode prog_14_method_25_code 55 = .ok (.ifCond .eq 8, 3) := by decide +kernel
theorem d_M_change_58 : decode prog_14_method_25_code 58 = .ok (.iload 5, 2) := by decide +kernel
theorem d_M_change_60 : decode prog_14_method_25_code 60 = .ok (.ifCond .ne 5, 3) := by decide +kernel
theorem d_M_change_63 : decode prog_14_method_25_code 63 = .ok (.iconst (-1), 1) := by decide +kernel
theorem d_M_change_64 : decode prog_14_method_25_code 64 = .ok (.ireturn, 1) := by decide +kernel
theorem d_M_change_65 : decode prog_14_method_25_code 65 = .ok (.aload_n 0, 1) := by decide +kernel
theorem d_M_change_66 : decode prog_14_method_25_code 66 = .ok (.getfield 13, 3) := by decide +kernel
theorem d_M_change_69 : decode prog_14_method_25_code 69 = .ok (.iload_n 1, 1) := by decide +kernel
theorem d_M_change_70 : decode prog_14_method_25_code 70 = .ok (.baload, 1) := by decide +kernel
theorem d_M_change_71 : decode prog_14_method_25_code 71 = .ok (.ifCond .ne 6, 3) := by decide +kernel
theorem d_M_change_74 : decode prog_14_method_25_code 74 = .ok (.bipush (-2), 2) := by decide +kernel
theorem d_M_change_76 : decode prog_14_method_25_code 76 = .ok (.ireturn, 1) := by decide +kernel
theorem d_M_change_77 : decode prog_14_method_25_code 77 = .ok (.aload_n 0, 1) := by decide +kernel
theorem d_M_change_78 : decode prog_14_method_25_code 78 = .ok (.iconst 1, 1) := by decide +kernel
theorem d_M_change_79 : decode prog_14_method_25_code 79 = .ok (.iload_n 2, 1) := by decide +kernel
theorem d_M_change_80 : decode prog_14_method_25_code 80 = .ok (.iadd, 1) := by decide +kernel
theorem d_M_change_81 : decode prog_14_method_25_code 81 = .ok (.iload_n 3, 1) := by decide +kernel
theorem d_M_change_82 : decode prog_14_method_25_code 82 = .ok (.iload_n 2, 1) := by decide +kernel
theorem d_M_change_83 : decode prog_14_method_25_code 83 = .ok (.iconst 2, 1) := by decide +kernel
theorem d_M_change_84 : decode prog_14_method_25_code 84 = .ok (.if_icmp .ne 8, 3) := by decide +kernel
theorem d_M_change_87 : decode prog_14_method_25_code 87 = .ok (.iload 4, 2) := by decide +kernel
theorem d_M_change_89 : decode prog_14_method_25_code 89 = .ok (.goto 4, 3) := by decide +kernel
theorem d_M_change_92 : decode prog_14_method_25_code 92 = .ok (.iconst 0, 1) := by decide +kernel
theorem d_M_change_93 : decode prog_14_method_25_code 93 = .ok (.iconst 0, 1) := by decide +kernel
theorem d_M_change_94 : decode prog_14_method_25_code 94 = .ok (.iconst 0, 1) := by decide +kernel
theorem d_M_change_95 : decode prog_14_method_25_code 95 = .ok (.iconst 0, 1) := by decide +kernel
theorem d_M_change_96 : decode prog_14_method_25_code 96 = .ok (.invokevirtual 66, 3) := by decide +kernel
theorem d_M_change_99 : decode prog_14_method_25_code 99 = .ok (.aload_n 0, 1) := by decide +kernel
theorem d_M_change_100 : decode prog_14_method_25_code 100 = .ok (.iload_n 1, 1) := by decide +kernel
theorem d_M_change_101 : decode prog_14_method_25_code 101 = .ok (.invokevirtual 70, 3) := by decide +kernel
theorem d_M_change_104 : decode prog_14_method_25_code 104 = .ok (.ireturn, 1) := by decide +kernel
theorem d_M_noServer_0 : decode prog_14_method_3_code 0 = .ok (.iload_n 1, 1) := by decide +kernel
theorem d_M_noServer_1 : decode prog_14_method_3_code 1 = .ok (.iconst 3, 1) := by decide +kernel
theorem d_M_noServer_2 : decode prog_14_method_3_code 2 = .ok (.invokestatic 47, 3) := by decide +kernel
theorem d_M_noServer_5 : decode prog_14_method_3_code 5 = .ok (.ifCond .eq 12, 3) := by decide +kernel
theorem d_M_noServer_8 : decode prog_14_method_3_code 8 = .ok (.aload_n 0, 1) := by decide +kernel
theorem d_M_noServer_9 : decode prog_14_method_3_code 9 = .ok (.getfield 7, 3) := by decide +kernel
theorem d_M_noServer_12 : decode prog_14_method_3_code 12 = .ok (.iload_n 1, 1) := by decide +kernel
theorem d_M_noServer_13 : decode prog_14_method_3_code 13 = .ok (.baload, 1) := by decide +kernel
theorem d_M_noServer_14 : decode prog_14_method_3_code 14 = .ok (.ifCond .eq 7, 3) := by decide +kernel
theorem d_M_noServer_17 : decode prog_14_method_3_code 17 = .ok (.iconst 1, 1) := by decide +kernel
theorem d_M_noServer_18 : decode prog_14_method_3_code 18 = .ok (.goto 4, 3) := by decide +kernel
theorem d_M_noServer_21 : decode prog_14_method_3_code 21 = .ok (.iconst 0, 1) := by decide +kernel
theorem d_M_noServer_22 : decode prog_14_method_3_code 22 = .ok (.ireturn, 1) := by decide +kernel
theorem d_M_request_0 : decode prog_14_method_26_code 0 = .ok (.aload_n 0, 1) := by decide +kernel
theorem d_M_request_1 : decode prog_14_method_26_code 1 = .ok (.iload_n 1, 1) := by decide +kernel
theorem d_M_request_2 : decode prog_14_method_26_code 2 = .ok (.invokevirtual 112, 3) := by decide +kernel
theorem d_M_request_5 : decode prog_14_method_26_code 5 = .ok (.ifCond .ne 53, 3) := by decide +kernel
theorem d_M_request_8 : decode prog_14_method_26_code 8 = .ok (.iload_n 2, 1) := by decide +kernel
theorem d_M_request_9 : decode prog_14_method_26_code 9 = .ok (.iconst 3, 1) := by decide +kernel
theorem d_M_request_10 : decode prog_14_method_26_code 10 = .ok (.invokestatic 47, 3) := by decide +kernel
theorem d_M_request_13 : decode prog_14_method_26_code 13 = .ok (.ifCond .eq 45, 3) := by decide +kernel
theorem d_M_request_16 : decode prog_14_method_26_code 16 = .ok (.iload 5, 2) := by decide +kernel
theorem d_M_request_18 : decode prog_14_method_26_code 18 = .ok (.bipush 16, 2) := by decide +kernel
theorem d_M_request_20 : decode prog_14_method_26_code 20 = .ok (.invokestatic 47, 3) := by decide +kernel
theorem d_M_request_23 : decode prog_14_method_26_code 23 = .ok (.ifCond .eq 35, 3) := by decide +kernel
theorem d_M_request_26 : decode prog_14_method_26_code 26 = .ok (.iload_n 3, 1) := by decide +kernel
theorem d_M_request_27 : decode prog_14_method_26_code 27 = .ok (.iconst 1, 1) := by decide +kernel
theorem d_M_request_28 : decode prog_14_method_26_code 28 = .ok (.if_icmp .lt 30, 3) := by decide +kernel
theorem d_M_request_31 : decode prog_14_method_26_code 31 = .ok (.iload_n 3, 1) := by decide +kernel
theorem d_M_request_32 : decode prog_14_method_26_code 32 = .ok (.sipush 999, 3) := by decide +kernel
theorem d_M_request_35 : decode prog_14_method_26_code 35 = .ok (.if_icmp .gt 23, 3) := by decide +kernel
theorem d_M_request_38 : decode prog_14_method_26_code 38 = .ok (.iload 4, 2) := by decide +kernel
theorem d_M_request_40 : decode prog_14_method_26_code 40 = .ok (.iconst 3, 1) := by decide +kernel
theorem d_M_request_41 : decode prog_14_method_26_code 41 = .ok (.invokestatic 47, 3) := by decide +kernel
theorem d_M_request_44 : decode prog_14_method_26_code 44 = .ok (.ifCond .eq 14, 3) := by decide +kernel
theorem d_M_request_47 : decode prog_14_method_26_code 47 = .ok (.iload 6, 2) := by decide +kernel
theorem d_M_request_49 : decode prog_14_method_26_code 49 = .ok (.sipush 1000, 3) := by decide +kernel
theorem d_M_request_52 : decode prog_14_method_26_code 52 = .ok (.invokestatic 47, 3) := by decide +kernel
theorem d_M_request_55 : decode prog_14_method_26_code 55 = .ok (.ifCond .ne 5, 3) := by decide +kernel
theorem d_M_request_58 : decode prog_14_method_26_code 58 = .ok (.iconst (-1), 1) := by decide +kernel
theorem d_M_request_59 : decode prog_14_method_26_code 59 = .ok (.ireturn, 1) := by decide +kernel
theorem d_M_request_60 : decode prog_14_method_26_code 60 = .ok (.aload_n 0, 1) := by decide +kernel
theorem d_M_request_61 : decode prog_14_method_26_code 61 = .ok (.getfield 13, 3) := by decide +kernel
theorem d_M_request_64 : decode prog_14_method_26_code 64 = .ok (.iload_n 1, 1) := by decide +kernel
theorem d_M_request_65 : decode prog_14_method_26_code 65 = .ok (.baload, 1) := by decide +kernel
theorem d_M_request_66 : decode prog_14_method_26_code 66 = .ok (.ifCond .ne 6, 3) := by decide +kernel
theorem d_M_request_69 : decode prog_14_method_26_code 69 = .ok (.bipush (-2), 2) := by decide +kernel
theorem d_M_request_71 : decode prog_14_method_26_code 71 = .ok (.ireturn, 1) := by decide +kernel
theorem d_M_request_72 : decode prog_14_method_26_code 72 = .ok (.aload_n 0, 1) := by decide +kernel
theorem d_M_request_73 : decode prog_14_method_26_code 73 = .ok (.iconst 5, 1) := by decide +kernel
theorem d_M_request_74 : decode prog_14_method_26_code 74 = .ok (.iload_n 2, 1) := by decide +kernel
theorem d_M_request_75 : decode prog_14_method_26_code 75 = .ok (.iload_n 3, 1) := by decide +kernel
theorem d_M_request_76 : decode prog_14_method_26_code 76 = .ok (.iload 4, 2) := by decide +kernel
theorem d_M_request_78 : decode prog_14_method_26_code 78 = .ok (.iload 5, 2) := by decide +kernel
theorem d_M_request_80 : decode prog_14_method_26_code 80 = .ok (.iload 6, 2) := by decide +kernel
theorem d_M_request_82 : decode prog_14_method_26_code 82 = .ok (.invokevirtual 66, 3) := by decide +kernel
theorem d_M_request_85 : decode prog_14_method_26_code 85 = .ok (.aload_n 0, 1) := by decide +kernel
theorem d_M_request_86 : decode prog_14_method_26_code 86 = .ok (.iload_n 1, 1) := by decide +kernel
theorem d_M_request_87 : decode prog_14_method_26_code 87 = .ok (.invokevirtual 70, 3) := by decide +kernel
theorem d_M_request_90 : decode prog_14_method_26_code 90 = .ok (.ireturn, 1) := by decide +kernel
theorem d_M_noGroupNode_0 : decode prog_14_method_4_code 0 = .ok (.iload_n 1, 1) := by decide +kernel
theorem d_M_noGroupNode_1 : decode prog_14_method_4_code 1 = .ok (.iconst 3, 1) := by decide +kernel
theorem d_M_noGroupNode_2 : decode prog_14_method_4_code 2 = .ok (.if_icmp .lt 18, 3) := by decide +kernel
theorem d_M_noGroupNode_5 : decode prog_14_method_4_code 5 = .ok (.iload_n 1, 1) := by decide +kernel
theorem d_M_noGroupNode_6 : decode prog_14_method_4_code 6 = .ok (.bipush 11, 2) := by decide +kernel
theorem d_M_noGroupNode_8 : decode prog_14_method_4_code 8 = .ok (.if_icmp .gt 12, 3) := by decide +kernel
theorem d_M_noGroupNode_11 : decode prog_14_method_4_code 11 = .ok (.aload_n 0, 1) := by decide +kernel
theorem d_M_noGroupNode_12 : decode prog_14_method_4_code 12 = .ok (.getfield 7, 3) := by decide +kernel
theorem d_M_noGroupNode_15 : decode prog_14_method_4_code 15 = .ok (.iload_n 1, 1) := by decide +kernel
theorem d_M_noGroupNode_16 : decode prog_14_method_4_code 16 = .ok (.baload, 1) := by decide +kernel
theorem d_M_noGroupNode_17 : decode prog_14_method_4_code 17 = .ok (.ifCond .eq 7, 3) := by decide +kernel
theorem d_M_noGroupNode_20 : decode prog_14_method_4_code 20 = .ok (.iconst 1, 1) := by decide +kernel
theorem d_M_noGroupNode_21 : decode prog_14_method_4_code 21 = .ok (.goto 4, 3) := by decide +kernel
theorem d_M_noGroupNode_24 : decode prog_14_method_4_code 24 = .ok (.iconst 0, 1) := by decide +kernel
theorem d_M_noGroupNode_25 : decode prog_14_method_4_code 25 = .ok (.ireturn, 1) := by decide +kernel
theorem d_M_poll_0 : decode prog_14_method_27_code 0 = .ok (.aload_n 0, 1) := by decide +kernel
theorem d_M_poll_1 : decode prog_14_method_27_code 1 = .ok (.iload_n 1, 1) := by decide +kernel
theorem d_M_poll_2 : decode prog_14_method_27_code 2 = .ok (.invokevirtual 112, 3) := by decide +kernel
theorem d_M_poll_5 : decode prog_14_method_27_code 5 = .ok (.ifCond .ne 11, 3) := by decide +kernel
theorem d_M_poll_8 : decode prog_14_method_27_code 8 = .ok (.aload_n 0, 1) := by decide +kernel
theorem d_M_poll_9 : decode prog_14_method_27_code 9 = .ok (.iload_n 2, 1) := by decide +kernel
theorem d_M_poll_10 : decode prog_14_method_27_code 10 = .ok (.invokevirtual 108, 3) := by decide +kernel
theorem d_M_poll_13 : decode prog_14_method_27_code 13 = .ok (.ifCond .eq 5, 3) := by decide +kernel
theorem d_M_poll_16 : decode prog_14_method_27_code 16 = .ok (.iconst (-1), 1) := by decide +kernel
theorem d_M_poll_17 : decode prog_14_method_27_code 17 = .ok (.ireturn, 1) := by decide +kernel
theorem d_M_poll_18 : decode prog_14_method_27_code 18 = .ok (.aload_n 0, 1) := by decide +kernel
theorem d_M_poll_19 : decode prog_14_method_27_code 19 = .ok (.getfield 13, 3) := by decide +kernel
theorem d_M_poll_22 : decode prog_14_method_27_code 22 = .ok (.iload_n 1, 1) := by decide +kernel
theorem d_M_poll_23 : decode prog_14_method_27_code 23 = .ok (.baload, 1) := by decide +kernel
theorem d_M_poll_24 : decode prog_14_method_27_code 24 = .ok (.ifCond .ne 6, 3) := by decide +kernel
theorem d_M_poll_27 : decode prog_14_method_27_code 27 = .ok (.bipush (-2), 2) := by decide +kernel
theorem d_M_poll_29 : decode prog_14_method_27_code 29 = .ok (.ireturn, 1) := by decide +kernel
theorem d_M_poll_30 : decode prog_14_method_27_code 30 = .ok (.aload_n 0, 1) := by decide +kernel
theorem d_M_poll_31 : decode prog_14_method_27_code 31 = .ok (.iload_n 1, 1) := by decide +kernel
theorem d_M_poll_32 : decode prog_14_method_27_code 32 = .ok (.invokevirtual 115, 3) := by decide +kernel
theorem d_M_poll_35 : decode prog_14_method_27_code 35 = .ok (.aload_n 0, 1) := by decide +kernel
theorem d_M_poll_36 : decode prog_14_method_27_code 36 = .ok (.iload_n 2, 1) := by decide +kernel
theorem d_M_poll_37 : decode prog_14_method_27_code 37 = .ok (.invokevirtual 118, 3) := by decide +kernel
theorem d_M_poll_40 : decode prog_14_method_27_code 40 = .ok (.aload_n 0, 1) := by decide +kernel
theorem d_M_poll_41 : decode prog_14_method_27_code 41 = .ok (.getfield 99, 3) := by decide +kernel
theorem d_M_poll_44 : decode prog_14_method_27_code 44 = .ok (.iconst 1, 1) := by decide +kernel
theorem d_M_poll_45 : decode prog_14_method_27_code 45 = .ok (.iadd, 1) := by decide +kernel
theorem d_M_poll_46 : decode prog_14_method_27_code 46 = .ok (.istore_n 3, 1) := by decide +kernel
theorem d_M_poll_47 : decode prog_14_method_27_code 47 = .ok (.aload_n 0, 1) := by decide +kernel
theorem d_M_poll_48 : decode prog_14_method_27_code 48 = .ok (.invokevirtual 95, 3) := by decide +kernel
theorem d_M_poll_51 : decode prog_14_method_27_code 51 = .ok (.ifCond .eq 11, 3) := by decide +kernel
theorem d_M_poll_54 : decode prog_14_method_27_code 54 = .ok (.iload_n 3, 1) := by decide +kernel
theorem d_M_poll_55 : decode prog_14_method_27_code 55 = .ok (.aload_n 0, 1) := by decide +kernel
theorem d_M_poll_56 : decode prog_14_method_27_code 56 = .ok (.getfield 83, 3) := by decide +kernel
theorem d_M_poll_59 : decode prog_14_method_27_code 59 = .ok (.if_icmp .lt 6, 3) := by decide +kernel
theorem d_M_poll_62 : decode prog_14_method_27_code 62 = .ok (.bipush (-4), 2) := by decide +kernel
theorem d_M_poll_64 : decode prog_14_method_27_code 64 = .ok (.ireturn, 1) := by decide +kernel
theorem d_M_poll_65 : decode prog_14_method_27_code 65 = .ok (.aload_n 0, 1) := by decide +kernel
theorem d_M_poll_66 : decode prog_14_method_27_code 66 = .ok (.iconst 4, 1) := by decide +kernel
theorem d_M_poll_67 : decode prog_14_method_27_code 67 = .ok (.iload_n 3, 1) := by decide +kernel
theorem d_M_poll_68 : decode prog_14_method_27_code 68 = .ok (.iconst 0, 1) := by decide +kernel
theorem d_M_poll_69 : decode prog_14_method_27_code 69 = .ok (.iconst 0, 1) := by decide +kernel
theorem d_M_poll_70 : decode prog_14_method_27_code 70 = .ok (.iconst 0, 1) := by decide +kernel
theorem d_M_poll_71 : decode prog_14_method_27_code 71 = .ok (.iconst 0, 1) := by decide +kernel
theorem d_M_poll_72 : decode prog_14_method_27_code 72 = .ok (.invokevirtual 66, 3) := by decide +kernel
theorem d_M_poll_75 : decode prog_14_method_27_code 75 = .ok (.iconst 0, 1) := by decide +kernel
theorem d_M_poll_76 : decode prog_14_method_27_code 76 = .ok (.istore 4, 2) := by decide +kernel
theorem d_M_poll_78 : decode prog_14_method_27_code 78 = .ok (.iload 4, 2) := by decide +kernel
theorem d_M_poll_80 : decode prog_14_method_27_code 80 = .ok (.bipush 8, 2) := by decide +kernel
theorem d_M_poll_82 : decode prog_14_method_27_code 82 = .ok (.if_icmp .ge 31, 3) := by decide +kernel
theorem d_M_poll_85 : decode prog_14_method_27_code 85 = .ok (.aload_n 0, 1) := by decide +kernel
theorem d_M_poll_86 : decode prog_14_method_27_code 86 = .ok (.getfield 29, 3) := by decide +kernel
theorem d_M_poll_89 : decode prog_14_method_27_code 89 = .ok (.bipush 7, 2) := by decide +kernel
theorem d_M_poll_91 : decode prog_14_method_27_code 91 = .ok (.iload 4, 2) := by decide +kernel
theorem d_M_poll_93 : decode prog_14_method_27_code 93 = .ok (.iadd, 1) := by decide +kernel
theorem d_M_poll_94 : decode prog_14_method_27_code 94 = .ok (.aload_n 0, 1) := by decide +kernel
theorem d_M_poll_95 : decode prog_14_method_27_code 95 = .ok (.getfield 35, 3) := by decide +kernel
theorem d_M_poll_98 : decode prog_14_method_27_code 98 = .ok (.bipush 8, 2) := by decide +kernel
theorem d_M_poll_100 : decode prog_14_method_27_code 100 = .ok (.iload_n 3, 1) := by decide +kernel
theorem d_M_poll_101 : decode prog_14_method_27_code 101 = .ok (.imul, 1) := by decide +kernel
theorem d_M_poll_102 : decode prog_14_method_27_code 102 = .ok (.iload 4, 2) := by decide +kernel
theorem d_M_poll_104 : decode prog_14_method_27_code 104 = .ok (.iadd, 1) := by decide +kernel
theorem d_M_poll_105 : decode prog_14_method_27_code 105 = .ok (.iaload, 1) := by decide +kernel
theorem d_M_poll_106 : decode prog_14_method_27_code 106 = .ok (.iastore, 1) := by decide +kernel
theorem d_M_poll_107 : decode prog_14_method_27_code 107 = .ok (.iinc 4 1, 3) := by decide +kernel
theorem d_M_poll_110 : decode prog_14_method_27_code 110 = .ok (.goto (-32), 3) := by decide +kernel
theorem d_M_poll_113 : decode prog_14_method_27_code 113 = .ok (.aload_n 0, 1) := by decide +kernel
theorem d_M_poll_114 : decode prog_14_method_27_code 114 = .ok (.iload_n 1, 1) := by decide +kernel
theorem d_M_poll_115 : decode prog_14_method_27_code 115 = .ok (.invokevirtual 70, 3) := by decide +kernel
theorem d_M_poll_118 : decode prog_14_method_27_code 118 = .ok (.ireturn, 1) := by decide +kernel
theorem d_M_group_0 : decode prog_14_method_24_code 0 = .ok (.aload_n 0, 1) := by decide +kernel
theorem d_M_group_1 : decode prog_14_method_24_code 1 = .ok (.iconst 0, 1) := by decide +kernel
