theorem d_M_balance_0 : decode prog_14_method_18_code 0 = .ok (.iconst 0, 1) := by decide +kernel
theorem d_M_balance_1 : decode prog_14_method_18_code 1 = .ok (.istore_n 2, 1) := by decide +kernel
theorem d_M_balance_2 : decode prog_14_method_18_code 2 = .ok (.iload_n 2, 1) := by decide +kernel
theorem d_M_balance_3 : decode prog_14_method_18_code 3 = .ok (.bipush 8, 2) := by decide +kernel
theorem d_M_balance_5 : decode prog_14_method_18_code 5 = .ok (.if_icmp .ge 103, 3) := by decide +kernel
theorem d_M_balance_8 : decode prog_14_method_18_code 8 = .ok (.aload_n 0, 1) := by decide +kernel
theorem d_M_balance_9 : decode prog_14_method_18_code 9 = .ok (.iload_n 1, 1) := by decide +kernel
theorem d_M_balance_10 : decode prog_14_method_18_code 10 = .ok (.iconst 1, 1) := by decide +kernel
theorem d_M_balance_11 : decode prog_14_method_18_code 11 = .ok (.invokevirtual 79, 3) := by decide +kernel
theorem d_M_balance_14 : decode prog_14_method_18_code 14 = .ok (.istore_n 3, 1) := by decide +kernel
theorem d_M_balance_15 : decode prog_14_method_18_code 15 = .ok (.aload_n 0, 1) := by decide +kernel
theorem d_M_balance_16 : decode prog_14_method_18_code 16 = .ok (.iload_n 1, 1) := by decide +kernel
theorem d_M_balance_17 : decode prog_14_method_18_code 17 = .ok (.iconst 0, 1) := by decide +kernel
theorem d_M_balance_18 : decode prog_14_method_18_code 18 = .ok (.invokevirtual 79, 3) := by decide +kernel
theorem d_M_balance_21 : decode prog_14_method_18_code 21 = .ok (.istore 4, 2) := by decide +kernel
theorem d_M_balance_23 : decode prog_14_method_18_code 23 = .ok (.aload_n 0, 1) := by decide +kernel
theorem d_M_balance_24 : decode prog_14_method_18_code 24 = .ok (.iload_n 1, 1) := by decide +kernel
theorem d_M_balance_25 : decode prog_14_method_18_code 25 = .ok (.iload_n 3, 1) := by decide +kernel
theorem d_M_balance_26 : decode prog_14_method_18_code 26 = .ok (.invokevirtual 76, 3) := by decide +kernel
theorem d_M_balance_29 : decode prog_14_method_18_code 29 = .ok (.aload_n 0, 1) := by decide +kernel
theorem d_M_balance_30 : decode prog_14_method_18_code 30 = .ok (.iload_n 1, 1) := by decide +kernel
theorem d_M_balance_31 : decode prog_14_method_18_code 31 = .ok (.iload 4, 2) := by decide +kernel
theorem d_M_balance_33 : decode prog_14_method_18_code 33 = .ok (.invokevirtual 76, 3) := by decide +kernel
theorem d_M_balance_36 : decode prog_14_method_18_code 36 = .ok (.iconst 2, 1) := by decide +kernel
theorem d_M_balance_37 : decode prog_14_method_18_code 37 = .ok (.iadd, 1) := by decide +kernel
theorem d_M_balance_38 : decode prog_14_method_18_code 38 = .ok (.if_icmp .ge 7, 3) := by decide +kernel
theorem d_M_balance_41 : decode prog_14_method_18_code 41 = .ok (.iconst 1, 1) := by decide +kernel
theorem d_M_balance_42 : decode prog_14_method_18_code 42 = .ok (.goto 4, 3) := by decide +kernel
theorem d_M_balance_45 : decode prog_14_method_18_code 45 = .ok (.iconst 0, 1) := by decide +kernel
theorem d_M_balance_46 : decode prog_14_method_18_code 46 = .ok (.istore 5, 2) := by decide +kernel
theorem d_M_balance_48 : decode prog_14_method_18_code 48 = .ok (.iconst 0, 1) := by decide +kernel
theorem d_M_balance_49 : decode prog_14_method_18_code 49 = .ok (.istore 6, 2) := by decide +kernel
theorem d_M_balance_51 : decode prog_14_method_18_code 51 = .ok (.iload 6, 2) := by decide +kernel
theorem d_M_balance_53 : decode prog_14_method_18_code 53 = .ok (.bipush 8, 2) := by decide +kernel
theorem d_M_balance_55 : decode prog_14_method_18_code 55 = .ok (.if_icmp .ge 47, 3) := by decide +kernel
theorem d_M_balance_58 : decode prog_14_method_18_code 58 = .ok (.iload 5, 2) := by decide +kernel
theorem d_M_balance_60 : decode prog_14_method_18_code 60 = .ok (.ifCond .ne 42, 3) := by decide +kernel
theorem d_M_balance_63 : decode prog_14_method_18_code 63 = .ok (.aload_n 0, 1) := by decide +kernel
theorem d_M_balance_64 : decode prog_14_method_18_code 64 = .ok (.getfield 35, 3) := by decide +kernel
theorem d_M_balance_67 : decode prog_14_method_18_code 67 = .ok (.bipush 8, 2) := by decide +kernel
theorem d_M_balance_69 : decode prog_14_method_18_code 69 = .ok (.iload_n 1, 1) := by decide +kernel
theorem d_M_balance_70 : decode prog_14_method_18_code 70 = .ok (.imul, 1) := by decide +kernel
theorem d_M_balance_71 : decode prog_14_method_18_code 71 = .ok (.iload 6, 2) := by decide +kernel
theorem d_M_balance_73 : decode prog_14_method_18_code 73 = .ok (.iadd, 1) := by decide +kernel
theorem d_M_balance_74 : decode prog_14_method_18_code 74 = .ok (.iaload, 1) := by decide +kernel
theorem d_M_balance_75 : decode prog_14_method_18_code 75 = .ok (.iload_n 3, 1) := by decide +kernel
theorem d_M_balance_76 : decode prog_14_method_18_code 76 = .ok (.if_icmp .ne 20, 3) := by decide +kernel
theorem d_M_balance_79 : decode prog_14_method_18_code 79 = .ok (.aload_n 0, 1) := by decide +kernel
theorem d_M_balance_80 : decode prog_14_method_18_code 80 = .ok (.getfield 35, 3) := by decide +kernel
theorem d_M_balance_83 : decode prog_14_method_18_code 83 = .ok (.bipush 8, 2) := by decide +kernel
theorem d_M_balance_85 : decode prog_14_method_18_code 85 = .ok (.iload_n 1, 1) := by decide +kernel
theorem d_M_balance_86 : decode prog_14_method_18_code 86 = .ok (.imul, 1) := by decide +kernel
theorem d_M_balance_87 : decode prog_14_method_18_code 87 = .ok (.iload 6, 2) := by decide +kernel
theorem d_M_balance_89 : decode prog_14_method_18_code 89 = .ok (.iadd, 1) := by decide +kernel
theorem d_M_balance_90 : decode prog_14_method_18_code 90 = .ok (.iload 4, 2) := by decide +kernel
theorem d_M_balance_92 : decode prog_14_method_18_code 92 = .ok (.iastore, 1) := by decide +kernel
theorem d_M_balance_93 : decode prog_14_method_18_code 93 = .ok (.iconst 1, 1) := by decide +kernel
theorem d_M_balance_94 : decode prog_14_method_18_code 94 = .ok (.istore 5, 2) := by decide +kernel
theorem d_M_balance_96 : decode prog_14_method_18_code 96 = .ok (.iinc 6 1, 3) := by decide +kernel
theorem d_M_balance_99 : decode prog_14_method_18_code 99 = .ok (.goto (-48), 3) := by decide +kernel
theorem d_M_balance_102 : decode prog_14_method_18_code 102 = .ok (.iinc 2 1, 3) := by decide +kernel
theorem d_M_balance_105 : decode prog_14_method_18_code 105 = .ok (.goto (-103), 3) := by decide +kernel
theorem d_M_balance_108 : decode prog_14_method_18_code 108 = .ok (.return_, 1) := by decide +kernel
theorem d_M_pull_0 : decode prog_14_method_28_code 0 = .ok (.aload_n 0, 1) := by decide +kernel
theorem d_M_pull_1 : decode prog_14_method_28_code 1 = .ok (.iload_n 1, 1) := by decide +kernel
theorem d_M_pull_2 : decode prog_14_method_28_code 2 = .ok (.invokevirtual 112, 3) := by decide +kernel
theorem d_M_pull_5 : decode prog_14_method_28_code 5 = .ok (.ifCond .ne 20, 3) := by decide +kernel
theorem d_M_pull_8 : decode prog_14_method_28_code 8 = .ok (.aload_n 0, 1) := by decide +kernel
theorem d_M_pull_9 : decode prog_14_method_28_code 9 = .ok (.iload_n 3, 1) := by decide +kernel
theorem d_M_pull_10 : decode prog_14_method_28_code 10 = .ok (.invokevirtual 112, 3) := by decide +kernel
theorem d_M_pull_13 : decode prog_14_method_28_code 13 = .ok (.ifCond .ne 12, 3) := by decide +kernel
theorem d_M_pull_16 : decode prog_14_method_28_code 16 = .ok (.iload_n 2, 1) := by decide +kernel
theorem d_M_pull_17 : decode prog_14_method_28_code 17 = .ok (.bipush 8, 2) := by decide +kernel
theorem d_M_pull_19 : decode prog_14_method_28_code 19 = .ok (.invokestatic 47, 3) := by decide +kernel
theorem d_M_pull_22 : decode prog_14_method_28_code 22 = .ok (.ifCond .ne 5, 3) := by decide +kernel
theorem d_M_pull_25 : decode prog_14_method_28_code 25 = .ok (.iconst (-1), 1) := by decide +kernel
theorem d_M_pull_26 : decode prog_14_method_28_code 26 = .ok (.ireturn, 1) := by decide +kernel
theorem d_M_pull_27 : decode prog_14_method_28_code 27 = .ok (.aload_n 0, 1) := by decide +kernel
theorem d_M_pull_28 : decode prog_14_method_28_code 28 = .ok (.getfield 13, 3) := by decide +kernel
theorem d_M_pull_31 : decode prog_14_method_28_code 31 = .ok (.iload_n 1, 1) := by decide +kernel
theorem d_M_pull_32 : decode prog_14_method_28_code 32 = .ok (.baload, 1) := by decide +kernel
theorem d_M_pull_33 : decode prog_14_method_28_code 33 = .ok (.ifCond .ne 6, 3) := by decide +kernel
theorem d_M_pull_36 : decode prog_14_method_28_code 36 = .ok (.bipush (-2), 2) := by decide +kernel
theorem d_M_pull_38 : decode prog_14_method_28_code 38 = .ok (.ireturn, 1) := by decide +kernel
theorem d_M_pull_39 : decode prog_14_method_28_code 39 = .ok (.aload_n 0, 1) := by decide +kernel
theorem d_M_pull_40 : decode prog_14_method_28_code 40 = .ok (.iload_n 1, 1) := by decide +kernel
theorem d_M_pull_41 : decode prog_14_method_28_code 41 = .ok (.invokevirtual 115, 3) := by decide +kernel
theorem d_M_pull_44 : decode prog_14_method_28_code 44 = .ok (.aload_n 0, 1) := by decide +kernel
theorem d_M_pull_45 : decode prog_14_method_28_code 45 = .ok (.getfield 41, 3) := by decide +kernel
theorem d_M_pull_48 : decode prog_14_method_28_code 48 = .ok (.iload_n 2, 1) := by decide +kernel
theorem d_M_pull_49 : decode prog_14_method_28_code 49 = .ok (.iaload, 1) := by decide +kernel
theorem d_M_pull_50 : decode prog_14_method_28_code 50 = .ok (.iconst 2, 1) := by decide +kernel
theorem d_M_pull_51 : decode prog_14_method_28_code 51 = .ok (.if_icmp .ne 7, 3) := by decide +kernel
theorem d_M_pull_54 : decode prog_14_method_28_code 54 = .ok (.iconst 1, 1) := by decide +kernel
theorem d_M_pull_55 : decode prog_14_method_28_code 55 = .ok (.goto 4, 3) := by decide +kernel
theorem d_M_pull_58 : decode prog_14_method_28_code 58 = .ok (.iconst 0, 1) := by decide +kernel
theorem d_M_pull_59 : decode prog_14_method_28_code 59 = .ok (.istore 4, 2) := by decide +kernel
theorem d_M_pull_61 : decode prog_14_method_28_code 61 = .ok (.aload_n 0, 1) := by decide +kernel
theorem d_M_pull_62 : decode prog_14_method_28_code 62 = .ok (.getfield 99, 3) := by decide +kernel
theorem d_M_pull_65 : decode prog_14_method_28_code 65 = .ok (.istore 5, 2) := by decide +kernel
theorem d_M_pull_67 : decode prog_14_method_28_code 67 = .ok (.aload_n 0, 1) := by decide +kernel
theorem d_M_pull_68 : decode prog_14_method_28_code 68 = .ok (.iload_n 3, 1) := by decide +kernel
theorem d_M_pull_69 : decode prog_14_method_28_code 69 = .ok (.invokevirtual 115, 3) := by decide +kernel
theorem d_M_pull_72 : decode prog_14_method_28_code 72 = .ok (.iload 4, 2) := by decide +kernel
theorem d_M_pull_74 : decode prog_14_method_28_code 74 = .ok (.ifCond .eq 22, 3) := by decide +kernel
theorem d_M_pull_77 : decode prog_14_method_28_code 77 = .ok (.aload_n 0, 1) := by decide +kernel
theorem d_M_pull_78 : decode prog_14_method_28_code 78 = .ok (.getfield 41, 3) := by decide +kernel
theorem d_M_pull_81 : decode prog_14_method_28_code 81 = .ok (.iload_n 2, 1) := by decide +kernel
theorem d_M_pull_82 : decode prog_14_method_28_code 82 = .ok (.iaload, 1) := by decide +kernel
theorem d_M_pull_83 : decode prog_14_method_28_code 83 = .ok (.iconst 3, 1) := by decide +kernel
theorem d_M_pull_84 : decode prog_14_method_28_code 84 = .ok (.if_icmp .ne 12, 3) := by decide +kernel
theorem d_M_pull_87 : decode prog_14_method_28_code 87 = .ok (.aload_n 0, 1) := by decide +kernel
theorem d_M_pull_88 : decode prog_14_method_28_code 88 = .ok (.getfield 99, 3) := by decide +kernel
theorem d_M_pull_91 : decode prog_14_method_28_code 91 = .ok (.iload 5, 2) := by decide +kernel
theorem d_M_pull_93 : decode prog_14_method_28_code 93 = .ok (.if_icmp .eq 6, 3) := by decide +kernel
theorem d_M_pull_96 : decode prog_14_method_28_code 96 = .ok (.bipush (-4), 2) := by decide +kernel
theorem d_M_pull_98 : decode prog_14_method_28_code 98 = .ok (.ireturn, 1) := by decide +kernel
theorem d_M_pull_99 : decode prog_14_method_28_code 99 = .ok (.aload_n 0, 1) := by decide +kernel
theorem d_M_pull_100 : decode prog_14_method_28_code 100 = .ok (.bipush 6, 2) := by decide +kernel
theorem d_M_pull_102 : decode prog_14_method_28_code 102 = .ok (.iload_n 2, 1) := by decide +kernel
theorem d_M_pull_103 : decode prog_14_method_28_code 103 = .ok (.iload 5, 2) := by decide +kernel
theorem d_M_pull_105 : decode prog_14_method_28_code 105 = .ok (.iconst 0, 1) := by decide +kernel
theorem d_M_pull_106 : decode prog_14_method_28_code 106 = .ok (.iconst 0, 1) := by decide +kernel
theorem d_M_pull_107 : decode prog_14_method_28_code 107 = .ok (.iconst 0, 1) := by decide +kernel
theorem d_M_pull_108 : decode prog_14_method_28_code 108 = .ok (.invokevirtual 66, 3) := by decide +kernel
theorem d_M_pull_111 : decode prog_14_method_28_code 111 = .ok (.iconst 0, 1) := by decide +kernel
theorem d_M_pull_112 : decode prog_14_method_28_code 112 = .ok (.istore 6, 2) := by decide +kernel
theorem d_M_pull_114 : decode prog_14_method_28_code 114 = .ok (.iload 6, 2) := by decide +kernel
theorem d_M_pull_116 : decode prog_14_method_28_code 116 = .ok (.bipush 8, 2) := by decide +kernel
theorem d_M_pull_118 : decode prog_14_method_28_code 118 = .ok (.if_icmp .ge 31, 3) := by decide +kernel
theorem d_M_pull_121 : decode prog_14_method_28_code 121 = .ok (.aload_n 0, 1) := by decide +kernel
theorem d_M_pull_122 : decode prog_14_method_28_code 122 = .ok (.getfield 29, 3) := by decide +kernel
theorem d_M_pull_125 : decode prog_14_method_28_code 125 = .ok (.bipush 7, 2) := by decide +kernel
theorem d_M_pull_127 : decode prog_14_method_28_code 127 = .ok (.iload 6, 2) := by decide +kernel
theorem d_M_pull_129 : decode prog_14_method_28_code 129 = .ok (.iadd, 1) := by decide +kernel
theorem d_M_pull_130 : decode prog_14_method_28_code 130 = .ok (.aload_n 0, 1) := by decide +kernel
theorem d_M_pull_131 : decode prog_14_method_28_code 131 = .ok (.getfield 44, 3) := by decide +kernel
theorem d_M_pull_134 : decode prog_14_method_28_code 134 = .ok (.bipush 8, 2) := by decide +kernel
theorem d_M_pull_136 : decode prog_14_method_28_code 136 = .ok (.iload_n 2, 1) := by decide +kernel
theorem d_M_pull_137 : decode prog_14_method_28_code 137 = .ok (.imul, 1) := by decide +kernel
theorem d_M_pull_138 : decode prog_14_method_28_code 138 = .ok (.iload 6, 2) := by decide +kernel
theorem d_M_pull_140 : decode prog_14_method_28_code 140 = .ok (.iadd, 1) := by decide +kernel
theorem d_M_pull_141 : decode prog_14_method_28_code 141 = .ok (.iaload, 1) := by decide +kernel
theorem d_M_pull_142 : decode prog_14_method_28_code 142 = .ok (.iastore, 1) := by decide +kernel
theorem d_M_pull_143 : decode prog_14_method_28_code 143 = .ok (.iinc 6 1, 3) := by decide +kernel
theorem d_M_pull_146 : decode prog_14_method_28_code 146 = .ok (.goto (-32), 3) := by decide +kernel
theorem d_M_pull_149 : decode prog_14_method_28_code 149 = .ok (.aload_n 0, 1) := by decide +kernel
theorem d_M_pull_150 : decode prog_14_method_28_code 150 = .ok (.iload_n 1, 1) := by decide +kernel
theorem d_M_pull_151 : decode prog_14_method_28_code 151 = .ok (.invokevirtual 70, 3) := by decide +kernel
theorem d_M_pull_154 : decode prog_14_method_28_code 154 = .ok (.ireturn, 1) := by decide +kernel
theorem d_M_confirm_0 : decode prog_14_method_29_code 0 = .ok (.aload_n 0, 1) := by decide +kernel
theorem d_M_confirm_1 : decode prog_14_method_29_code 1 = .ok (.iload_n 1, 1) := by decide +kernel
theorem d_M_confirm_2 : decode prog_14_method_29_code 2 = .ok (.invokevirtual 112, 3) := by decide +kernel
theorem d_M_confirm_5 : decode prog_14_method_29_code 5 = .ok (.ifCond .ne 20, 3) := by decide +kernel
theorem d_M_confirm_8 : decode prog_14_method_29_code 8 = .ok (.aload_n 0, 1) := by decide +kernel
theorem d_M_confirm_9 : decode prog_14_method_29_code 9 = .ok (.iload_n 3, 1) := by decide +kernel
theorem d_M_confirm_10 : decode prog_14_method_29_code 10 = .ok (.invokevirtual 112, 3) := by decide +kernel
theorem d_M_confirm_13 : decode prog_14_method_29_code 13 = .ok (.ifCond .ne 12, 3) := by decide +kernel
theorem d_M_confirm_16 : decode prog_14_method_29_code 16 = .ok (.iload_n 2, 1) := by decide +kernel
theorem d_M_confirm_17 : decode prog_14_method_29_code 17 = .ok (.bipush 8, 2) := by decide +kernel
theorem d_M_confirm_19 : decode prog_14_method_29_code 19 = .ok (.invokestatic 47, 3) := by decide +kernel
theorem d_M_confirm_22 : decode prog_14_method_29_code 22 = .ok (.ifCond .ne 5, 3) := by decide +kernel
theorem d_M_confirm_25 : decode prog_14_method_29_code 25 = .ok (.iconst (-1), 1) := by decide +kernel
theorem d_M_confirm_26 : decode prog_14_method_29_code 26 = .ok (.ireturn, 1) := by decide +kernel
theorem d_M_confirm_27 : decode prog_14_method_29_code 27 = .ok (.aload_n 0, 1) := by decide +kernel
theorem d_M_confirm_28 : decode prog_14_method_29_code 28 = .ok (.getfield 13, 3) := by decide +kernel
theorem d_M_confirm_31 : decode prog_14_method_29_code 31 = .ok (.iload_n 1, 1) := by decide +kernel
theorem d_M_confirm_32 : decode prog_14_method_29_code 32 = .ok (.baload, 1) := by decide +kernel
theorem d_M_confirm_33 : decode prog_14_method_29_code 33 = .ok (.ifCond .ne 6, 3) := by decide +kernel
theorem d_M_confirm_36 : decode prog_14_method_29_code 36 = .ok (.bipush (-2), 2) := by decide +kernel
theorem d_M_confirm_38 : decode prog_14_method_29_code 38 = .ok (.ireturn, 1) := by decide +kernel
theorem d_M_confirm_39 : decode prog_14_method_29_code 39 = .ok (.aload_n 0, 1) := by decide +kernel
theorem d_M_confirm_40 : decode prog_14_method_29_code 40 = .ok (.iload_n 1, 1) := by decide +kernel
theorem d_M_confirm_41 : decode prog_14_method_29_code 41 = .ok (.invokevirtual 115, 3) := by decide +kernel
theorem d_M_confirm_44 : decode prog_14_method_29_code 44 = .ok (.aload_n 0, 1) := by decide +kernel
theorem d_M_confirm_45 : decode prog_14_method_29_code 45 = .ok (.getfield 41, 3) := by decide +kernel
theorem d_M_confirm_48 : decode prog_14_method_29_code 48 = .ok (.iload_n 2, 1) := by decide +kernel
theorem d_M_confirm_49 : decode prog_14_method_29_code 49 = .ok (.iaload, 1) := by decide +kernel
theorem d_M_confirm_50 : decode prog_14_method_29_code 50 = .ok (.iconst 3, 1) := by decide +kernel
theorem d_M_confirm_51 : decode prog_14_method_29_code 51 = .ok (.if_icmp .ne 19, 3) := by decide +kernel
theorem d_M_confirm_54 : decode prog_14_method_29_code 54 = .ok (.aload_n 0, 1) := by decide +kernel
theorem d_M_confirm_55 : decode prog_14_method_29_code 55 = .ok (.getfield 38, 3) := by decide +kernel
theorem d_M_confirm_58 : decode prog_14_method_29_code 58 = .ok (.iload_n 2, 1) := by decide +kernel
theorem d_M_confirm_59 : decode prog_14_method_29_code 59 = .ok (.iaload, 1) := by decide +kernel
theorem d_M_confirm_60 : decode prog_14_method_29_code 60 = .ok (.iload_n 3, 1) := by decide +kernel
theorem d_M_confirm_61 : decode prog_14_method_29_code 61 = .ok (.iconst 3, 1) := by decide +kernel
theorem d_M_confirm_62 : decode prog_14_method_29_code 62 = .ok (.idiv, 1) := by decide +kernel
theorem d_M_confirm_63 : decode prog_14_method_29_code 63 = .ok (.if_icmp .ne 7, 3) := by decide +kernel
theorem d_M_confirm_66 : decode prog_14_method_29_code 66 = .ok (.iconst 1, 1) := by decide +kernel
theorem d_M_confirm_67 : decode prog_14_method_29_code 67 = .ok (.goto 4, 3) := by decide +kernel
theorem d_M_confirm_70 : decode prog_14_method_29_code 70 = .ok (.iconst 0, 1) := by decide +kernel
theorem d_M_confirm_71 : decode prog_14_method_29_code 71 = .ok (.istore 4, 2) := by decide +kernel
theorem d_M_confirm_73 : decode prog_14_method_29_code 73 = .ok (.aload_n 0, 1) := by decide +kernel
theorem d_M_confirm_74 : decode prog_14_method_29_code 74 = .ok (.getfield 99, 3) := by decide +kernel
theorem d_M_confirm_77 : decode prog_14_method_29_code 77 = .ok (.istore 5, 2) := by decide +kernel
theorem d_M_confirm_79 : decode prog_14_method_29_code 79 = .ok (.aload_n 0, 1) := by decide +kernel
theorem d_M_confirm_80 : decode prog_14_method_29_code 80 = .ok (.iload_n 3, 1) := by decide +kernel
theorem d_M_confirm_81 : decode prog_14_method_29_code 81 = .ok (.invokevirtual 115, 3) := by decide +kernel
theorem d_M_confirm_84 : decode prog_14_method_29_code 84 = .ok (.iload 4, 2) := by decide +kernel
theorem d_M_confirm_86 : decode prog_14_method_29_code 86 = .ok (.ifCond .eq 31, 3) := by decide +kernel
theorem d_M_confirm_89 : decode prog_14_method_29_code 89 = .ok (.aload_n 0, 1) := by decide +kernel
theorem d_M_confirm_90 : decode prog_14_method_29_code 90 = .ok (.getfield 99, 3) := by decide +kernel
theorem d_M_confirm_93 : decode prog_14_method_29_code 93 = .ok (.iload 5, 2) := by decide +kernel
theorem d_M_confirm_95 : decode prog_14_method_29_code 95 = .ok (.if_icmp .lt 22, 3) := by decide +kernel
theorem d_M_confirm_98 : decode prog_14_method_29_code 98 = .ok (.aload_n 0, 1) := by decide +kernel
theorem d_M_confirm_99 : decode prog_14_method_29_code 99 = .ok (.getfield 99, 3) := by decide +kernel
theorem d_M_confirm_102 : decode prog_14_method_29_code 102 = .ok (.iload 5, 2) := by decide +kernel
theorem d_M_confirm_104 : decode prog_14_method_29_code 104 = .ok (.if_icmp .ne 16, 3) := by decide +kernel
theorem d_M_confirm_107 : decode prog_14_method_29_code 107 = .ok (.aload_n 0, 1) := by decide +kernel
theorem d_M_confirm_108 : decode prog_14_method_29_code 108 = .ok (.getfield 41, 3) := by decide +kernel
theorem d_M_confirm_111 : decode prog_14_method_29_code 111 = .ok (.iload_n 2, 1) := by decide +kernel
theorem d_M_confirm_112 : decode prog_14_method_29_code 112 = .ok (.iaload, 1) := by decide +kernel
theorem d_M_confirm_113 : decode prog_14_method_29_code 113 = .ok (.iconst 1, 1) := by decide +kernel
theorem d_M_confirm_114 : decode prog_14_method_29_code 114 = .ok (.if_icmp .eq 6, 3) := by decide +kernel
theorem d_M_confirm_117 : decode prog_14_method_29_code 117 = .ok (.bipush (-4), 2) := by decide +kernel
theorem d_M_confirm_119 : decode prog_14_method_29_code 119 = .ok (.ireturn, 1) := by decide +kernel
theorem d_M_confirm_120 : decode prog_14_method_29_code 120 = .ok (.aload_n 0, 1) := by decide +kernel
theorem d_M_confirm_121 : decode prog_14_method_29_code 121 = .ok (.bipush 7, 2) := by decide +kernel
theorem d_M_confirm_123 : decode prog_14_method_29_code 123 = .ok (.iload_n 2, 1) := by decide +kernel
theorem d_M_confirm_124 : decode prog_14_method_29_code 124 = .ok (.iload 5, 2) := by decide +kernel
theorem d_M_confirm_126 : decode prog_14_method_29_code 126 = .ok (.iconst 0, 1) := by decide +kernel
theorem d_M_confirm_127 : decode prog_14_method_29_code 127 = .ok (.iconst 0, 1) := by decide +kernel
theorem d_M_confirm_128 : decode prog_14_method_29_code 128 = .ok (.iconst 0, 1) := by decide +kernel
theorem d_M_confirm_129 : decode prog_14_method_29_code 129 = .ok (.invokevirtual 66, 3) := by decide +kernel
theorem d_M_confirm_132 : decode prog_14_method_29_code 132 = .ok (.aload_n 0, 1) := by decide +kernel
theorem d_M_confirm_133 : decode prog_14_method_29_code 133 = .ok (.iload_n 1, 1) := by decide +kernel
theorem d_M_confirm_134 : decode prog_14_method_29_code 134 = .ok (.invokevirtual 70, 3) := by decide +kernel
theorem d_M_confirm_137 : decode prog_14_method_29_code 137 = .ok (.ireturn, 1) := by decide +kernel
theorem d_M_length_0 : decode prog_14_method_30_code 0 = .ok (.iload_n 1, 1) := by decide +kernel
theorem d_M_length_1 : decode prog_14_method_30_code 1 = .ok (.bipush 12, 2) := by decide +kernel
theorem d_M_length_3 : decode prog_14_method_30_code 3 = .ok (.invokestatic 47, 3) := by decide +kernel
theorem d_M_length_6 : decode prog_14_method_30_code 6 = .ok (.ifCond .eq 12, 3) := by decide +kernel
theorem d_M_length_9 : decode prog_14_method_30_code 9 = .ok (.aload_n 0, 1) := by decide +kernel
theorem d_M_length_10 : decode prog_14_method_30_code 10 = .ok (.getfield 20, 3) := by decide +kernel
theorem d_M_length_13 : decode prog_14_method_30_code 13 = .ok (.iload_n 1, 1) := by decide +kernel
theorem d_M_length_14 : decode prog_14_method_30_code 14 = .ok (.iaload, 1) := by decide +kernel
theorem d_M_length_15 : decode prog_14_method_30_code 15 = .ok (.goto 4, 3) := by decide +kernel
theorem d_M_length_18 : decode prog_14_method_30_code 18 = .ok (.iconst (-1), 1) := by decide +kernel
theorem d_M_length_19 : decode prog_14_method_30_code 19 = .ok (.ireturn, 1) := by decide +kernel
theorem d_M_known_0 : decode prog_14_method_31_code 0 = .ok (.iload_n 1, 1) := by decide +kernel
theorem d_M_known_1 : decode prog_14_method_31_code 1 = .ok (.bipush 12, 2) := by decide +kernel
theorem d_M_known_3 : decode prog_14_method_31_code 3 = .ok (.invokestatic 47, 3) := by decide +kernel
theorem d_M_known_6 : decode prog_14_method_31_code 6 = .ok (.ifCond .eq 12, 3) := by decide +kernel
theorem d_M_known_9 : decode prog_14_method_31_code 9 = .ok (.aload_n 0, 1) := by decide +kernel
theorem d_M_known_10 : decode prog_14_method_31_code 10 = .ok (.getfield 23, 3) := by decide +kernel
theorem d_M_known_13 : decode prog_14_method_31_code 13 = .ok (.iload_n 1, 1) := by decide +kernel
theorem d_M_known_14 : decode prog_14_method_31_code 14 = .ok (.iaload, 1) := by decide +kernel
theorem d_M_known_15 : decode prog_14_method_31_code 15 = .ok (.goto 4, 3) := by decide +kernel
theorem d_M_known_18 : decode prog_14_method_31_code 18 = .ok (.iconst (-1), 1) := by decide +kernel
theorem d_M_known_19 : decode prog_14_method_31_code 19 = .ok (.ireturn, 1) := by decide +kernel
