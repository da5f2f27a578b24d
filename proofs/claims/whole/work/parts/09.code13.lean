theorem d_M_settled_0 : decode prog_14_method_21_code 0 = .ok (.iconst 1, 1) := by decide +kernel
theorem d_M_settled_1 : decode prog_14_method_21_code 1 = .ok (.istore_n 1, 1) := by decide +kernel
theorem d_M_settled_2 : decode prog_14_method_21_code 2 = .ok (.iconst 0, 1) := by decide +kernel
theorem d_M_settled_3 : decode prog_14_method_21_code 3 = .ok (.istore_n 2, 1) := by decide +kernel
theorem d_M_settled_4 : decode prog_14_method_21_code 4 = .ok (.iload_n 2, 1) := by decide +kernel
theorem d_M_settled_5 : decode prog_14_method_21_code 5 = .ok (.bipush 8, 2) := by decide +kernel
theorem d_M_settled_7 : decode prog_14_method_21_code 7 = .ok (.if_icmp .ge 29, 3) := by decide +kernel
theorem d_M_settled_10 : decode prog_14_method_21_code 10 = .ok (.iload_n 1, 1) := by decide +kernel
theorem d_M_settled_11 : decode prog_14_method_21_code 11 = .ok (.ifCond .eq 17, 3) := by decide +kernel
theorem d_M_settled_14 : decode prog_14_method_21_code 14 = .ok (.aload_n 0, 1) := by decide +kernel
theorem d_M_settled_15 : decode prog_14_method_21_code 15 = .ok (.getfield 41, 3) := by decide +kernel
theorem d_M_settled_18 : decode prog_14_method_21_code 18 = .ok (.iload_n 2, 1) := by decide +kernel
theorem d_M_settled_19 : decode prog_14_method_21_code 19 = .ok (.iaload, 1) := by decide +kernel
theorem d_M_settled_20 : decode prog_14_method_21_code 20 = .ok (.iconst 2, 1) := by decide +kernel
theorem d_M_settled_21 : decode prog_14_method_21_code 21 = .ok (.if_icmp .ge 7, 3) := by decide +kernel
theorem d_M_settled_24 : decode prog_14_method_21_code 24 = .ok (.iconst 1, 1) := by decide +kernel
theorem d_M_settled_25 : decode prog_14_method_21_code 25 = .ok (.goto 4, 3) := by decide +kernel
theorem d_M_settled_28 : decode prog_14_method_21_code 28 = .ok (.iconst 0, 1) := by decide +kernel
theorem d_M_settled_29 : decode prog_14_method_21_code 29 = .ok (.istore_n 1, 1) := by decide +kernel
theorem d_M_settled_30 : decode prog_14_method_21_code 30 = .ok (.iinc 2 1, 3) := by decide +kernel
theorem d_M_settled_33 : decode prog_14_method_21_code 33 = .ok (.goto (-29), 3) := by decide +kernel
theorem d_M_settled_36 : decode prog_14_method_21_code 36 = .ok (.iload_n 1, 1) := by decide +kernel
theorem d_M_settled_37 : decode prog_14_method_21_code 37 = .ok (.ireturn, 1) := by decide +kernel
theorem d_M_effect_0 : decode prog_14_method_23_code 0 = .ok (.aload_n 0, 1) := by decide +kernel
theorem d_M_effect_1 : decode prog_14_method_23_code 1 = .ok (.getfield 26, 3) := by decide +kernel
theorem d_M_effect_4 : decode prog_14_method_23_code 4 = .ok (.iload_n 1, 1) := by decide +kernel
theorem d_M_effect_5 : decode prog_14_method_23_code 5 = .ok (.iconst 2, 1) := by decide +kernel
theorem d_M_effect_6 : decode prog_14_method_23_code 6 = .ok (.iadd, 1) := by decide +kernel
theorem d_M_effect_7 : decode prog_14_method_23_code 7 = .ok (.iaload, 1) := by decide +kernel
theorem d_M_effect_8 : decode prog_14_method_23_code 8 = .ok (.istore_n 2, 1) := by decide +kernel
theorem d_M_effect_9 : decode prog_14_method_23_code 9 = .ok (.aload_n 0, 1) := by decide +kernel
theorem d_M_effect_10 : decode prog_14_method_23_code 10 = .ok (.getfield 26, 3) := by decide +kernel
theorem d_M_effect_13 : decode prog_14_method_23_code 13 = .ok (.iload_n 1, 1) := by decide +kernel
theorem d_M_effect_14 : decode prog_14_method_23_code 14 = .ok (.iconst 5, 1) := by decide +kernel
theorem d_M_effect_15 : decode prog_14_method_23_code 15 = .ok (.iadd, 1) := by decide +kernel
theorem d_M_effect_16 : decode prog_14_method_23_code 16 = .ok (.iaload, 1) := by decide +kernel
theorem d_M_effect_17 : decode prog_14_method_23_code 17 = .ok (.istore_n 3, 1) := by decide +kernel
theorem d_M_effect_18 : decode prog_14_method_23_code 18 = .ok (.iload_n 3, 1) := by decide +kernel
theorem d_M_effect_19 : decode prog_14_method_23_code 19 = .ok (.bipush 8, 2) := by decide +kernel
theorem d_M_effect_21 : decode prog_14_method_23_code 21 = .ok (.irem, 1) := by decide +kernel
theorem d_M_effect_22 : decode prog_14_method_23_code 22 = .ok (.istore 4, 2) := by decide +kernel
theorem d_M_effect_24 : decode prog_14_method_23_code 24 = .ok (.bipush 8, 2) := by decide +kernel
theorem d_M_effect_26 : decode prog_14_method_23_code 26 = .ok (.iload 4, 2) := by decide +kernel
theorem d_M_effect_28 : decode prog_14_method_23_code 28 = .ok (.imul, 1) := by decide +kernel
theorem d_M_effect_29 : decode prog_14_method_23_code 29 = .ok (.iload_n 3, 1) := by decide +kernel
theorem d_M_effect_30 : decode prog_14_method_23_code 30 = .ok (.bipush 8, 2) := by decide +kernel
theorem d_M_effect_32 : decode prog_14_method_23_code 32 = .ok (.idiv, 1) := by decide +kernel
theorem d_M_effect_33 : decode prog_14_method_23_code 33 = .ok (.iadd, 1) := by decide +kernel
theorem d_M_effect_34 : decode prog_14_method_23_code 34 = .ok (.istore 5, 2) := by decide +kernel
theorem d_M_effect_36 : decode prog_14_method_23_code 36 = .ok (.aload_n 0, 1) := by decide +kernel
theorem d_M_effect_37 : decode prog_14_method_23_code 37 = .ok (.getfield 41, 3) := by decide +kernel
theorem d_M_effect_40 : decode prog_14_method_23_code 40 = .ok (.iload 4, 2) := by decide +kernel
theorem d_M_effect_42 : decode prog_14_method_23_code 42 = .ok (.iaload, 1) := by decide +kernel
theorem d_M_effect_43 : decode prog_14_method_23_code 43 = .ok (.iconst 1, 1) := by decide +kernel
theorem d_M_effect_44 : decode prog_14_method_23_code 44 = .ok (.if_icmp .ne 28, 3) := by decide +kernel
theorem d_M_effect_47 : decode prog_14_method_23_code 47 = .ok (.aload_n 0, 1) := by decide +kernel
theorem d_M_effect_48 : decode prog_14_method_23_code 48 = .ok (.getfield 26, 3) := by decide +kernel
theorem d_M_effect_51 : decode prog_14_method_23_code 51 = .ok (.iload_n 1, 1) := by decide +kernel
theorem d_M_effect_52 : decode prog_14_method_23_code 52 = .ok (.iconst 3, 1) := by decide +kernel
theorem d_M_effect_53 : decode prog_14_method_23_code 53 = .ok (.iadd, 1) := by decide +kernel
theorem d_M_effect_54 : decode prog_14_method_23_code 54 = .ok (.iaload, 1) := by decide +kernel
theorem d_M_effect_55 : decode prog_14_method_23_code 55 = .ok (.aload_n 0, 1) := by decide +kernel
theorem d_M_effect_56 : decode prog_14_method_23_code 56 = .ok (.getfield 44, 3) := by decide +kernel
theorem d_M_effect_59 : decode prog_14_method_23_code 59 = .ok (.bipush 8, 2) := by decide +kernel
theorem d_M_effect_61 : decode prog_14_method_23_code 61 = .ok (.iload 4, 2) := by decide +kernel
theorem d_M_effect_63 : decode prog_14_method_23_code 63 = .ok (.imul, 1) := by decide +kernel
theorem d_M_effect_64 : decode prog_14_method_23_code 64 = .ok (.iconst 2, 1) := by decide +kernel
theorem d_M_effect_65 : decode prog_14_method_23_code 65 = .ok (.iadd, 1) := by decide +kernel
theorem d_M_effect_66 : decode prog_14_method_23_code 66 = .ok (.iload_n 2, 1) := by decide +kernel
theorem d_M_effect_67 : decode prog_14_method_23_code 67 = .ok (.iadd, 1) := by decide +kernel
theorem d_M_effect_68 : decode prog_14_method_23_code 68 = .ok (.iaload, 1) := by decide +kernel
theorem d_M_effect_69 : decode prog_14_method_23_code 69 = .ok (.if_icmp .gt 4, 3) := by decide +kernel
theorem d_M_effect_72 : decode prog_14_method_23_code 72 = .ok (.return_, 1) := by decide +kernel
theorem d_M_effect_73 : decode prog_14_method_23_code 73 = .ok (.aload_n 0, 1) := by decide +kernel
theorem d_M_effect_74 : decode prog_14_method_23_code 74 = .ok (.getfield 26, 3) := by decide +kernel
theorem d_M_effect_77 : decode prog_14_method_23_code 77 = .ok (.iload_n 1, 1) := by decide +kernel
theorem d_M_effect_78 : decode prog_14_method_23_code 78 = .ok (.iconst 4, 1) := by decide +kernel
theorem d_M_effect_79 : decode prog_14_method_23_code 79 = .ok (.iadd, 1) := by decide +kernel
theorem d_M_effect_80 : decode prog_14_method_23_code 80 = .ok (.iaload, 1) := by decide +kernel
theorem d_M_effect_81 : decode prog_14_method_23_code 81 = .ok (.istore 6, 2) := by decide +kernel
theorem d_M_effect_83 : decode prog_14_method_23_code 83 = .ok (.aload_n 0, 1) := by decide +kernel
theorem d_M_effect_84 : decode prog_14_method_23_code 84 = .ok (.getfield 26, 3) := by decide +kernel
theorem d_M_effect_87 : decode prog_14_method_23_code 87 = .ok (.iload_n 1, 1) := by decide +kernel
theorem d_M_effect_88 : decode prog_14_method_23_code 88 = .ok (.bipush 6, 2) := by decide +kernel
theorem d_M_effect_90 : decode prog_14_method_23_code 90 = .ok (.iadd, 1) := by decide +kernel
theorem d_M_effect_91 : decode prog_14_method_23_code 91 = .ok (.iaload, 1) := by decide +kernel
theorem d_M_effect_92 : decode prog_14_method_23_code 92 = .ok (.istore 7, 2) := by decide +kernel
theorem d_M_effect_94 : decode prog_14_method_23_code 94 = .ok (.aload_n 0, 1) := by decide +kernel
theorem d_M_effect_95 : decode prog_14_method_23_code 95 = .ok (.getfield 44, 3) := by decide +kernel
theorem d_M_effect_98 : decode prog_14_method_23_code 98 = .ok (.iload 5, 2) := by decide +kernel
theorem d_M_effect_100 : decode prog_14_method_23_code 100 = .ok (.iload 6, 2) := by decide +kernel
theorem d_M_effect_102 : decode prog_14_method_23_code 102 = .ok (.ifCond .ne 13, 3) := by decide +kernel
theorem d_M_effect_105 : decode prog_14_method_23_code 105 = .ok (.aload_n 0, 1) := by decide +kernel
theorem d_M_effect_106 : decode prog_14_method_23_code 106 = .ok (.getfield 44, 3) := by decide +kernel
theorem d_M_effect_109 : decode prog_14_method_23_code 109 = .ok (.iload 5, 2) := by decide +kernel
theorem d_M_effect_111 : decode prog_14_method_23_code 111 = .ok (.iaload, 1) := by decide +kernel
theorem d_M_effect_112 : decode prog_14_method_23_code 112 = .ok (.goto 28, 3) := by decide +kernel
theorem d_M_effect_115 : decode prog_14_method_23_code 115 = .ok (.iload 6, 2) := by decide +kernel
theorem d_M_effect_117 : decode prog_14_method_23_code 117 = .ok (.iconst 1, 1) := by decide +kernel
theorem d_M_effect_118 : decode prog_14_method_23_code 118 = .ok (.if_icmp .ne 8, 3) := by decide +kernel
theorem d_M_effect_121 : decode prog_14_method_23_code 121 = .ok (.iload 7, 2) := by decide +kernel
theorem d_M_effect_123 : decode prog_14_method_23_code 123 = .ok (.goto 17, 3) := by decide +kernel
theorem d_M_effect_126 : decode prog_14_method_23_code 126 = .ok (.aload_n 0, 1) := by decide +kernel
theorem d_M_effect_127 : decode prog_14_method_23_code 127 = .ok (.getfield 44, 3) := by decide +kernel
theorem d_M_effect_130 : decode prog_14_method_23_code 130 = .ok (.iload 5, 2) := by decide +kernel
theorem d_M_effect_132 : decode prog_14_method_23_code 132 = .ok (.iaload, 1) := by decide +kernel
theorem d_M_effect_133 : decode prog_14_method_23_code 133 = .ok (.iload 7, 2) := by decide +kernel
theorem d_M_effect_135 : decode prog_14_method_23_code 135 = .ok (.iadd, 1) := by decide +kernel
theorem d_M_effect_136 : decode prog_14_method_23_code 136 = .ok (.sipush 1000, 3) := by decide +kernel
theorem d_M_effect_139 : decode prog_14_method_23_code 139 = .ok (.irem, 1) := by decide +kernel
theorem d_M_effect_140 : decode prog_14_method_23_code 140 = .ok (.iastore, 1) := by decide +kernel
theorem d_M_effect_141 : decode prog_14_method_23_code 141 = .ok (.aload_n 0, 1) := by decide +kernel
theorem d_M_effect_142 : decode prog_14_method_23_code 142 = .ok (.getfield 44, 3) := by decide +kernel
theorem d_M_effect_145 : decode prog_14_method_23_code 145 = .ok (.bipush 8, 2) := by decide +kernel
theorem d_M_effect_147 : decode prog_14_method_23_code 147 = .ok (.iload 4, 2) := by decide +kernel
theorem d_M_effect_149 : decode prog_14_method_23_code 149 = .ok (.imul, 1) := by decide +kernel
theorem d_M_effect_150 : decode prog_14_method_23_code 150 = .ok (.iconst 2, 1) := by decide +kernel
theorem d_M_effect_151 : decode prog_14_method_23_code 151 = .ok (.iadd, 1) := by decide +kernel
theorem d_M_effect_152 : decode prog_14_method_23_code 152 = .ok (.iload_n 2, 1) := by decide +kernel
theorem d_M_effect_153 : decode prog_14_method_23_code 153 = .ok (.iadd, 1) := by decide +kernel
theorem d_M_effect_154 : decode prog_14_method_23_code 154 = .ok (.aload_n 0, 1) := by decide +kernel
theorem d_M_effect_155 : decode prog_14_method_23_code 155 = .ok (.getfield 26, 3) := by decide +kernel
theorem d_M_effect_158 : decode prog_14_method_23_code 158 = .ok (.iload_n 1, 1) := by decide +kernel
theorem d_M_effect_159 : decode prog_14_method_23_code 159 = .ok (.iconst 3, 1) := by decide +kernel
theorem d_M_effect_160 : decode prog_14_method_23_code 160 = .ok (.iadd, 1) := by decide +kernel
theorem d_M_effect_161 : decode prog_14_method_23_code 161 = .ok (.iaload, 1) := by decide +kernel
theorem d_M_effect_162 : decode prog_14_method_23_code 162 = .ok (.iastore, 1) := by decide +kernel
theorem d_M_effect_163 : decode prog_14_method_23_code 163 = .ok (.aload_n 0, 1) := by decide +kernel
theorem d_M_effect_164 : decode prog_14_method_23_code 164 = .ok (.getfield 44, 3) := by decide +kernel
theorem d_M_effect_167 : decode prog_14_method_23_code 167 = .ok (.bipush 8, 2) := by decide +kernel
theorem d_M_effect_169 : decode prog_14_method_23_code 169 = .ok (.iload 4, 2) := by decide +kernel
theorem d_M_effect_171 : decode prog_14_method_23_code 171 = .ok (.imul, 1) := by decide +kernel
theorem d_M_effect_172 : decode prog_14_method_23_code 172 = .ok (.iconst 5, 1) := by decide +kernel
theorem d_M_effect_173 : decode prog_14_method_23_code 173 = .ok (.iadd, 1) := by decide +kernel
theorem d_M_effect_174 : decode prog_14_method_23_code 174 = .ok (.iload_n 2, 1) := by decide +kernel
theorem d_M_effect_175 : decode prog_14_method_23_code 175 = .ok (.iadd, 1) := by decide +kernel
theorem d_M_effect_176 : decode prog_14_method_23_code 176 = .ok (.aload_n 0, 1) := by decide +kernel
theorem d_M_effect_177 : decode prog_14_method_23_code 177 = .ok (.getfield 44, 3) := by decide +kernel
theorem d_M_effect_180 : decode prog_14_method_23_code 180 = .ok (.iload 5, 2) := by decide +kernel
theorem d_M_effect_182 : decode prog_14_method_23_code 182 = .ok (.iaload, 1) := by decide +kernel
theorem d_M_effect_183 : decode prog_14_method_23_code 183 = .ok (.iastore, 1) := by decide +kernel
theorem d_M_effect_184 : decode prog_14_method_23_code 184 = .ok (.return_, 1) := by decide +kernel
theorem d_M_service_0 : decode prog_14_method_20_code 0 = .ok (.aload_n 0, 1) := by decide +kernel
theorem d_M_service_1 : decode prog_14_method_20_code 1 = .ok (.iconst 1, 1) := by decide +kernel
theorem d_M_service_2 : decode prog_14_method_20_code 2 = .ok (.putfield 83, 3) := by decide +kernel
theorem d_M_service_5 : decode prog_14_method_20_code 5 = .ok (.aload_n 0, 1) := by decide +kernel
theorem d_M_service_6 : decode prog_14_method_20_code 6 = .ok (.getfield 32, 3) := by decide +kernel
theorem d_M_service_9 : decode prog_14_method_20_code 9 = .ok (.iconst 0, 1) := by decide +kernel
theorem d_M_service_10 : decode prog_14_method_20_code 10 = .ok (.iconst 0, 1) := by decide +kernel
theorem d_M_service_11 : decode prog_14_method_20_code 11 = .ok (.iastore, 1) := by decide +kernel
theorem d_M_service_12 : decode prog_14_method_20_code 12 = .ok (.iconst 0, 1) := by decide +kernel
theorem d_M_service_13 : decode prog_14_method_20_code 13 = .ok (.istore_n 2, 1) := by decide +kernel
theorem d_M_service_14 : decode prog_14_method_20_code 14 = .ok (.iload_n 2, 1) := by decide +kernel
theorem d_M_service_15 : decode prog_14_method_20_code 15 = .ok (.bipush 8, 2) := by decide +kernel
theorem d_M_service_17 : decode prog_14_method_20_code 17 = .ok (.if_icmp .ge 16, 3) := by decide +kernel
theorem d_M_service_20 : decode prog_14_method_20_code 20 = .ok (.aload_n 0, 1) := by decide +kernel
theorem d_M_service_21 : decode prog_14_method_20_code 21 = .ok (.getfield 35, 3) := by decide +kernel
theorem d_M_service_24 : decode prog_14_method_20_code 24 = .ok (.iload_n 2, 1) := by decide +kernel
theorem d_M_service_25 : decode prog_14_method_20_code 25 = .ok (.iconst 0, 1) := by decide +kernel
theorem d_M_service_26 : decode prog_14_method_20_code 26 = .ok (.iastore, 1) := by decide +kernel
theorem d_M_service_27 : decode prog_14_method_20_code 27 = .ok (.iinc 2 1, 3) := by decide +kernel
theorem d_M_service_30 : decode prog_14_method_20_code 30 = .ok (.goto (-16), 3) := by decide +kernel
theorem d_M_service_33 : decode prog_14_method_20_code 33 = .ok (.iconst 0, 1) := by decide +kernel
theorem d_M_service_34 : decode prog_14_method_20_code 34 = .ok (.istore_n 2, 1) := by decide +kernel
theorem d_M_service_35 : decode prog_14_method_20_code 35 = .ok (.iload_n 2, 1) := by decide +kernel
theorem d_M_service_36 : decode prog_14_method_20_code 36 = .ok (.aload_n 0, 1) := by decide +kernel
theorem d_M_service_37 : decode prog_14_method_20_code 37 = .ok (.getfield 23, 3) := by decide +kernel
theorem d_M_service_40 : decode prog_14_method_20_code 40 = .ok (.iload_n 1, 1) := by decide +kernel
theorem d_M_service_41 : decode prog_14_method_20_code 41 = .ok (.iaload, 1) := by decide +kernel
theorem d_M_service_42 : decode prog_14_method_20_code 42 = .ok (.if_icmp .ge 59, 3) := by decide +kernel
theorem d_M_service_45 : decode prog_14_method_20_code 45 = .ok (.iload_n 1, 1) := by decide +kernel
theorem d_M_service_46 : decode prog_14_method_20_code 46 = .ok (.iload_n 2, 1) := by decide +kernel
theorem d_M_service_47 : decode prog_14_method_20_code 47 = .ok (.invokestatic 51, 3) := by decide +kernel
theorem d_M_service_50 : decode prog_14_method_20_code 50 = .ok (.istore_n 3, 1) := by decide +kernel
theorem d_M_service_51 : decode prog_14_method_20_code 51 = .ok (.aload_n 0, 1) := by decide +kernel
theorem d_M_service_52 : decode prog_14_method_20_code 52 = .ok (.getfield 26, 3) := by decide +kernel
theorem d_M_service_55 : decode prog_14_method_20_code 55 = .ok (.iload_n 3, 1) := by decide +kernel
theorem d_M_service_56 : decode prog_14_method_20_code 56 = .ok (.iconst 1, 1) := by decide +kernel
theorem d_M_service_57 : decode prog_14_method_20_code 57 = .ok (.iadd, 1) := by decide +kernel
theorem d_M_service_58 : decode prog_14_method_20_code 58 = .ok (.iaload, 1) := by decide +kernel
theorem d_M_service_59 : decode prog_14_method_20_code 59 = .ok (.istore 4, 2) := by decide +kernel
theorem d_M_service_61 : decode prog_14_method_20_code 61 = .ok (.iload 4, 2) := by decide +kernel
theorem d_M_service_63 : decode prog_14_method_20_code 63 = .ok (.iconst 1, 1) := by decide +kernel
theorem d_M_service_64 : decode prog_14_method_20_code 64 = .ok (.if_icmp .lt 31, 3) := by decide +kernel
theorem d_M_service_67 : decode prog_14_method_20_code 67 = .ok (.iload 4, 2) := by decide +kernel
theorem d_M_service_69 : decode prog_14_method_20_code 69 = .ok (.iconst 3, 1) := by decide +kernel
theorem d_M_service_70 : decode prog_14_method_20_code 70 = .ok (.if_icmp .gt 25, 3) := by decide +kernel
theorem d_M_service_73 : decode prog_14_method_20_code 73 = .ok (.aload_n 0, 1) := by decide +kernel
theorem d_M_service_74 : decode prog_14_method_20_code 74 = .ok (.iload 4, 2) := by decide +kernel
theorem d_M_service_76 : decode prog_14_method_20_code 76 = .ok (.aload_n 0, 1) := by decide +kernel
theorem d_M_service_77 : decode prog_14_method_20_code 77 = .ok (.getfield 26, 3) := by decide +kernel
theorem d_M_service_80 : decode prog_14_method_20_code 80 = .ok (.iload_n 3, 1) := by decide +kernel
theorem d_M_service_81 : decode prog_14_method_20_code 81 = .ok (.iconst 2, 1) := by decide +kernel
theorem d_M_service_82 : decode prog_14_method_20_code 82 = .ok (.iadd, 1) := by decide +kernel
theorem d_M_service_83 : decode prog_14_method_20_code 83 = .ok (.iaload, 1) := by decide +kernel
theorem d_M_service_84 : decode prog_14_method_20_code 84 = .ok (.aload_n 0, 1) := by decide +kernel
theorem d_M_service_85 : decode prog_14_method_20_code 85 = .ok (.getfield 26, 3) := by decide +kernel
theorem d_M_service_88 : decode prog_14_method_20_code 88 = .ok (.iload_n 3, 1) := by decide +kernel
theorem d_M_service_89 : decode prog_14_method_20_code 89 = .ok (.iconst 3, 1) := by decide +kernel
theorem d_M_service_90 : decode prog_14_method_20_code 90 = .ok (.iadd, 1) := by decide +kernel
theorem d_M_service_91 : decode prog_14_method_20_code 91 = .ok (.iaload, 1) := by decide +kernel
theorem d_M_service_92 : decode prog_14_method_20_code 92 = .ok (.invokevirtual 91, 3) := by decide +kernel
theorem d_M_service_95 : decode prog_14_method_20_code 95 = .ok (.iinc 2 1, 3) := by decide +kernel
theorem d_M_service_98 : decode prog_14_method_20_code 98 = .ok (.goto (-63), 3) := by decide +kernel
theorem d_M_service_101 : decode prog_14_method_20_code 101 = .ok (.return_, 1) := by decide +kernel
theorem d_M_alter_0 : decode prog_14_method_19_code 0 = .ok (.aload_n 0, 1) := by decide +kernel
theorem d_M_alter_1 : decode prog_14_method_19_code 1 = .ok (.getfield 83, 3) := by decide +kernel
theorem d_M_alter_4 : decode prog_14_method_19_code 4 = .ok (.istore 4, 2) := by decide +kernel
theorem d_M_alter_6 : decode prog_14_method_19_code 6 = .ok (.aload_n 0, 1) := by decide +kernel
theorem d_M_alter_7 : decode prog_14_method_19_code 7 = .ok (.getfield 32, 3) := by decide +kernel
theorem d_M_alter_10 : decode prog_14_method_19_code 10 = .ok (.iload 4, 2) := by decide +kernel
theorem d_M_alter_12 : decode prog_14_method_19_code 12 = .ok (.iconst 1, 1) := by decide +kernel
theorem d_M_alter_13 : decode prog_14_method_19_code 13 = .ok (.isub, 1) := by decide +kernel
theorem d_M_alter_14 : decode prog_14_method_19_code 14 = .ok (.iaload, 1) := by decide +kernel
theorem d_M_alter_15 : decode prog_14_method_19_code 15 = .ok (.istore 5, 2) := by decide +kernel
theorem d_M_alter_17 : decode prog_14_method_19_code 17 = .ok (.iload 5, 2) := by decide +kernel
theorem d_M_alter_19 : decode prog_14_method_19_code 19 = .ok (.iload_n 1, 1) := by decide +kernel
theorem d_M_alter_20 : decode prog_14_method_19_code 20 = .ok (.iconst 3, 1) := by decide +kernel
theorem d_M_alter_21 : decode prog_14_method_19_code 21 = .ok (.if_icmp .ne 7, 3) := by decide +kernel
theorem d_M_alter_24 : decode prog_14_method_19_code 24 = .ok (.iload_n 3, 1) := by decide +kernel
theorem d_M_alter_25 : decode prog_14_method_19_code 25 = .ok (.goto 4, 3) := by decide +kernel
theorem d_M_alter_28 : decode prog_14_method_19_code 28 = .ok (.iload_n 2, 1) := by decide +kernel
theorem d_M_alter_29 : decode prog_14_method_19_code 29 = .ok (.ishr, 1) := by decide +kernel
theorem d_M_alter_30 : decode prog_14_method_19_code 30 = .ok (.iconst 1, 1) := by decide +kernel
theorem d_M_alter_31 : decode prog_14_method_19_code 31 = .ok (.iand, 1) := by decide +kernel
theorem d_M_alter_32 : decode prog_14_method_19_code 32 = .ok (.iconst 1, 1) := by decide +kernel
theorem d_M_alter_33 : decode prog_14_method_19_code 33 = .ok (.if_icmp .ne 7, 3) := by decide +kernel
theorem d_M_alter_36 : decode prog_14_method_19_code 36 = .ok (.iconst 1, 1) := by decide +kernel
theorem d_M_alter_37 : decode prog_14_method_19_code 37 = .ok (.goto 4, 3) := by decide +kernel
theorem d_M_alter_40 : decode prog_14_method_19_code 40 = .ok (.iconst 0, 1) := by decide +kernel
theorem d_M_alter_41 : decode prog_14_method_19_code 41 = .ok (.istore 6, 2) := by decide +kernel
theorem d_M_alter_43 : decode prog_14_method_19_code 43 = .ok (.iload_n 1, 1) := by decide +kernel
theorem d_M_alter_44 : decode prog_14_method_19_code 44 = .ok (.iconst 1, 1) := by decide +kernel
theorem d_M_alter_45 : decode prog_14_method_19_code 45 = .ok (.if_icmp .ne 16, 3) := by decide +kernel
theorem d_M_alter_48 : decode prog_14_method_19_code 48 = .ok (.iload 6, 2) := by decide +kernel
theorem d_M_alter_50 : decode prog_14_method_19_code 50 = .ok (.ifCond .ne 7, 3) := by decide +kernel
theorem d_M_alter_53 : decode prog_14_method_19_code 53 = .ok (.iconst 1, 1) := by decide +kernel
theorem d_M_alter_54 : decode prog_14_method_19_code 54 = .ok (.goto 35, 3) := by decide +kernel
theorem d_M_alter_57 : decode prog_14_method_19_code 57 = .ok (.iconst 0, 1) := by decide +kernel
theorem d_M_alter_58 : decode prog_14_method_19_code 58 = .ok (.goto 31, 3) := by decide +kernel
theorem d_M_alter_61 : decode prog_14_method_19_code 61 = .ok (.iload_n 1, 1) := by decide +kernel
theorem d_M_alter_62 : decode prog_14_method_19_code 62 = .ok (.iconst 2, 1) := by decide +kernel
theorem d_M_alter_63 : decode prog_14_method_19_code 63 = .ok (.if_icmp .ne 24, 3) := by decide +kernel
theorem d_M_alter_66 : decode prog_14_method_19_code 66 = .ok (.iload 6, 2) := by decide +kernel
theorem d_M_alter_68 : decode prog_14_method_19_code 68 = .ok (.ifCond .eq 15, 3) := by decide +kernel
theorem d_M_alter_71 : decode prog_14_method_19_code 71 = .ok (.iload 5, 2) := by decide +kernel
theorem d_M_alter_73 : decode prog_14_method_19_code 73 = .ok (.iconst 1, 1) := by decide +kernel
theorem d_M_alter_74 : decode prog_14_method_19_code 74 = .ok (.iload_n 2, 1) := by decide +kernel
theorem d_M_alter_75 : decode prog_14_method_19_code 75 = .ok (.ishl, 1) := by decide +kernel
theorem d_M_alter_76 : decode prog_14_method_19_code 76 = .ok (.if_icmp .eq 7, 3) := by decide +kernel
