theorem d_M_group_2 : decode prog_14_method_24_code 2 = .ok (.putfield 99, 3) := by decide +kernel
theorem d_M_group_5 : decode prog_14_method_24_code 5 = .ok (.iconst 0, 1) := by decide +kernel
theorem d_M_group_6 : decode prog_14_method_24_code 6 = .ok (.istore_n 2, 1) := by decide +kernel
theorem d_M_group_7 : decode prog_14_method_24_code 7 = .ok (.iload_n 2, 1) := by decide +kernel
theorem d_M_group_8 : decode prog_14_method_24_code 8 = .ok (.bipush 8, 2) := by decide +kernel
theorem d_M_group_10 : decode prog_14_method_24_code 10 = .ok (.if_icmp .ge 23, 3) := by decide +kernel
theorem d_M_group_13 : decode prog_14_method_24_code 13 = .ok (.aload_n 0, 1) := by decide +kernel
theorem d_M_group_14 : decode prog_14_method_24_code 14 = .ok (.getfield 38, 3) := by decide +kernel
theorem d_M_group_17 : decode prog_14_method_24_code 17 = .ok (.iload_n 2, 1) := by decide +kernel
theorem d_M_group_18 : decode prog_14_method_24_code 18 = .ok (.iconst 0, 1) := by decide +kernel
theorem d_M_group_19 : decode prog_14_method_24_code 19 = .ok (.iastore, 1) := by decide +kernel
theorem d_M_group_20 : decode prog_14_method_24_code 20 = .ok (.aload_n 0, 1) := by decide +kernel
theorem d_M_group_21 : decode prog_14_method_24_code 21 = .ok (.getfield 41, 3) := by decide +kernel
theorem d_M_group_24 : decode prog_14_method_24_code 24 = .ok (.iload_n 2, 1) := by decide +kernel
theorem d_M_group_25 : decode prog_14_method_24_code 25 = .ok (.iconst 0, 1) := by decide +kernel
theorem d_M_group_26 : decode prog_14_method_24_code 26 = .ok (.iastore, 1) := by decide +kernel
theorem d_M_group_27 : decode prog_14_method_24_code 27 = .ok (.iinc 2 1, 3) := by decide +kernel
theorem d_M_group_30 : decode prog_14_method_24_code 30 = .ok (.goto (-23), 3) := by decide +kernel
theorem d_M_group_33 : decode prog_14_method_24_code 33 = .ok (.iconst 0, 1) := by decide +kernel
theorem d_M_group_34 : decode prog_14_method_24_code 34 = .ok (.istore_n 2, 1) := by decide +kernel
theorem d_M_group_35 : decode prog_14_method_24_code 35 = .ok (.iload_n 2, 1) := by decide +kernel
theorem d_M_group_36 : decode prog_14_method_24_code 36 = .ok (.aload_n 0, 1) := by decide +kernel
theorem d_M_group_37 : decode prog_14_method_24_code 37 = .ok (.getfield 23, 3) := by decide +kernel
theorem d_M_group_40 : decode prog_14_method_24_code 40 = .ok (.iload_n 1, 1) := by decide +kernel
theorem d_M_group_41 : decode prog_14_method_24_code 41 = .ok (.iaload, 1) := by decide +kernel
theorem d_M_group_42 : decode prog_14_method_24_code 42 = .ok (.if_icmp .ge 190, 3) := by decide +kernel
theorem d_M_group_45 : decode prog_14_method_24_code 45 = .ok (.iload_n 1, 1) := by decide +kernel
theorem d_M_group_46 : decode prog_14_method_24_code 46 = .ok (.iload_n 2, 1) := by decide +kernel
theorem d_M_group_47 : decode prog_14_method_24_code 47 = .ok (.invokestatic 51, 3) := by decide +kernel
theorem d_M_group_50 : decode prog_14_method_24_code 50 = .ok (.istore_n 3, 1) := by decide +kernel
theorem d_M_group_51 : decode prog_14_method_24_code 51 = .ok (.aload_n 0, 1) := by decide +kernel
theorem d_M_group_52 : decode prog_14_method_24_code 52 = .ok (.getfield 26, 3) := by decide +kernel
theorem d_M_group_55 : decode prog_14_method_24_code 55 = .ok (.iload_n 3, 1) := by decide +kernel
theorem d_M_group_56 : decode prog_14_method_24_code 56 = .ok (.iconst 1, 1) := by decide +kernel
theorem d_M_group_57 : decode prog_14_method_24_code 57 = .ok (.iadd, 1) := by decide +kernel
theorem d_M_group_58 : decode prog_14_method_24_code 58 = .ok (.iaload, 1) := by decide +kernel
theorem d_M_group_59 : decode prog_14_method_24_code 59 = .ok (.istore 4, 2) := by decide +kernel
theorem d_M_group_61 : decode prog_14_method_24_code 61 = .ok (.aload_n 0, 1) := by decide +kernel
theorem d_M_group_62 : decode prog_14_method_24_code 62 = .ok (.getfield 26, 3) := by decide +kernel
theorem d_M_group_65 : decode prog_14_method_24_code 65 = .ok (.iload_n 3, 1) := by decide +kernel
theorem d_M_group_66 : decode prog_14_method_24_code 66 = .ok (.iconst 2, 1) := by decide +kernel
theorem d_M_group_67 : decode prog_14_method_24_code 67 = .ok (.iadd, 1) := by decide +kernel
theorem d_M_group_68 : decode prog_14_method_24_code 68 = .ok (.iaload, 1) := by decide +kernel
theorem d_M_group_69 : decode prog_14_method_24_code 69 = .ok (.istore 5, 2) := by decide +kernel
theorem d_M_group_71 : decode prog_14_method_24_code 71 = .ok (.iload 4, 2) := by decide +kernel
theorem d_M_group_73 : decode prog_14_method_24_code 73 = .ok (.bipush 6, 2) := by decide +kernel
theorem d_M_group_75 : decode prog_14_method_24_code 75 = .ok (.if_icmp .eq 10, 3) := by decide +kernel
theorem d_M_group_78 : decode prog_14_method_24_code 78 = .ok (.iload 4, 2) := by decide +kernel
theorem d_M_group_80 : decode prog_14_method_24_code 80 = .ok (.bipush 7, 2) := by decide +kernel
theorem d_M_group_82 : decode prog_14_method_24_code 82 = .ok (.if_icmp .ne 44, 3) := by decide +kernel
theorem d_M_group_85 : decode prog_14_method_24_code 85 = .ok (.aload_n 0, 1) := by decide +kernel
theorem d_M_group_86 : decode prog_14_method_24_code 86 = .ok (.getfield 26, 3) := by decide +kernel
theorem d_M_group_89 : decode prog_14_method_24_code 89 = .ok (.iload_n 3, 1) := by decide +kernel
theorem d_M_group_90 : decode prog_14_method_24_code 90 = .ok (.iconst 3, 1) := by decide +kernel
theorem d_M_group_91 : decode prog_14_method_24_code 91 = .ok (.iadd, 1) := by decide +kernel
theorem d_M_group_92 : decode prog_14_method_24_code 92 = .ok (.iaload, 1) := by decide +kernel
theorem d_M_group_93 : decode prog_14_method_24_code 93 = .ok (.aload_n 0, 1) := by decide +kernel
theorem d_M_group_94 : decode prog_14_method_24_code 94 = .ok (.getfield 99, 3) := by decide +kernel
theorem d_M_group_97 : decode prog_14_method_24_code 97 = .ok (.if_icmp .ne 29, 3) := by decide +kernel
theorem d_M_group_100 : decode prog_14_method_24_code 100 = .ok (.aload_n 0, 1) := by decide +kernel
theorem d_M_group_101 : decode prog_14_method_24_code 101 = .ok (.getfield 41, 3) := by decide +kernel
theorem d_M_group_104 : decode prog_14_method_24_code 104 = .ok (.iload 5, 2) := by decide +kernel
theorem d_M_group_106 : decode prog_14_method_24_code 106 = .ok (.iaload, 1) := by decide +kernel
theorem d_M_group_107 : decode prog_14_method_24_code 107 = .ok (.iload 4, 2) := by decide +kernel
theorem d_M_group_109 : decode prog_14_method_24_code 109 = .ok (.bipush 6, 2) := by decide +kernel
theorem d_M_group_111 : decode prog_14_method_24_code 111 = .ok (.if_icmp .ne 7, 3) := by decide +kernel
theorem d_M_group_114 : decode prog_14_method_24_code 114 = .ok (.iconst 2, 1) := by decide +kernel
theorem d_M_group_115 : decode prog_14_method_24_code 115 = .ok (.goto 4, 3) := by decide +kernel
theorem d_M_group_118 : decode prog_14_method_24_code 118 = .ok (.iconst 3, 1) := by decide +kernel
theorem d_M_group_119 : decode prog_14_method_24_code 119 = .ok (.if_icmp .ne 7, 3) := by decide +kernel
theorem d_M_group_122 : decode prog_14_method_24_code 122 = .ok (.iconst 1, 1) := by decide +kernel
theorem d_M_group_123 : decode prog_14_method_24_code 123 = .ok (.goto 4, 3) := by decide +kernel
theorem d_M_group_126 : decode prog_14_method_24_code 126 = .ok (.iconst 0, 1) := by decide +kernel
theorem d_M_group_127 : decode prog_14_method_24_code 127 = .ok (.istore 6, 2) := by decide +kernel
theorem d_M_group_129 : decode prog_14_method_24_code 129 = .ok (.iload 4, 2) := by decide +kernel
theorem d_M_group_131 : decode prog_14_method_24_code 131 = .ok (.iconst 4, 1) := by decide +kernel
theorem d_M_group_132 : decode prog_14_method_24_code 132 = .ok (.if_icmp .ne 11, 3) := by decide +kernel
theorem d_M_group_135 : decode prog_14_method_24_code 135 = .ok (.aload_n 0, 1) := by decide +kernel
theorem d_M_group_136 : decode prog_14_method_24_code 136 = .ok (.iload_n 1, 1) := by decide +kernel
theorem d_M_group_137 : decode prog_14_method_24_code 137 = .ok (.iconst 3, 1) := by decide +kernel
theorem d_M_group_138 : decode prog_14_method_24_code 138 = .ok (.idiv, 1) := by decide +kernel
theorem d_M_group_139 : decode prog_14_method_24_code 139 = .ok (.iload_n 3, 1) := by decide +kernel
theorem d_M_group_140 : decode prog_14_method_24_code 140 = .ok (.invokevirtual 102, 3) := by decide +kernel
theorem d_M_group_143 : decode prog_14_method_24_code 143 = .ok (.iload 4, 2) := by decide +kernel
theorem d_M_group_145 : decode prog_14_method_24_code 145 = .ok (.iconst 5, 1) := by decide +kernel
theorem d_M_group_146 : decode prog_14_method_24_code 146 = .ok (.if_icmp .ne 8, 3) := by decide +kernel
theorem d_M_group_149 : decode prog_14_method_24_code 149 = .ok (.aload_n 0, 1) := by decide +kernel
theorem d_M_group_150 : decode prog_14_method_24_code 150 = .ok (.iload_n 3, 1) := by decide +kernel
theorem d_M_group_151 : decode prog_14_method_24_code 151 = .ok (.invokevirtual 105, 3) := by decide +kernel
theorem d_M_group_154 : decode prog_14_method_24_code 154 = .ok (.iload 6, 2) := by decide +kernel
theorem d_M_group_156 : decode prog_14_method_24_code 156 = .ok (.ifCond .eq 70, 3) := by decide +kernel
theorem d_M_group_159 : decode prog_14_method_24_code 159 = .ok (.aload_n 0, 1) := by decide +kernel
theorem d_M_group_160 : decode prog_14_method_24_code 160 = .ok (.getfield 41, 3) := by decide +kernel
theorem d_M_group_163 : decode prog_14_method_24_code 163 = .ok (.iload 5, 2) := by decide +kernel
theorem d_M_group_165 : decode prog_14_method_24_code 165 = .ok (.iload 4, 2) := by decide +kernel
theorem d_M_group_167 : decode prog_14_method_24_code 167 = .ok (.bipush 6, 2) := by decide +kernel
theorem d_M_group_169 : decode prog_14_method_24_code 169 = .ok (.if_icmp .ne 7, 3) := by decide +kernel
theorem d_M_group_172 : decode prog_14_method_24_code 172 = .ok (.iconst 1, 1) := by decide +kernel
theorem d_M_group_173 : decode prog_14_method_24_code 173 = .ok (.goto 4, 3) := by decide +kernel
theorem d_M_group_176 : decode prog_14_method_24_code 176 = .ok (.iconst 0, 1) := by decide +kernel
theorem d_M_group_177 : decode prog_14_method_24_code 177 = .ok (.iastore, 1) := by decide +kernel
theorem d_M_group_178 : decode prog_14_method_24_code 178 = .ok (.iconst 0, 1) := by decide +kernel
theorem d_M_group_179 : decode prog_14_method_24_code 179 = .ok (.istore 7, 2) := by decide +kernel
theorem d_M_group_181 : decode prog_14_method_24_code 181 = .ok (.iload 7, 2) := by decide +kernel
theorem d_M_group_183 : decode prog_14_method_24_code 183 = .ok (.bipush 8, 2) := by decide +kernel
theorem d_M_group_185 : decode prog_14_method_24_code 185 = .ok (.if_icmp .ge 41, 3) := by decide +kernel
theorem d_M_group_188 : decode prog_14_method_24_code 188 = .ok (.iload 4, 2) := by decide +kernel
theorem d_M_group_190 : decode prog_14_method_24_code 190 = .ok (.bipush 6, 2) := by decide +kernel
theorem d_M_group_192 : decode prog_14_method_24_code 192 = .ok (.if_icmp .ne 34, 3) := by decide +kernel
theorem d_M_group_195 : decode prog_14_method_24_code 195 = .ok (.aload_n 0, 1) := by decide +kernel
theorem d_M_group_196 : decode prog_14_method_24_code 196 = .ok (.getfield 44, 3) := by decide +kernel
theorem d_M_group_199 : decode prog_14_method_24_code 199 = .ok (.bipush 8, 2) := by decide +kernel
theorem d_M_group_201 : decode prog_14_method_24_code 201 = .ok (.iload 5, 2) := by decide +kernel
theorem d_M_group_203 : decode prog_14_method_24_code 203 = .ok (.imul, 1) := by decide +kernel
theorem d_M_group_204 : decode prog_14_method_24_code 204 = .ok (.iload 7, 2) := by decide +kernel
theorem d_M_group_206 : decode prog_14_method_24_code 206 = .ok (.iadd, 1) := by decide +kernel
theorem d_M_group_207 : decode prog_14_method_24_code 207 = .ok (.aload_n 0, 1) := by decide +kernel
theorem d_M_group_208 : decode prog_14_method_24_code 208 = .ok (.getfield 26, 3) := by decide +kernel
theorem d_M_group_211 : decode prog_14_method_24_code 211 = .ok (.iload_n 3, 1) := by decide +kernel
theorem d_M_group_212 : decode prog_14_method_24_code 212 = .ok (.bipush 7, 2) := by decide +kernel
theorem d_M_group_214 : decode prog_14_method_24_code 214 = .ok (.iadd, 1) := by decide +kernel
theorem d_M_group_215 : decode prog_14_method_24_code 215 = .ok (.iload 7, 2) := by decide +kernel
theorem d_M_group_217 : decode prog_14_method_24_code 217 = .ok (.iadd, 1) := by decide +kernel
theorem d_M_group_218 : decode prog_14_method_24_code 218 = .ok (.iaload, 1) := by decide +kernel
theorem d_M_group_219 : decode prog_14_method_24_code 219 = .ok (.iastore, 1) := by decide +kernel
theorem d_M_group_220 : decode prog_14_method_24_code 220 = .ok (.iinc 7 1, 3) := by decide +kernel
theorem d_M_group_223 : decode prog_14_method_24_code 223 = .ok (.goto (-42), 3) := by decide +kernel
theorem d_M_group_226 : decode prog_14_method_24_code 226 = .ok (.iinc 2 1, 3) := by decide +kernel
theorem d_M_group_229 : decode prog_14_method_24_code 229 = .ok (.goto (-194), 3) := by decide +kernel
theorem d_M_group_232 : decode prog_14_method_24_code 232 = .ok (.return_, 1) := by decide +kernel
theorem d_M_configure_0 : decode prog_14_method_22_code 0 = .ok (.aload_n 0, 1) := by decide +kernel
theorem d_M_configure_1 : decode prog_14_method_22_code 1 = .ok (.invokevirtual 95, 3) := by decide +kernel
theorem d_M_configure_4 : decode prog_14_method_22_code 4 = .ok (.ifCond .eq 20, 3) := by decide +kernel
theorem d_M_configure_7 : decode prog_14_method_22_code 7 = .ok (.aload_n 0, 1) := by decide +kernel
theorem d_M_configure_8 : decode prog_14_method_22_code 8 = .ok (.getfield 26, 3) := by decide +kernel
theorem d_M_configure_11 : decode prog_14_method_22_code 11 = .ok (.iload_n 2, 1) := by decide +kernel
theorem d_M_configure_12 : decode prog_14_method_22_code 12 = .ok (.iconst 2, 1) := by decide +kernel
theorem d_M_configure_13 : decode prog_14_method_22_code 13 = .ok (.iadd, 1) := by decide +kernel
theorem d_M_configure_14 : decode prog_14_method_22_code 14 = .ok (.iaload, 1) := by decide +kernel
theorem d_M_configure_15 : decode prog_14_method_22_code 15 = .ok (.aload_n 0, 1) := by decide +kernel
theorem d_M_configure_16 : decode prog_14_method_22_code 16 = .ok (.getfield 99, 3) := by decide +kernel
theorem d_M_configure_19 : decode prog_14_method_22_code 19 = .ok (.iconst 1, 1) := by decide +kernel
theorem d_M_configure_20 : decode prog_14_method_22_code 20 = .ok (.iadd, 1) := by decide +kernel
theorem d_M_configure_21 : decode prog_14_method_22_code 21 = .ok (.if_icmp .eq 4, 3) := by decide +kernel
theorem d_M_configure_24 : decode prog_14_method_22_code 24 = .ok (.return_, 1) := by decide +kernel
theorem d_M_configure_25 : decode prog_14_method_22_code 25 = .ok (.aload_n 0, 1) := by decide +kernel
theorem d_M_configure_26 : decode prog_14_method_22_code 26 = .ok (.dup, 1) := by decide +kernel
theorem d_M_configure_27 : decode prog_14_method_22_code 27 = .ok (.getfield 99, 3) := by decide +kernel
theorem d_M_configure_30 : decode prog_14_method_22_code 30 = .ok (.iconst 1, 1) := by decide +kernel
theorem d_M_configure_31 : decode prog_14_method_22_code 31 = .ok (.iadd, 1) := by decide +kernel
theorem d_M_configure_32 : decode prog_14_method_22_code 32 = .ok (.putfield 99, 3) := by decide +kernel
theorem d_M_configure_35 : decode prog_14_method_22_code 35 = .ok (.iconst 0, 1) := by decide +kernel
theorem d_M_configure_36 : decode prog_14_method_22_code 36 = .ok (.istore_n 3, 1) := by decide +kernel
theorem d_M_configure_37 : decode prog_14_method_22_code 37 = .ok (.iload_n 3, 1) := by decide +kernel
theorem d_M_configure_38 : decode prog_14_method_22_code 38 = .ok (.bipush 8, 2) := by decide +kernel
theorem d_M_configure_40 : decode prog_14_method_22_code 40 = .ok (.if_icmp .ge 114, 3) := by decide +kernel
theorem d_M_configure_43 : decode prog_14_method_22_code 43 = .ok (.aload_n 0, 1) := by decide +kernel
theorem d_M_configure_44 : decode prog_14_method_22_code 44 = .ok (.getfield 38, 3) := by decide +kernel
theorem d_M_configure_47 : decode prog_14_method_22_code 47 = .ok (.iload_n 3, 1) := by decide +kernel
theorem d_M_configure_48 : decode prog_14_method_22_code 48 = .ok (.iaload, 1) := by decide +kernel
theorem d_M_configure_49 : decode prog_14_method_22_code 49 = .ok (.istore 4, 2) := by decide +kernel
theorem d_M_configure_51 : decode prog_14_method_22_code 51 = .ok (.aload_n 0, 1) := by decide +kernel
theorem d_M_configure_52 : decode prog_14_method_22_code 52 = .ok (.getfield 26, 3) := by decide +kernel
theorem d_M_configure_55 : decode prog_14_method_22_code 55 = .ok (.iload_n 2, 1) := by decide +kernel
theorem d_M_configure_56 : decode prog_14_method_22_code 56 = .ok (.bipush 7, 2) := by decide +kernel
theorem d_M_configure_58 : decode prog_14_method_22_code 58 = .ok (.iadd, 1) := by decide +kernel
theorem d_M_configure_59 : decode prog_14_method_22_code 59 = .ok (.iload_n 3, 1) := by decide +kernel
theorem d_M_configure_60 : decode prog_14_method_22_code 60 = .ok (.iadd, 1) := by decide +kernel
theorem d_M_configure_61 : decode prog_14_method_22_code 61 = .ok (.iaload, 1) := by decide +kernel
theorem d_M_configure_62 : decode prog_14_method_22_code 62 = .ok (.istore 5, 2) := by decide +kernel
theorem d_M_configure_64 : decode prog_14_method_22_code 64 = .ok (.aload_n 0, 1) := by decide +kernel
theorem d_M_configure_65 : decode prog_14_method_22_code 65 = .ok (.getfield 38, 3) := by decide +kernel
theorem d_M_configure_68 : decode prog_14_method_22_code 68 = .ok (.iload_n 3, 1) := by decide +kernel
theorem d_M_configure_69 : decode prog_14_method_22_code 69 = .ok (.iload 5, 2) := by decide +kernel
theorem d_M_configure_71 : decode prog_14_method_22_code 71 = .ok (.iastore, 1) := by decide +kernel
theorem d_M_configure_72 : decode prog_14_method_22_code 72 = .ok (.iload 5, 2) := by decide +kernel
theorem d_M_configure_74 : decode prog_14_method_22_code 74 = .ok (.iload_n 1, 1) := by decide +kernel
theorem d_M_configure_75 : decode prog_14_method_22_code 75 = .ok (.if_icmp .ne 54, 3) := by decide +kernel
theorem d_M_configure_78 : decode prog_14_method_22_code 78 = .ok (.iload 4, 2) := by decide +kernel
theorem d_M_configure_80 : decode prog_14_method_22_code 80 = .ok (.iload_n 1, 1) := by decide +kernel
theorem d_M_configure_81 : decode prog_14_method_22_code 81 = .ok (.if_icmp .eq 48, 3) := by decide +kernel
theorem d_M_configure_84 : decode prog_14_method_22_code 84 = .ok (.aload_n 0, 1) := by decide +kernel
theorem d_M_configure_85 : decode prog_14_method_22_code 85 = .ok (.getfield 41, 3) := by decide +kernel
theorem d_M_configure_88 : decode prog_14_method_22_code 88 = .ok (.iload_n 3, 1) := by decide +kernel
theorem d_M_configure_89 : decode prog_14_method_22_code 89 = .ok (.iload 4, 2) := by decide +kernel
theorem d_M_configure_91 : decode prog_14_method_22_code 91 = .ok (.ifCond .ne 7, 3) := by decide +kernel
theorem d_M_configure_94 : decode prog_14_method_22_code 94 = .ok (.iconst 1, 1) := by decide +kernel
theorem d_M_configure_95 : decode prog_14_method_22_code 95 = .ok (.goto 4, 3) := by decide +kernel
theorem d_M_configure_98 : decode prog_14_method_22_code 98 = .ok (.iconst 2, 1) := by decide +kernel
theorem d_M_configure_99 : decode prog_14_method_22_code 99 = .ok (.iastore, 1) := by decide +kernel
theorem d_M_configure_100 : decode prog_14_method_22_code 100 = .ok (.iconst 0, 1) := by decide +kernel
theorem d_M_configure_101 : decode prog_14_method_22_code 101 = .ok (.istore 6, 2) := by decide +kernel
theorem d_M_configure_103 : decode prog_14_method_22_code 103 = .ok (.iload 6, 2) := by decide +kernel
theorem d_M_configure_105 : decode prog_14_method_22_code 105 = .ok (.bipush 8, 2) := by decide +kernel
theorem d_M_configure_107 : decode prog_14_method_22_code 107 = .ok (.if_icmp .ge 22, 3) := by decide +kernel
theorem d_M_configure_110 : decode prog_14_method_22_code 110 = .ok (.aload_n 0, 1) := by decide +kernel
theorem d_M_configure_111 : decode prog_14_method_22_code 111 = .ok (.getfield 44, 3) := by decide +kernel
theorem d_M_configure_114 : decode prog_14_method_22_code 114 = .ok (.bipush 8, 2) := by decide +kernel
theorem d_M_configure_116 : decode prog_14_method_22_code 116 = .ok (.iload_n 3, 1) := by decide +kernel
theorem d_M_configure_117 : decode prog_14_method_22_code 117 = .ok (.imul, 1) := by decide +kernel
theorem d_M_configure_118 : decode prog_14_method_22_code 118 = .ok (.iload 6, 2) := by decide +kernel
theorem d_M_configure_120 : decode prog_14_method_22_code 120 = .ok (.iadd, 1) := by decide +kernel
theorem d_M_configure_121 : decode prog_14_method_22_code 121 = .ok (.iconst 0, 1) := by decide +kernel
theorem d_M_configure_122 : decode prog_14_method_22_code 122 = .ok (.iastore, 1) := by decide +kernel
theorem d_M_configure_123 : decode prog_14_method_22_code 123 = .ok (.iinc 6 1, 3) := by decide +kernel
theorem d_M_configure_126 : decode prog_14_method_22_code 126 = .ok (.goto (-23), 3) := by decide +kernel
theorem d_M_configure_129 : decode prog_14_method_22_code 129 = .ok (.iload 5, 2) := by decide +kernel
theorem d_M_configure_131 : decode prog_14_method_22_code 131 = .ok (.iload_n 1, 1) := by decide +kernel
theorem d_M_configure_132 : decode prog_14_method_22_code 132 = .ok (.if_icmp .eq 16, 3) := by decide +kernel
theorem d_M_configure_135 : decode prog_14_method_22_code 135 = .ok (.iload 4, 2) := by decide +kernel
theorem d_M_configure_137 : decode prog_14_method_22_code 137 = .ok (.iload_n 1, 1) := by decide +kernel
theorem d_M_configure_138 : decode prog_14_method_22_code 138 = .ok (.if_icmp .ne 10, 3) := by decide +kernel
theorem d_M_configure_141 : decode prog_14_method_22_code 141 = .ok (.aload_n 0, 1) := by decide +kernel
theorem d_M_configure_142 : decode prog_14_method_22_code 142 = .ok (.getfield 41, 3) := by decide +kernel
theorem d_M_configure_145 : decode prog_14_method_22_code 145 = .ok (.iload_n 3, 1) := by decide +kernel
theorem d_M_configure_146 : decode prog_14_method_22_code 146 = .ok (.iconst 3, 1) := by decide +kernel
theorem d_M_configure_147 : decode prog_14_method_22_code 147 = .ok (.iastore, 1) := by decide +kernel
theorem d_M_configure_148 : decode prog_14_method_22_code 148 = .ok (.iinc 3 1, 3) := by decide +kernel
theorem d_M_configure_151 : decode prog_14_method_22_code 151 = .ok (.goto (-114), 3) := by decide +kernel
theorem d_M_configure_154 : decode prog_14_method_22_code 154 = .ok (.return_, 1) := by decide +kernel
