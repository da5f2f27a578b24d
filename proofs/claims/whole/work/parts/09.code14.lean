theorem d_M_alter_79 : decode prog_14_method_19_code 79 = .ok (.iconst 1, 1) := by decide +kernel
theorem d_M_alter_80 : decode prog_14_method_19_code 80 = .ok (.goto 9, 3) := by decide +kernel
theorem d_M_alter_83 : decode prog_14_method_19_code 83 = .ok (.iconst 0, 1) := by decide +kernel
theorem d_M_alter_84 : decode prog_14_method_19_code 84 = .ok (.goto 5, 3) := by decide +kernel
theorem d_M_alter_87 : decode prog_14_method_19_code 87 = .ok (.iload 6, 2) := by decide +kernel
theorem d_M_alter_89 : decode prog_14_method_19_code 89 = .ok (.istore 7, 2) := by decide +kernel
theorem d_M_alter_91 : decode prog_14_method_19_code 91 = .ok (.iload 4, 2) := by decide +kernel
theorem d_M_alter_93 : decode prog_14_method_19_code 93 = .ok (.bipush 16, 2) := by decide +kernel
theorem d_M_alter_95 : decode prog_14_method_19_code 95 = .ok (.if_icmp .eq 8, 3) := by decide +kernel
theorem d_M_alter_98 : decode prog_14_method_19_code 98 = .ok (.iload 7, 2) := by decide +kernel
theorem d_M_alter_100 : decode prog_14_method_19_code 100 = .ok (.ifCond .ne 4, 3) := by decide +kernel
theorem d_M_alter_103 : decode prog_14_method_19_code 103 = .ok (.return_, 1) := by decide +kernel
theorem d_M_alter_104 : decode prog_14_method_19_code 104 = .ok (.aload_n 0, 1) := by decide +kernel
theorem d_M_alter_105 : decode prog_14_method_19_code 105 = .ok (.dup, 1) := by decide +kernel
theorem d_M_alter_106 : decode prog_14_method_19_code 106 = .ok (.getfield 83, 3) := by decide +kernel
theorem d_M_alter_109 : decode prog_14_method_19_code 109 = .ok (.iconst 1, 1) := by decide +kernel
theorem d_M_alter_110 : decode prog_14_method_19_code 110 = .ok (.iadd, 1) := by decide +kernel
theorem d_M_alter_111 : decode prog_14_method_19_code 111 = .ok (.putfield 83, 3) := by decide +kernel
theorem d_M_alter_114 : decode prog_14_method_19_code 114 = .ok (.aload_n 0, 1) := by decide +kernel
theorem d_M_alter_115 : decode prog_14_method_19_code 115 = .ok (.getfield 32, 3) := by decide +kernel
theorem d_M_alter_118 : decode prog_14_method_19_code 118 = .ok (.iload 4, 2) := by decide +kernel
theorem d_M_alter_120 : decode prog_14_method_19_code 120 = .ok (.iload_n 1, 1) := by decide +kernel
theorem d_M_alter_121 : decode prog_14_method_19_code 121 = .ok (.iconst 1, 1) := by decide +kernel
theorem d_M_alter_122 : decode prog_14_method_19_code 122 = .ok (.if_icmp .ne 12, 3) := by decide +kernel
theorem d_M_alter_125 : decode prog_14_method_19_code 125 = .ok (.iload 5, 2) := by decide +kernel
theorem d_M_alter_127 : decode prog_14_method_19_code 127 = .ok (.iconst 1, 1) := by decide +kernel
theorem d_M_alter_128 : decode prog_14_method_19_code 128 = .ok (.iload_n 2, 1) := by decide +kernel
theorem d_M_alter_129 : decode prog_14_method_19_code 129 = .ok (.ishl, 1) := by decide +kernel
theorem d_M_alter_130 : decode prog_14_method_19_code 130 = .ok (.ior, 1) := by decide +kernel
theorem d_M_alter_131 : decode prog_14_method_19_code 131 = .ok (.goto 19, 3) := by decide +kernel
theorem d_M_alter_134 : decode prog_14_method_19_code 134 = .ok (.iload_n 1, 1) := by decide +kernel
theorem d_M_alter_135 : decode prog_14_method_19_code 135 = .ok (.iconst 2, 1) := by decide +kernel
theorem d_M_alter_136 : decode prog_14_method_19_code 136 = .ok (.if_icmp .ne 12, 3) := by decide +kernel
theorem d_M_alter_139 : decode prog_14_method_19_code 139 = .ok (.iload 5, 2) := by decide +kernel
theorem d_M_alter_141 : decode prog_14_method_19_code 141 = .ok (.iconst 1, 1) := by decide +kernel
theorem d_M_alter_142 : decode prog_14_method_19_code 142 = .ok (.iload_n 2, 1) := by decide +kernel
theorem d_M_alter_143 : decode prog_14_method_19_code 143 = .ok (.ishl, 1) := by decide +kernel
theorem d_M_alter_144 : decode prog_14_method_19_code 144 = .ok (.isub, 1) := by decide +kernel
theorem d_M_alter_145 : decode prog_14_method_19_code 145 = .ok (.goto 5, 3) := by decide +kernel
theorem d_M_alter_148 : decode prog_14_method_19_code 148 = .ok (.iload 5, 2) := by decide +kernel
theorem d_M_alter_150 : decode prog_14_method_19_code 150 = .ok (.iastore, 1) := by decide +kernel
theorem d_M_alter_151 : decode prog_14_method_19_code 151 = .ok (.iconst 0, 1) := by decide +kernel
theorem d_M_alter_152 : decode prog_14_method_19_code 152 = .ok (.istore 8, 2) := by decide +kernel
theorem d_M_alter_154 : decode prog_14_method_19_code 154 = .ok (.iload 8, 2) := by decide +kernel
theorem d_M_alter_156 : decode prog_14_method_19_code 156 = .ok (.bipush 8, 2) := by decide +kernel
theorem d_M_alter_158 : decode prog_14_method_19_code 158 = .ok (.if_icmp .ge 38, 3) := by decide +kernel
theorem d_M_alter_161 : decode prog_14_method_19_code 161 = .ok (.aload_n 0, 1) := by decide +kernel
theorem d_M_alter_162 : decode prog_14_method_19_code 162 = .ok (.getfield 35, 3) := by decide +kernel
theorem d_M_alter_165 : decode prog_14_method_19_code 165 = .ok (.bipush 8, 2) := by decide +kernel
theorem d_M_alter_167 : decode prog_14_method_19_code 167 = .ok (.iload 4, 2) := by decide +kernel
theorem d_M_alter_169 : decode prog_14_method_19_code 169 = .ok (.imul, 1) := by decide +kernel
theorem d_M_alter_170 : decode prog_14_method_19_code 170 = .ok (.iload 8, 2) := by decide +kernel
theorem d_M_alter_172 : decode prog_14_method_19_code 172 = .ok (.iadd, 1) := by decide +kernel
theorem d_M_alter_173 : decode prog_14_method_19_code 173 = .ok (.aload_n 0, 1) := by decide +kernel
theorem d_M_alter_174 : decode prog_14_method_19_code 174 = .ok (.getfield 35, 3) := by decide +kernel
theorem d_M_alter_177 : decode prog_14_method_19_code 177 = .ok (.bipush 8, 2) := by decide +kernel
theorem d_M_alter_179 : decode prog_14_method_19_code 179 = .ok (.iload 4, 2) := by decide +kernel
theorem d_M_alter_181 : decode prog_14_method_19_code 181 = .ok (.imul, 1) := by decide +kernel
theorem d_M_alter_182 : decode prog_14_method_19_code 182 = .ok (.bipush 8, 2) := by decide +kernel
theorem d_M_alter_184 : decode prog_14_method_19_code 184 = .ok (.isub, 1) := by decide +kernel
theorem d_M_alter_185 : decode prog_14_method_19_code 185 = .ok (.iload 8, 2) := by decide +kernel
theorem d_M_alter_187 : decode prog_14_method_19_code 187 = .ok (.iadd, 1) := by decide +kernel
theorem d_M_alter_188 : decode prog_14_method_19_code 188 = .ok (.iaload, 1) := by decide +kernel
theorem d_M_alter_189 : decode prog_14_method_19_code 189 = .ok (.iastore, 1) := by decide +kernel
theorem d_M_alter_190 : decode prog_14_method_19_code 190 = .ok (.iinc 8 1, 3) := by decide +kernel
theorem d_M_alter_193 : decode prog_14_method_19_code 193 = .ok (.goto (-39), 3) := by decide +kernel
theorem d_M_alter_196 : decode prog_14_method_19_code 196 = .ok (.iload_n 1, 1) := by decide +kernel
theorem d_M_alter_197 : decode prog_14_method_19_code 197 = .ok (.iconst 3, 1) := by decide +kernel
theorem d_M_alter_198 : decode prog_14_method_19_code 198 = .ok (.if_icmp .ne 17, 3) := by decide +kernel
theorem d_M_alter_201 : decode prog_14_method_19_code 201 = .ok (.aload_n 0, 1) := by decide +kernel
theorem d_M_alter_202 : decode prog_14_method_19_code 202 = .ok (.getfield 35, 3) := by decide +kernel
theorem d_M_alter_205 : decode prog_14_method_19_code 205 = .ok (.bipush 8, 2) := by decide +kernel
theorem d_M_alter_207 : decode prog_14_method_19_code 207 = .ok (.iload 4, 2) := by decide +kernel
theorem d_M_alter_209 : decode prog_14_method_19_code 209 = .ok (.imul, 1) := by decide +kernel
theorem d_M_alter_210 : decode prog_14_method_19_code 210 = .ok (.iload_n 2, 1) := by decide +kernel
theorem d_M_alter_211 : decode prog_14_method_19_code 211 = .ok (.iadd, 1) := by decide +kernel
theorem d_M_alter_212 : decode prog_14_method_19_code 212 = .ok (.iload_n 3, 1) := by decide +kernel
theorem d_M_alter_213 : decode prog_14_method_19_code 213 = .ok (.iastore, 1) := by decide +kernel
theorem d_M_alter_214 : decode prog_14_method_19_code 214 = .ok (.return_, 1) := by decide +kernel
theorem d_M_alter_215 : decode prog_14_method_19_code 215 = .ok (.iconst 0, 1) := by decide +kernel
theorem d_M_alter_216 : decode prog_14_method_19_code 216 = .ok (.istore 8, 2) := by decide +kernel
theorem d_M_alter_218 : decode prog_14_method_19_code 218 = .ok (.iload 8, 2) := by decide +kernel
theorem d_M_alter_220 : decode prog_14_method_19_code 220 = .ok (.bipush 8, 2) := by decide +kernel
theorem d_M_alter_222 : decode prog_14_method_19_code 222 = .ok (.if_icmp .ge 75, 3) := by decide +kernel
theorem d_M_alter_225 : decode prog_14_method_19_code 225 = .ok (.iload_n 1, 1) := by decide +kernel
theorem d_M_alter_226 : decode prog_14_method_19_code 226 = .ok (.iconst 1, 1) := by decide +kernel
theorem d_M_alter_227 : decode prog_14_method_19_code 227 = .ok (.if_icmp .ne 22, 3) := by decide +kernel
theorem d_M_alter_230 : decode prog_14_method_19_code 230 = .ok (.iload 5, 2) := by decide +kernel
theorem d_M_alter_232 : decode prog_14_method_19_code 232 = .ok (.ifCond .ne 17, 3) := by decide +kernel
theorem d_M_alter_235 : decode prog_14_method_19_code 235 = .ok (.aload_n 0, 1) := by decide +kernel
theorem d_M_alter_236 : decode prog_14_method_19_code 236 = .ok (.getfield 35, 3) := by decide +kernel
theorem d_M_alter_239 : decode prog_14_method_19_code 239 = .ok (.bipush 8, 2) := by decide +kernel
theorem d_M_alter_241 : decode prog_14_method_19_code 241 = .ok (.iload 4, 2) := by decide +kernel
theorem d_M_alter_243 : decode prog_14_method_19_code 243 = .ok (.imul, 1) := by decide +kernel
theorem d_M_alter_244 : decode prog_14_method_19_code 244 = .ok (.iload 8, 2) := by decide +kernel
theorem d_M_alter_246 : decode prog_14_method_19_code 246 = .ok (.iadd, 1) := by decide +kernel
theorem d_M_alter_247 : decode prog_14_method_19_code 247 = .ok (.iload_n 2, 1) := by decide +kernel
theorem d_M_alter_248 : decode prog_14_method_19_code 248 = .ok (.iastore, 1) := by decide +kernel
theorem d_M_alter_249 : decode prog_14_method_19_code 249 = .ok (.iload_n 1, 1) := by decide +kernel
theorem d_M_alter_250 : decode prog_14_method_19_code 250 = .ok (.iconst 2, 1) := by decide +kernel
theorem d_M_alter_251 : decode prog_14_method_19_code 251 = .ok (.if_icmp .ne 40, 3) := by decide +kernel
theorem d_M_alter_254 : decode prog_14_method_19_code 254 = .ok (.aload_n 0, 1) := by decide +kernel
theorem d_M_alter_255 : decode prog_14_method_19_code 255 = .ok (.getfield 35, 3) := by decide +kernel
theorem d_M_alter_258 : decode prog_14_method_19_code 258 = .ok (.bipush 8, 2) := by decide +kernel
theorem d_M_alter_260 : decode prog_14_method_19_code 260 = .ok (.iload 4, 2) := by decide +kernel
theorem d_M_alter_262 : decode prog_14_method_19_code 262 = .ok (.imul, 1) := by decide +kernel
theorem d_M_alter_263 : decode prog_14_method_19_code 263 = .ok (.iload 8, 2) := by decide +kernel
theorem d_M_alter_265 : decode prog_14_method_19_code 265 = .ok (.iadd, 1) := by decide +kernel
theorem d_M_alter_266 : decode prog_14_method_19_code 266 = .ok (.iaload, 1) := by decide +kernel
theorem d_M_alter_267 : decode prog_14_method_19_code 267 = .ok (.iload_n 2, 1) := by decide +kernel
theorem d_M_alter_268 : decode prog_14_method_19_code 268 = .ok (.if_icmp .ne 23, 3) := by decide +kernel
theorem d_M_alter_271 : decode prog_14_method_19_code 271 = .ok (.aload_n 0, 1) := by decide +kernel
theorem d_M_alter_272 : decode prog_14_method_19_code 272 = .ok (.getfield 35, 3) := by decide +kernel
theorem d_M_alter_275 : decode prog_14_method_19_code 275 = .ok (.bipush 8, 2) := by decide +kernel
theorem d_M_alter_277 : decode prog_14_method_19_code 277 = .ok (.iload 4, 2) := by decide +kernel
theorem d_M_alter_279 : decode prog_14_method_19_code 279 = .ok (.imul, 1) := by decide +kernel
theorem d_M_alter_280 : decode prog_14_method_19_code 280 = .ok (.iload 8, 2) := by decide +kernel
theorem d_M_alter_282 : decode prog_14_method_19_code 282 = .ok (.iadd, 1) := by decide +kernel
theorem d_M_alter_283 : decode prog_14_method_19_code 283 = .ok (.aload_n 0, 1) := by decide +kernel
theorem d_M_alter_284 : decode prog_14_method_19_code 284 = .ok (.iload 4, 2) := by decide +kernel
theorem d_M_alter_286 : decode prog_14_method_19_code 286 = .ok (.iconst 0, 1) := by decide +kernel
theorem d_M_alter_287 : decode prog_14_method_19_code 287 = .ok (.invokevirtual 79, 3) := by decide +kernel
theorem d_M_alter_290 : decode prog_14_method_19_code 290 = .ok (.iastore, 1) := by decide +kernel
theorem d_M_alter_291 : decode prog_14_method_19_code 291 = .ok (.iinc 8 1, 3) := by decide +kernel
theorem d_M_alter_294 : decode prog_14_method_19_code 294 = .ok (.goto (-76), 3) := by decide +kernel
theorem d_M_alter_297 : decode prog_14_method_19_code 297 = .ok (.aload_n 0, 1) := by decide +kernel
theorem d_M_alter_298 : decode prog_14_method_19_code 298 = .ok (.iload 4, 2) := by decide +kernel
theorem d_M_alter_300 : decode prog_14_method_19_code 300 = .ok (.invokevirtual 87, 3) := by decide +kernel
theorem d_M_alter_303 : decode prog_14_method_19_code 303 = .ok (.return_, 1) := by decide +kernel
theorem d_M_extreme_0 : decode prog_14_method_17_code 0 = .ok (.iconst (-1), 1) := by decide +kernel
theorem d_M_extreme_1 : decode prog_14_method_17_code 1 = .ok (.istore_n 3, 1) := by decide +kernel
theorem d_M_extreme_2 : decode prog_14_method_17_code 2 = .ok (.iconst 1, 1) := by decide +kernel
theorem d_M_extreme_3 : decode prog_14_method_17_code 3 = .ok (.istore 4, 2) := by decide +kernel
theorem d_M_extreme_5 : decode prog_14_method_17_code 5 = .ok (.iload 4, 2) := by decide +kernel
theorem d_M_extreme_7 : decode prog_14_method_17_code 7 = .ok (.iconst 3, 1) := by decide +kernel
theorem d_M_extreme_8 : decode prog_14_method_17_code 8 = .ok (.if_icmp .gt 98, 3) := by decide +kernel
theorem d_M_extreme_11 : decode prog_14_method_17_code 11 = .ok (.aload_n 0, 1) := by decide +kernel
theorem d_M_extreme_12 : decode prog_14_method_17_code 12 = .ok (.getfield 32, 3) := by decide +kernel
theorem d_M_extreme_15 : decode prog_14_method_17_code 15 = .ok (.iload_n 1, 1) := by decide +kernel
theorem d_M_extreme_16 : decode prog_14_method_17_code 16 = .ok (.iaload, 1) := by decide +kernel
theorem d_M_extreme_17 : decode prog_14_method_17_code 17 = .ok (.iload 4, 2) := by decide +kernel
theorem d_M_extreme_19 : decode prog_14_method_17_code 19 = .ok (.ishr, 1) := by decide +kernel
theorem d_M_extreme_20 : decode prog_14_method_17_code 20 = .ok (.iconst 1, 1) := by decide +kernel
theorem d_M_extreme_21 : decode prog_14_method_17_code 21 = .ok (.iand, 1) := by decide +kernel
theorem d_M_extreme_22 : decode prog_14_method_17_code 22 = .ok (.iconst 1, 1) := by decide +kernel
theorem d_M_extreme_23 : decode prog_14_method_17_code 23 = .ok (.if_icmp .ne 7, 3) := by decide +kernel
theorem d_M_extreme_26 : decode prog_14_method_17_code 26 = .ok (.iconst 1, 1) := by decide +kernel
theorem d_M_extreme_27 : decode prog_14_method_17_code 27 = .ok (.goto 4, 3) := by decide +kernel
theorem d_M_extreme_30 : decode prog_14_method_17_code 30 = .ok (.iconst 0, 1) := by decide +kernel
theorem d_M_extreme_31 : decode prog_14_method_17_code 31 = .ok (.istore 5, 2) := by decide +kernel
theorem d_M_extreme_33 : decode prog_14_method_17_code 33 = .ok (.iload_n 3, 1) := by decide +kernel
theorem d_M_extreme_34 : decode prog_14_method_17_code 34 = .ok (.ifCond .lt 42, 3) := by decide +kernel
theorem d_M_extreme_37 : decode prog_14_method_17_code 37 = .ok (.iload_n 2, 1) := by decide +kernel
theorem d_M_extreme_38 : decode prog_14_method_17_code 38 = .ok (.ifCond .eq 22, 3) := by decide +kernel
theorem d_M_extreme_41 : decode prog_14_method_17_code 41 = .ok (.aload_n 0, 1) := by decide +kernel
theorem d_M_extreme_42 : decode prog_14_method_17_code 42 = .ok (.iload_n 1, 1) := by decide +kernel
theorem d_M_extreme_43 : decode prog_14_method_17_code 43 = .ok (.iload 4, 2) := by decide +kernel
theorem d_M_extreme_45 : decode prog_14_method_17_code 45 = .ok (.invokevirtual 76, 3) := by decide +kernel
theorem d_M_extreme_48 : decode prog_14_method_17_code 48 = .ok (.aload_n 0, 1) := by decide +kernel
theorem d_M_extreme_49 : decode prog_14_method_17_code 49 = .ok (.iload_n 1, 1) := by decide +kernel
theorem d_M_extreme_50 : decode prog_14_method_17_code 50 = .ok (.iload_n 3, 1) := by decide +kernel
theorem d_M_extreme_51 : decode prog_14_method_17_code 51 = .ok (.invokevirtual 76, 3) := by decide +kernel
theorem d_M_extreme_54 : decode prog_14_method_17_code 54 = .ok (.if_icmp .le 26, 3) := by decide +kernel
theorem d_M_extreme_57 : decode prog_14_method_17_code 57 = .ok (.goto 19, 3) := by decide +kernel
theorem d_M_extreme_60 : decode prog_14_method_17_code 60 = .ok (.aload_n 0, 1) := by decide +kernel
theorem d_M_extreme_61 : decode prog_14_method_17_code 61 = .ok (.iload_n 1, 1) := by decide +kernel
theorem d_M_extreme_62 : decode prog_14_method_17_code 62 = .ok (.iload 4, 2) := by decide +kernel
theorem d_M_extreme_64 : decode prog_14_method_17_code 64 = .ok (.invokevirtual 76, 3) := by decide +kernel
theorem d_M_extreme_67 : decode prog_14_method_17_code 67 = .ok (.aload_n 0, 1) := by decide +kernel
theorem d_M_extreme_68 : decode prog_14_method_17_code 68 = .ok (.iload_n 1, 1) := by decide +kernel
theorem d_M_extreme_69 : decode prog_14_method_17_code 69 = .ok (.iload_n 3, 1) := by decide +kernel
theorem d_M_extreme_70 : decode prog_14_method_17_code 70 = .ok (.invokevirtual 76, 3) := by decide +kernel
theorem d_M_extreme_73 : decode prog_14_method_17_code 73 = .ok (.if_icmp .ge 7, 3) := by decide +kernel
theorem d_M_extreme_76 : decode prog_14_method_17_code 76 = .ok (.iconst 1, 1) := by decide +kernel
theorem d_M_extreme_77 : decode prog_14_method_17_code 77 = .ok (.goto 4, 3) := by decide +kernel
theorem d_M_extreme_80 : decode prog_14_method_17_code 80 = .ok (.iconst 0, 1) := by decide +kernel
theorem d_M_extreme_81 : decode prog_14_method_17_code 81 = .ok (.istore 6, 2) := by decide +kernel
theorem d_M_extreme_83 : decode prog_14_method_17_code 83 = .ok (.iload 5, 2) := by decide +kernel
theorem d_M_extreme_85 : decode prog_14_method_17_code 85 = .ok (.ifCond .eq 13, 3) := by decide +kernel
theorem d_M_extreme_88 : decode prog_14_method_17_code 88 = .ok (.iload 6, 2) := by decide +kernel
theorem d_M_extreme_90 : decode prog_14_method_17_code 90 = .ok (.ifCond .eq 8, 3) := by decide +kernel
theorem d_M_extreme_93 : decode prog_14_method_17_code 93 = .ok (.iload 4, 2) := by decide +kernel
theorem d_M_extreme_95 : decode prog_14_method_17_code 95 = .ok (.goto 4, 3) := by decide +kernel
theorem d_M_extreme_98 : decode prog_14_method_17_code 98 = .ok (.iload_n 3, 1) := by decide +kernel
theorem d_M_extreme_99 : decode prog_14_method_17_code 99 = .ok (.istore_n 3, 1) := by decide +kernel
theorem d_M_extreme_100 : decode prog_14_method_17_code 100 = .ok (.iinc 4 1, 3) := by decide +kernel
theorem d_M_extreme_103 : decode prog_14_method_17_code 103 = .ok (.goto (-98), 3) := by decide +kernel
theorem d_M_extreme_106 : decode prog_14_method_17_code 106 = .ok (.iload_n 3, 1) := by decide +kernel
theorem d_M_extreme_107 : decode prog_14_method_17_code 107 = .ok (.ireturn, 1) := by decide +kernel
theorem d_M_owned_0 : decode prog_14_method_16_code 0 = .ok (.iconst 0, 1) := by decide +kernel
theorem d_M_owned_1 : decode prog_14_method_16_code 1 = .ok (.istore_n 3, 1) := by decide +kernel
theorem d_M_owned_2 : decode prog_14_method_16_code 2 = .ok (.iconst 0, 1) := by decide +kernel
theorem d_M_owned_3 : decode prog_14_method_16_code 3 = .ok (.istore 4, 2) := by decide +kernel
theorem d_M_owned_5 : decode prog_14_method_16_code 5 = .ok (.iload 4, 2) := by decide +kernel
theorem d_M_owned_7 : decode prog_14_method_16_code 7 = .ok (.bipush 8, 2) := by decide +kernel
theorem d_M_owned_9 : decode prog_14_method_16_code 9 = .ok (.if_icmp .ge 33, 3) := by decide +kernel
theorem d_M_owned_12 : decode prog_14_method_16_code 12 = .ok (.iload_n 3, 1) := by decide +kernel
theorem d_M_owned_13 : decode prog_14_method_16_code 13 = .ok (.aload_n 0, 1) := by decide +kernel
theorem d_M_owned_14 : decode prog_14_method_16_code 14 = .ok (.getfield 35, 3) := by decide +kernel
theorem d_M_owned_17 : decode prog_14_method_16_code 17 = .ok (.bipush 8, 2) := by decide +kernel
theorem d_M_owned_19 : decode prog_14_method_16_code 19 = .ok (.iload_n 1, 1) := by decide +kernel
theorem d_M_owned_20 : decode prog_14_method_16_code 20 = .ok (.imul, 1) := by decide +kernel
theorem d_M_owned_21 : decode prog_14_method_16_code 21 = .ok (.iload 4, 2) := by decide +kernel
theorem d_M_owned_23 : decode prog_14_method_16_code 23 = .ok (.iadd, 1) := by decide +kernel
theorem d_M_owned_24 : decode prog_14_method_16_code 24 = .ok (.iaload, 1) := by decide +kernel
theorem d_M_owned_25 : decode prog_14_method_16_code 25 = .ok (.iload_n 2, 1) := by decide +kernel
theorem d_M_owned_26 : decode prog_14_method_16_code 26 = .ok (.if_icmp .ne 7, 3) := by decide +kernel
theorem d_M_owned_29 : decode prog_14_method_16_code 29 = .ok (.iconst 1, 1) := by decide +kernel
theorem d_M_owned_30 : decode prog_14_method_16_code 30 = .ok (.goto 4, 3) := by decide +kernel
theorem d_M_owned_33 : decode prog_14_method_16_code 33 = .ok (.iconst 0, 1) := by decide +kernel
theorem d_M_owned_34 : decode prog_14_method_16_code 34 = .ok (.iadd, 1) := by decide +kernel
theorem d_M_owned_35 : decode prog_14_method_16_code 35 = .ok (.istore_n 3, 1) := by decide +kernel
theorem d_M_owned_36 : decode prog_14_method_16_code 36 = .ok (.iinc 4 1, 3) := by decide +kernel
theorem d_M_owned_39 : decode prog_14_method_16_code 39 = .ok (.goto (-34), 3) := by decide +kernel
theorem d_M_owned_42 : decode prog_14_method_16_code 42 = .ok (.iload_n 3, 1) := by decide +kernel
theorem d_M_owned_43 : decode prog_14_method_16_code 43 = .ok (.ireturn, 1) := by decide +kernel
