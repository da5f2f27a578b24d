theorem d_M_ship_148 : decode prog_14_method_15_code 148 = .ok (.iload_n 3, 1) := by decide +kernel
theorem d_M_ship_149 : decode prog_14_method_15_code 149 = .ok (.iastore, 1) := by decide +kernel
theorem d_M_ship_150 : decode prog_14_method_15_code 150 = .ok (.iload_n 3, 1) := by decide +kernel
theorem d_M_ship_151 : decode prog_14_method_15_code 151 = .ok (.aload_n 0, 1) := by decide +kernel
theorem d_M_ship_152 : decode prog_14_method_15_code 152 = .ok (.getfield 20, 3) := by decide +kernel
theorem d_M_ship_155 : decode prog_14_method_15_code 155 = .ok (.iload_n 1, 1) := by decide +kernel
theorem d_M_ship_156 : decode prog_14_method_15_code 156 = .ok (.iaload, 1) := by decide +kernel
theorem d_M_ship_157 : decode prog_14_method_15_code 157 = .ok (.if_icmp .ge 55, 3) := by decide +kernel
theorem d_M_ship_160 : decode prog_14_method_15_code 160 = .ok (.iconst 0, 1) := by decide +kernel
theorem d_M_ship_161 : decode prog_14_method_15_code 161 = .ok (.istore 4, 2) := by decide +kernel
theorem d_M_ship_163 : decode prog_14_method_15_code 163 = .ok (.iload 4, 2) := by decide +kernel
theorem d_M_ship_165 : decode prog_14_method_15_code 165 = .ok (.bipush 15, 2) := by decide +kernel
theorem d_M_ship_167 : decode prog_14_method_15_code 167 = .ok (.if_icmp .ge 35, 3) := by decide +kernel
theorem d_M_ship_170 : decode prog_14_method_15_code 170 = .ok (.aload_n 0, 1) := by decide +kernel
theorem d_M_ship_171 : decode prog_14_method_15_code 171 = .ok (.getfield 26, 3) := by decide +kernel
theorem d_M_ship_174 : decode prog_14_method_15_code 174 = .ok (.iload_n 2, 1) := by decide +kernel
theorem d_M_ship_175 : decode prog_14_method_15_code 175 = .ok (.iload_n 3, 1) := by decide +kernel
theorem d_M_ship_176 : decode prog_14_method_15_code 176 = .ok (.invokestatic 51, 3) := by decide +kernel
theorem d_M_ship_179 : decode prog_14_method_15_code 179 = .ok (.iload 4, 2) := by decide +kernel
theorem d_M_ship_181 : decode prog_14_method_15_code 181 = .ok (.iadd, 1) := by decide +kernel
theorem d_M_ship_182 : decode prog_14_method_15_code 182 = .ok (.aload_n 0, 1) := by decide +kernel
theorem d_M_ship_183 : decode prog_14_method_15_code 183 = .ok (.getfield 26, 3) := by decide +kernel
theorem d_M_ship_186 : decode prog_14_method_15_code 186 = .ok (.iload_n 1, 1) := by decide +kernel
theorem d_M_ship_187 : decode prog_14_method_15_code 187 = .ok (.iload_n 3, 1) := by decide +kernel
theorem d_M_ship_188 : decode prog_14_method_15_code 188 = .ok (.invokestatic 51, 3) := by decide +kernel
theorem d_M_ship_191 : decode prog_14_method_15_code 191 = .ok (.iload 4, 2) := by decide +kernel
theorem d_M_ship_193 : decode prog_14_method_15_code 193 = .ok (.iadd, 1) := by decide +kernel
theorem d_M_ship_194 : decode prog_14_method_15_code 194 = .ok (.iaload, 1) := by decide +kernel
theorem d_M_ship_195 : decode prog_14_method_15_code 195 = .ok (.iastore, 1) := by decide +kernel
theorem d_M_ship_196 : decode prog_14_method_15_code 196 = .ok (.iinc 4 1, 3) := by decide +kernel
theorem d_M_ship_199 : decode prog_14_method_15_code 199 = .ok (.goto (-36), 3) := by decide +kernel
theorem d_M_ship_202 : decode prog_14_method_15_code 202 = .ok (.aload_n 0, 1) := by decide +kernel
theorem d_M_ship_203 : decode prog_14_method_15_code 203 = .ok (.getfield 20, 3) := by decide +kernel
theorem d_M_ship_206 : decode prog_14_method_15_code 206 = .ok (.iload_n 2, 1) := by decide +kernel
theorem d_M_ship_207 : decode prog_14_method_15_code 207 = .ok (.dup2, 1) := by decide +kernel
theorem d_M_ship_208 : decode prog_14_method_15_code 208 = .ok (.iaload, 1) := by decide +kernel
theorem d_M_ship_209 : decode prog_14_method_15_code 209 = .ok (.iconst 1, 1) := by decide +kernel
theorem d_M_ship_210 : decode prog_14_method_15_code 210 = .ok (.iadd, 1) := by decide +kernel
theorem d_M_ship_211 : decode prog_14_method_15_code 211 = .ok (.iastore, 1) := by decide +kernel
theorem d_M_ship_212 : decode prog_14_method_15_code 212 = .ok (.aload_n 0, 1) := by decide +kernel
theorem d_M_ship_213 : decode prog_14_method_15_code 213 = .ok (.getfield 23, 3) := by decide +kernel
theorem d_M_ship_216 : decode prog_14_method_15_code 216 = .ok (.iload_n 1, 1) := by decide +kernel
theorem d_M_ship_217 : decode prog_14_method_15_code 217 = .ok (.iaload, 1) := by decide +kernel
theorem d_M_ship_218 : decode prog_14_method_15_code 218 = .ok (.istore 4, 2) := by decide +kernel
theorem d_M_ship_220 : decode prog_14_method_15_code 220 = .ok (.iload 4, 2) := by decide +kernel
theorem d_M_ship_222 : decode prog_14_method_15_code 222 = .ok (.aload_n 0, 1) := by decide +kernel
theorem d_M_ship_223 : decode prog_14_method_15_code 223 = .ok (.getfield 20, 3) := by decide +kernel
theorem d_M_ship_226 : decode prog_14_method_15_code 226 = .ok (.iload_n 1, 1) := by decide +kernel
theorem d_M_ship_227 : decode prog_14_method_15_code 227 = .ok (.iaload, 1) := by decide +kernel
theorem d_M_ship_228 : decode prog_14_method_15_code 228 = .ok (.if_icmp .ge 46, 3) := by decide +kernel
theorem d_M_ship_231 : decode prog_14_method_15_code 231 = .ok (.aload_n 0, 1) := by decide +kernel
theorem d_M_ship_232 : decode prog_14_method_15_code 232 = .ok (.iload_n 1, 1) := by decide +kernel
theorem d_M_ship_233 : decode prog_14_method_15_code 233 = .ok (.iload 4, 2) := by decide +kernel
theorem d_M_ship_235 : decode prog_14_method_15_code 235 = .ok (.invokevirtual 55, 3) := by decide +kernel
theorem d_M_ship_238 : decode prog_14_method_15_code 238 = .ok (.aload_n 0, 1) := by decide +kernel
theorem d_M_ship_239 : decode prog_14_method_15_code 239 = .ok (.getfield 16, 3) := by decide +kernel
theorem d_M_ship_242 : decode prog_14_method_15_code 242 = .ok (.iload_n 1, 1) := by decide +kernel
theorem d_M_ship_243 : decode prog_14_method_15_code 243 = .ok (.iaload, 1) := by decide +kernel
theorem d_M_ship_244 : decode prog_14_method_15_code 244 = .ok (.if_icmp .ne 24, 3) := by decide +kernel
theorem d_M_ship_247 : decode prog_14_method_15_code 247 = .ok (.aload_n 0, 1) := by decide +kernel
theorem d_M_ship_248 : decode prog_14_method_15_code 248 = .ok (.iload_n 1, 1) := by decide +kernel
theorem d_M_ship_249 : decode prog_14_method_15_code 249 = .ok (.iload 4, 2) := by decide +kernel
theorem d_M_ship_251 : decode prog_14_method_15_code 251 = .ok (.invokevirtual 73, 3) := by decide +kernel
theorem d_M_ship_254 : decode prog_14_method_15_code 254 = .ok (.iconst 2, 1) := by decide +kernel
theorem d_M_ship_255 : decode prog_14_method_15_code 255 = .ok (.if_icmp .lt 13, 3) := by decide +kernel
theorem d_M_ship_258 : decode prog_14_method_15_code 258 = .ok (.aload_n 0, 1) := by decide +kernel
theorem d_M_ship_259 : decode prog_14_method_15_code 259 = .ok (.getfield 23, 3) := by decide +kernel
theorem d_M_ship_262 : decode prog_14_method_15_code 262 = .ok (.iload_n 1, 1) := by decide +kernel
theorem d_M_ship_263 : decode prog_14_method_15_code 263 = .ok (.iload 4, 2) := by decide +kernel
theorem d_M_ship_265 : decode prog_14_method_15_code 265 = .ok (.iconst 1, 1) := by decide +kernel
theorem d_M_ship_266 : decode prog_14_method_15_code 266 = .ok (.iadd, 1) := by decide +kernel
theorem d_M_ship_267 : decode prog_14_method_15_code 267 = .ok (.iastore, 1) := by decide +kernel
theorem d_M_ship_268 : decode prog_14_method_15_code 268 = .ok (.iinc 4 1, 3) := by decide +kernel
theorem d_M_ship_271 : decode prog_14_method_15_code 271 = .ok (.goto (-51), 3) := by decide +kernel
theorem d_M_ship_274 : decode prog_14_method_15_code 274 = .ok (.aload_n 0, 1) := by decide +kernel
theorem d_M_ship_275 : decode prog_14_method_15_code 275 = .ok (.getfield 23, 3) := by decide +kernel
theorem d_M_ship_278 : decode prog_14_method_15_code 278 = .ok (.iload_n 1, 1) := by decide +kernel
theorem d_M_ship_279 : decode prog_14_method_15_code 279 = .ok (.iaload, 1) := by decide +kernel
theorem d_M_ship_280 : decode prog_14_method_15_code 280 = .ok (.aload_n 0, 1) := by decide +kernel
theorem d_M_ship_281 : decode prog_14_method_15_code 281 = .ok (.getfield 20, 3) := by decide +kernel
theorem d_M_ship_284 : decode prog_14_method_15_code 284 = .ok (.iload_n 2, 1) := by decide +kernel
theorem d_M_ship_285 : decode prog_14_method_15_code 285 = .ok (.iaload, 1) := by decide +kernel
theorem d_M_ship_286 : decode prog_14_method_15_code 286 = .ok (.if_icmp .ge 12, 3) := by decide +kernel
theorem d_M_ship_289 : decode prog_14_method_15_code 289 = .ok (.aload_n 0, 1) := by decide +kernel
theorem d_M_ship_290 : decode prog_14_method_15_code 290 = .ok (.getfield 23, 3) := by decide +kernel
theorem d_M_ship_293 : decode prog_14_method_15_code 293 = .ok (.iload_n 1, 1) := by decide +kernel
theorem d_M_ship_294 : decode prog_14_method_15_code 294 = .ok (.iaload, 1) := by decide +kernel
theorem d_M_ship_295 : decode prog_14_method_15_code 295 = .ok (.goto 9, 3) := by decide +kernel
theorem d_M_ship_298 : decode prog_14_method_15_code 298 = .ok (.aload_n 0, 1) := by decide +kernel
theorem d_M_ship_299 : decode prog_14_method_15_code 299 = .ok (.getfield 20, 3) := by decide +kernel
theorem d_M_ship_302 : decode prog_14_method_15_code 302 = .ok (.iload_n 2, 1) := by decide +kernel
theorem d_M_ship_303 : decode prog_14_method_15_code 303 = .ok (.iaload, 1) := by decide +kernel
theorem d_M_ship_304 : decode prog_14_method_15_code 304 = .ok (.istore 4, 2) := by decide +kernel
theorem d_M_ship_306 : decode prog_14_method_15_code 306 = .ok (.aload_n 0, 1) := by decide +kernel
theorem d_M_ship_307 : decode prog_14_method_15_code 307 = .ok (.getfield 23, 3) := by decide +kernel
theorem d_M_ship_310 : decode prog_14_method_15_code 310 = .ok (.iload_n 2, 1) := by decide +kernel
theorem d_M_ship_311 : decode prog_14_method_15_code 311 = .ok (.iload 4, 2) := by decide +kernel
theorem d_M_ship_313 : decode prog_14_method_15_code 313 = .ok (.aload_n 0, 1) := by decide +kernel
theorem d_M_ship_314 : decode prog_14_method_15_code 314 = .ok (.getfield 23, 3) := by decide +kernel
theorem d_M_ship_317 : decode prog_14_method_15_code 317 = .ok (.iload_n 2, 1) := by decide +kernel
theorem d_M_ship_318 : decode prog_14_method_15_code 318 = .ok (.iaload, 1) := by decide +kernel
theorem d_M_ship_319 : decode prog_14_method_15_code 319 = .ok (.if_icmp .le 8, 3) := by decide +kernel
theorem d_M_ship_322 : decode prog_14_method_15_code 322 = .ok (.iload 4, 2) := by decide +kernel
theorem d_M_ship_324 : decode prog_14_method_15_code 324 = .ok (.goto 9, 3) := by decide +kernel
theorem d_M_ship_327 : decode prog_14_method_15_code 327 = .ok (.aload_n 0, 1) := by decide +kernel
theorem d_M_ship_328 : decode prog_14_method_15_code 328 = .ok (.getfield 23, 3) := by decide +kernel
theorem d_M_ship_331 : decode prog_14_method_15_code 331 = .ok (.iload_n 2, 1) := by decide +kernel
theorem d_M_ship_332 : decode prog_14_method_15_code 332 = .ok (.iaload, 1) := by decide +kernel
theorem d_M_ship_333 : decode prog_14_method_15_code 333 = .ok (.iastore, 1) := by decide +kernel
theorem d_M_ship_334 : decode prog_14_method_15_code 334 = .ok (.aload_n 0, 1) := by decide +kernel
theorem d_M_ship_335 : decode prog_14_method_15_code 335 = .ok (.getfield 20, 3) := by decide +kernel
theorem d_M_ship_338 : decode prog_14_method_15_code 338 = .ok (.iload_n 2, 1) := by decide +kernel
theorem d_M_ship_339 : decode prog_14_method_15_code 339 = .ok (.iaload, 1) := by decide +kernel
theorem d_M_ship_340 : decode prog_14_method_15_code 340 = .ok (.ireturn, 1) := by decide +kernel
