theorem dL_line_256 : decode cL_line 256 = .ok (.ishl, 1) := by decide +kernel
theorem dL_line_257 : decode cL_line 257 = .ok (.iload_n 2, 1) := by decide +kernel
theorem dL_line_258 : decode cL_line 258 = .ok (.invokestatic 116, 3) := by decide +kernel
theorem dL_line_261 : decode cL_line 261 = .ok (.ldc 18, 2) := by decide +kernel
theorem dL_line_263 : decode cL_line 263 = .ok (.if_icmp .ne 53, 3) := by decide +kernel
theorem dL_line_266 : decode cL_line 266 = .ok (.aload_n 0, 1) := by decide +kernel
theorem dL_line_267 : decode cL_line 267 = .ok (.iconst (-1), 1) := by decide +kernel
theorem dL_line_268 : decode cL_line 268 = .ok (.iload_n 2, 1) := by decide +kernel
theorem dL_line_269 : decode cL_line 269 = .ok (.invokestatic 118, 3) := by decide +kernel
theorem dL_line_272 : decode cL_line 272 = .ok (.ldc 18, 2) := by decide +kernel
theorem dL_line_274 : decode cL_line 274 = .ok (.if_icmp .ne 42, 3) := by decide +kernel
theorem dL_line_277 : decode cL_line 277 = .ok (.aload_n 0, 1) := by decide +kernel
theorem dL_line_278 : decode cL_line 278 = .ok (.iconst 0, 1) := by decide +kernel
theorem dL_line_279 : decode cL_line 279 = .ok (.bipush 7, 2) := by decide +kernel
theorem dL_line_281 : decode cL_line 281 = .ok (.invokestatic 122, 3) := by decide +kernel
theorem dL_line_284 : decode cL_line 284 = .ok (.ldc 18, 2) := by decide +kernel
theorem dL_line_286 : decode cL_line 286 = .ok (.if_icmp .ne 30, 3) := by decide +kernel
theorem dL_line_289 : decode cL_line 289 = .ok (.aload_n 0, 1) := by decide +kernel
theorem dL_line_290 : decode cL_line 290 = .ok (.iconst 0, 1) := by decide +kernel
theorem dL_line_291 : decode cL_line 291 = .ok (.iconst 0, 1) := by decide +kernel
theorem dL_line_292 : decode cL_line 292 = .ok (.invokestatic 120, 3) := by decide +kernel
theorem dL_line_295 : decode cL_line 295 = .ok (.ldc 18, 2) := by decide +kernel
theorem dL_line_297 : decode cL_line 297 = .ok (.if_icmp .ne 19, 3) := by decide +kernel
theorem dL_line_300 : decode cL_line 300 = .ok (.aload_n 0, 1) := by decide +kernel
theorem dL_line_301 : decode cL_line 301 = .ok (.iconst 4, 1) := by decide +kernel
theorem dL_line_302 : decode cL_line 302 = .ok (.iconst 1, 1) := by decide +kernel
theorem dL_line_303 : decode cL_line 303 = .ok (.invokestatic 124, 3) := by decide +kernel
theorem dL_line_306 : decode cL_line 306 = .ok (.ldc 82, 2) := by decide +kernel
theorem dL_line_308 : decode cL_line 308 = .ok (.fcmp .l, 1) := by decide +kernel
theorem dL_line_309 : decode cL_line 309 = .ok (.ifCond .ne 7, 3) := by decide +kernel
theorem dL_line_312 : decode cL_line 312 = .ok (.iconst 1, 1) := by decide +kernel
theorem dL_line_313 : decode cL_line 313 = .ok (.goto 4, 3) := by decide +kernel
theorem dL_line_316 : decode cL_line 316 = .ok (.iconst 0, 1) := by decide +kernel
theorem dL_line_317 : decode cL_line 317 = .ok (.ireturn, 1) := by decide +kernel
theorem dL_acts_0 : decode cL_acts 0 = .ok (.iload 4, 2) := by decide +kernel
theorem dL_acts_2 : decode cL_acts 2 = .ok (.bipush 20, 2) := by decide +kernel
theorem dL_acts_4 : decode cL_acts 4 = .ok (.invokestatic 127, 3) := by decide +kernel
theorem dL_acts_7 : decode cL_acts 7 = .ok (.istore 6, 2) := by decide +kernel
theorem dL_acts_9 : decode cL_acts 9 = .ok (.aload_n 3, 1) := by decide +kernel
theorem dL_acts_10 : decode cL_acts 10 = .ok (.iconst 0, 1) := by decide +kernel
theorem dL_acts_11 : decode cL_acts 11 = .ok (.iaload, 1) := by decide +kernel
theorem dL_acts_12 : decode cL_acts 12 = .ok (.iconst 2, 1) := by decide +kernel
theorem dL_acts_13 : decode cL_acts 13 = .ok (.if_icmp .lt 8, 3) := by decide +kernel
theorem dL_acts_16 : decode cL_acts 16 = .ok (.iload 6, 2) := by decide +kernel
theorem dL_acts_18 : decode cL_acts 18 = .ok (.ifCond .ne 79, 3) := by decide +kernel
theorem dL_acts_21 : decode cL_acts 21 = .ok (.aload_n 3, 1) := by decide +kernel
theorem dL_acts_22 : decode cL_acts 22 = .ok (.iconst 0, 1) := by decide +kernel
theorem dL_acts_23 : decode cL_acts 23 = .ok (.iaload, 1) := by decide +kernel
theorem dL_acts_24 : decode cL_acts 24 = .ok (.bipush 8, 2) := by decide +kernel
theorem dL_acts_26 : decode cL_acts 26 = .ok (.if_icmp .ge 9, 3) := by decide +kernel
theorem dL_acts_29 : decode cL_acts 29 = .ok (.aload_n 3, 1) := by decide +kernel
theorem dL_acts_30 : decode cL_acts 30 = .ok (.iconst 0, 1) := by decide +kernel
theorem dL_acts_31 : decode cL_acts 31 = .ok (.iaload, 1) := by decide +kernel
theorem dL_acts_32 : decode cL_acts 32 = .ok (.goto 5, 3) := by decide +kernel
theorem dL_acts_35 : decode cL_acts 35 = .ok (.ldc 32, 2) := by decide +kernel
theorem dL_acts_37 : decode cL_acts 37 = .ok (.istore 7, 2) := by decide +kernel
theorem dL_acts_39 : decode cL_acts 39 = .ok (.aload_n 3, 1) := by decide +kernel
theorem dL_acts_40 : decode cL_acts 40 = .ok (.iconst 0, 1) := by decide +kernel
theorem dL_acts_41 : decode cL_acts 41 = .ok (.dup2, 1) := by decide +kernel
theorem dL_acts_42 : decode cL_acts 42 = .ok (.iaload, 1) := by decide +kernel
theorem dL_acts_43 : decode cL_acts 43 = .ok (.iload 7, 2) := by decide +kernel
theorem dL_acts_45 : decode cL_acts 45 = .ok (.ifCond .ge 7, 3) := by decide +kernel
theorem dL_acts_48 : decode cL_acts 48 = .ok (.iconst 0, 1) := by decide +kernel
theorem dL_acts_49 : decode cL_acts 49 = .ok (.goto 4, 3) := by decide +kernel
theorem dL_acts_52 : decode cL_acts 52 = .ok (.iconst 1, 1) := by decide +kernel
theorem dL_acts_53 : decode cL_acts 53 = .ok (.iadd, 1) := by decide +kernel
theorem dL_acts_54 : decode cL_acts 54 = .ok (.iastore, 1) := by decide +kernel
theorem dL_acts_55 : decode cL_acts 55 = .ok (.aload_n 0, 1) := by decide +kernel
theorem dL_acts_56 : decode cL_acts 56 = .ok (.invokestatic 130, 3) := by decide +kernel
theorem dL_acts_59 : decode cL_acts 59 = .ok (.iload 7, 2) := by decide +kernel
theorem dL_acts_61 : decode cL_acts 61 = .ok (.if_icmp .ne 34, 3) := by decide +kernel
theorem dL_acts_64 : decode cL_acts 64 = .ok (.iload 7, 2) := by decide +kernel
theorem dL_acts_66 : decode cL_acts 66 = .ok (.ifCond .lt 25, 3) := by decide +kernel
theorem dL_acts_69 : decode cL_acts 69 = .ok (.aload_n 0, 1) := by decide +kernel
theorem dL_acts_70 : decode cL_acts 70 = .ok (.iload 7, 2) := by decide +kernel
theorem dL_acts_72 : decode cL_acts 72 = .ok (.invokestatic 101, 3) := by decide +kernel
theorem dL_acts_75 : decode cL_acts 75 = .ok (.ifCond .ne 20, 3) := by decide +kernel
theorem dL_acts_78 : decode cL_acts 78 = .ok (.aload_n 0, 1) := by decide +kernel
theorem dL_acts_79 : decode cL_acts 79 = .ok (.iload 7, 2) := by decide +kernel
theorem dL_acts_81 : decode cL_acts 81 = .ok (.iconst 4, 1) := by decide +kernel
theorem dL_acts_82 : decode cL_acts 82 = .ok (.invokestatic 114, 3) := by decide +kernel
theorem dL_acts_85 : decode cL_acts 85 = .ok (.sipush 1000, 3) := by decide +kernel
theorem dL_acts_88 : decode cL_acts 88 = .ok (.if_icmp .ne 7, 3) := by decide +kernel
theorem dL_acts_91 : decode cL_acts 91 = .ok (.iconst 1, 1) := by decide +kernel
theorem dL_acts_92 : decode cL_acts 92 = .ok (.goto 4, 3) := by decide +kernel
theorem dL_acts_95 : decode cL_acts 95 = .ok (.iconst 0, 1) := by decide +kernel
theorem dL_acts_96 : decode cL_acts 96 = .ok (.ireturn, 1) := by decide +kernel
theorem dL_acts_97 : decode cL_acts 97 = .ok (.aload_n 3, 1) := by decide +kernel
theorem dL_acts_98 : decode cL_acts 98 = .ok (.iconst 2, 1) := by decide +kernel
theorem dL_acts_99 : decode cL_acts 99 = .ok (.iaload, 1) := by decide +kernel
theorem dL_acts_100 : decode cL_acts 100 = .ok (.iconst 1, 1) := by decide +kernel
theorem dL_acts_101 : decode cL_acts 101 = .ok (.if_icmp .ne 229, 3) := by decide +kernel
theorem dL_acts_104 : decode cL_acts 104 = .ok (.iload 6, 2) := by decide +kernel
theorem dL_acts_106 : decode cL_acts 106 = .ok (.bipush 12, 2) := by decide +kernel
theorem dL_acts_108 : decode cL_acts 108 = .ok (.if_icmp .ge 222, 3) := by decide +kernel
theorem dL_acts_111 : decode cL_acts 111 = .ok (.aload_n 0, 1) := by decide +kernel
theorem dL_acts_112 : decode cL_acts 112 = .ok (.invokevirtual 133, 3) := by decide +kernel
theorem dL_acts_115 : decode cL_acts 115 = .ok (.istore 7, 2) := by decide +kernel
theorem dL_acts_117 : decode cL_acts 117 = .ok (.iload 5, 2) := by decide +kernel
theorem dL_acts_119 : decode cL_acts 119 = .ok (.iload 4, 2) := by decide +kernel
theorem dL_acts_121 : decode cL_acts 121 = .ok (.bipush 7, 2) := by decide +kernel
theorem dL_acts_123 : decode cL_acts 123 = .ok (.ishr, 1) := by decide +kernel
theorem dL_acts_124 : decode cL_acts 124 = .ok (.iconst 3, 1) := by decide +kernel
theorem dL_acts_125 : decode cL_acts 125 = .ok (.invokestatic 127, 3) := by decide +kernel
theorem dL_acts_128 : decode cL_acts 128 = .ok (.ifCond .ne 7, 3) := by decide +kernel
theorem dL_acts_131 : decode cL_acts 131 = .ok (.iconst 4, 1) := by decide +kernel
theorem dL_acts_132 : decode cL_acts 132 = .ok (.goto 4, 3) := by decide +kernel
theorem dL_acts_135 : decode cL_acts 135 = .ok (.iconst 2, 1) := by decide +kernel
theorem dL_acts_136 : decode cL_acts 136 = .ok (.invokestatic 127, 3) := by decide +kernel
theorem dL_acts_139 : decode cL_acts 139 = .ok (.istore 8, 2) := by decide +kernel
theorem dL_acts_141 : decode cL_acts 141 = .ok (.aload_n 3, 1) := by decide +kernel
theorem dL_acts_142 : decode cL_acts 142 = .ok (.iconst 3, 1) := by decide +kernel
theorem dL_acts_143 : decode cL_acts 143 = .ok (.iaload, 1) := by decide +kernel
theorem dL_acts_144 : decode cL_acts 144 = .ok (.bipush 12, 2) := by decide +kernel
theorem dL_acts_146 : decode cL_acts 146 = .ok (.if_icmp .ge 7, 3) := by decide +kernel
theorem dL_acts_149 : decode cL_acts 149 = .ok (.iconst 1, 1) := by decide +kernel
theorem dL_acts_150 : decode cL_acts 150 = .ok (.goto 4, 3) := by decide +kernel
theorem dL_acts_153 : decode cL_acts 153 = .ok (.iconst 0, 1) := by decide +kernel
theorem dL_acts_154 : decode cL_acts 154 = .ok (.istore 9, 2) := by decide +kernel
theorem dL_acts_156 : decode cL_acts 156 = .ok (.aload_n 0, 1) := by decide +kernel
theorem dL_acts_157 : decode cL_acts 157 = .ok (.aload_n 0, 1) := by decide +kernel
theorem dL_acts_158 : decode cL_acts 158 = .ok (.iload 7, 2) := by decide +kernel
theorem dL_acts_160 : decode cL_acts 160 = .ok (.aload_n 0, 1) := by decide +kernel
theorem dL_acts_161 : decode cL_acts 161 = .ok (.iload 7, 2) := by decide +kernel
theorem dL_acts_163 : decode cL_acts 163 = .ok (.invokestatic 89, 3) := by decide +kernel
theorem dL_acts_166 : decode cL_acts 166 = .ok (.invokestatic 96, 3) := by decide +kernel
theorem dL_acts_169 : decode cL_acts 169 = .ok (.invokestatic 94, 3) := by decide +kernel
theorem dL_acts_172 : decode cL_acts 172 = .ok (.istore 10, 2) := by decide +kernel
theorem dL_acts_174 : decode cL_acts 174 = .ok (.iload 9, 2) := by decide +kernel
theorem dL_acts_176 : decode cL_acts 176 = .ok (.ifCond .ne 8, 3) := by decide +kernel
theorem dL_acts_179 : decode cL_acts 179 = .ok (.ldc 32, 2) := by decide +kernel
theorem dL_acts_181 : decode cL_acts 181 = .ok (.goto 28, 3) := by decide +kernel
theorem dL_acts_184 : decode cL_acts 184 = .ok (.aload_n 0, 1) := by decide +kernel
theorem dL_acts_185 : decode cL_acts 185 = .ok (.aload_n 0, 1) := by decide +kernel
theorem dL_acts_186 : decode cL_acts 186 = .ok (.iload 7, 2) := by decide +kernel
theorem dL_acts_188 : decode cL_acts 188 = .ok (.iload 8, 2) := by decide +kernel
theorem dL_acts_190 : decode cL_acts 190 = .ok (.invokestatic 96, 3) := by decide +kernel
theorem dL_acts_193 : decode cL_acts 193 = .ok (.invokestatic 94, 3) := by decide +kernel
theorem dL_acts_196 : decode cL_acts 196 = .ok (.bipush 40, 2) := by decide +kernel
theorem dL_acts_198 : decode cL_acts 198 = .ok (.iadd, 1) := by decide +kernel
theorem dL_acts_199 : decode cL_acts 199 = .ok (.iload 10, 2) := by decide +kernel
theorem dL_acts_201 : decode cL_acts 201 = .ok (.if_icmp .gt 7, 3) := by decide +kernel
theorem dL_acts_204 : decode cL_acts 204 = .ok (.iconst 1, 1) := by decide +kernel
theorem dL_acts_205 : decode cL_acts 205 = .ok (.goto 4, 3) := by decide +kernel
theorem dL_acts_208 : decode cL_acts 208 = .ok (.iconst 0, 1) := by decide +kernel
theorem dL_acts_209 : decode cL_acts 209 = .ok (.istore 11, 2) := by decide +kernel
theorem dL_acts_211 : decode cL_acts 211 = .ok (.aload_n 3, 1) := by decide +kernel
theorem dL_acts_212 : decode cL_acts 212 = .ok (.iconst 4, 1) := by decide +kernel
theorem dL_acts_213 : decode cL_acts 213 = .ok (.dup2, 1) := by decide +kernel
theorem dL_acts_214 : decode cL_acts 214 = .ok (.iaload, 1) := by decide +kernel
theorem dL_acts_215 : decode cL_acts 215 = .ok (.iload 9, 2) := by decide +kernel
theorem dL_acts_217 : decode cL_acts 217 = .ok (.ifCond .eq 22, 3) := by decide +kernel
theorem dL_acts_220 : decode cL_acts 220 = .ok (.aload_n 3, 1) := by decide +kernel
theorem dL_acts_221 : decode cL_acts 221 = .ok (.iconst 3, 1) := by decide +kernel
theorem dL_acts_222 : decode cL_acts 222 = .ok (.iaload, 1) := by decide +kernel
theorem dL_acts_223 : decode cL_acts 223 = .ok (.bipush 6, 2) := by decide +kernel
theorem dL_acts_225 : decode cL_acts 225 = .ok (.if_icmp .ge 14, 3) := by decide +kernel
theorem dL_acts_228 : decode cL_acts 228 = .ok (.iload 8, 2) := by decide +kernel
theorem dL_acts_230 : decode cL_acts 230 = .ok (.iconst 2, 1) := by decide +kernel
theorem dL_acts_231 : decode cL_acts 231 = .ok (.aload_n 3, 1) := by decide +kernel
theorem dL_acts_232 : decode cL_acts 232 = .ok (.iconst 3, 1) := by decide +kernel
theorem dL_acts_233 : decode cL_acts 233 = .ok (.iaload, 1) := by decide +kernel
theorem dL_acts_234 : decode cL_acts 234 = .ok (.imul, 1) := by decide +kernel
theorem dL_acts_235 : decode cL_acts 235 = .ok (.ishl, 1) := by decide +kernel
theorem dL_acts_236 : decode cL_acts 236 = .ok (.goto 4, 3) := by decide +kernel
theorem dL_acts_239 : decode cL_acts 239 = .ok (.iconst 0, 1) := by decide +kernel
theorem dL_acts_240 : decode cL_acts 240 = .ok (.iadd, 1) := by decide +kernel
theorem dL_acts_241 : decode cL_acts 241 = .ok (.iastore, 1) := by decide +kernel
theorem dL_acts_242 : decode cL_acts 242 = .ok (.aload_n 3, 1) := by decide +kernel
theorem dL_acts_243 : decode cL_acts 243 = .ok (.iconst 3, 1) := by decide +kernel
theorem dL_acts_244 : decode cL_acts 244 = .ok (.dup2, 1) := by decide +kernel
theorem dL_acts_245 : decode cL_acts 245 = .ok (.iaload, 1) := by decide +kernel
theorem dL_acts_246 : decode cL_acts 246 = .ok (.iload 9, 2) := by decide +kernel
theorem dL_acts_248 : decode cL_acts 248 = .ok (.ifCond .eq 7, 3) := by decide +kernel
theorem dL_acts_251 : decode cL_acts 251 = .ok (.iconst 1, 1) := by decide +kernel
theorem dL_acts_252 : decode cL_acts 252 = .ok (.goto 4, 3) := by decide +kernel
theorem dL_acts_255 : decode cL_acts 255 = .ok (.iconst 0, 1) := by decide +kernel
theorem dL_acts_256 : decode cL_acts 256 = .ok (.iadd, 1) := by decide +kernel
theorem dL_acts_257 : decode cL_acts 257 = .ok (.iastore, 1) := by decide +kernel
theorem dL_acts_258 : decode cL_acts 258 = .ok (.aload_n 0, 1) := by decide +kernel
theorem dL_acts_259 : decode cL_acts 259 = .ok (.iload 7, 2) := by decide +kernel
theorem dL_acts_261 : decode cL_acts 261 = .ok (.invokestatic 136, 3) := by decide +kernel
theorem dL_acts_264 : decode cL_acts 264 = .ok (.ifCond .eq 64, 3) := by decide +kernel
theorem dL_acts_267 : decode cL_acts 267 = .ok (.aload_n 0, 1) := by decide +kernel
theorem dL_acts_268 : decode cL_acts 268 = .ok (.iload 8, 2) := by decide +kernel
theorem dL_acts_270 : decode cL_acts 270 = .ok (.invokestatic 139, 3) := by decide +kernel
theorem dL_acts_273 : decode cL_acts 273 = .ok (.iload 11, 2) := by decide +kernel
theorem dL_acts_275 : decode cL_acts 275 = .ok (.if_icmp .ne 53, 3) := by decide +kernel
theorem dL_acts_278 : decode cL_acts 278 = .ok (.aload_n 0, 1) := by decide +kernel
theorem dL_acts_279 : decode cL_acts 279 = .ok (.invokevirtual 133, 3) := by decide +kernel
theorem dL_acts_282 : decode cL_acts 282 = .ok (.iload 9, 2) := by decide +kernel
theorem dL_acts_284 : decode cL_acts 284 = .ok (.ifCond .eq 14, 3) := by decide +kernel
theorem dL_acts_287 : decode cL_acts 287 = .ok (.aload_n 0, 1) := by decide +kernel
theorem dL_acts_288 : decode cL_acts 288 = .ok (.iload 7, 2) := by decide +kernel
theorem dL_acts_290 : decode cL_acts 290 = .ok (.iload 8, 2) := by decide +kernel
theorem dL_acts_292 : decode cL_acts 292 = .ok (.invokestatic 96, 3) := by decide +kernel
theorem dL_acts_295 : decode cL_acts 295 = .ok (.goto 5, 3) := by decide +kernel
theorem dL_acts_298 : decode cL_acts 298 = .ok (.iload 7, 2) := by decide +kernel
theorem dL_acts_300 : decode cL_acts 300 = .ok (.if_icmp .ne 28, 3) := by decide +kernel
theorem dL_acts_303 : decode cL_acts 303 = .ok (.aload_n 0, 1) := by decide +kernel
theorem dL_acts_304 : decode cL_acts 304 = .ok (.iconst 4, 1) := by decide +kernel
theorem dL_acts_305 : decode cL_acts 305 = .ok (.invokestatic 139, 3) := by decide +kernel
theorem dL_acts_308 : decode cL_acts 308 = .ok (.ldc 18, 2) := by decide +kernel
theorem dL_acts_310 : decode cL_acts 310 = .ok (.if_icmp .ne 18, 3) := by decide +kernel
theorem dL_acts_313 : decode cL_acts 313 = .ok (.aload_n 0, 1) := by decide +kernel
theorem dL_acts_314 : decode cL_acts 314 = .ok (.iconst 0, 1) := by decide +kernel
theorem dL_acts_315 : decode cL_acts 315 = .ok (.iconst 1, 1) := by decide +kernel
theorem dL_acts_316 : decode cL_acts 316 = .ok (.invokestatic 141, 3) := by decide +kernel
theorem dL_acts_319 : decode cL_acts 319 = .ok (.ldc 32, 2) := by decide +kernel
theorem dL_acts_321 : decode cL_acts 321 = .ok (.if_icmp .ne 7, 3) := by decide +kernel
theorem dL_acts_324 : decode cL_acts 324 = .ok (.iconst 1, 1) := by decide +kernel
theorem dL_acts_325 : decode cL_acts 325 = .ok (.goto 4, 3) := by decide +kernel
theorem dL_acts_328 : decode cL_acts 328 = .ok (.iconst 0, 1) := by decide +kernel
theorem dL_acts_329 : decode cL_acts 329 = .ok (.ireturn, 1) := by decide +kernel
theorem dL_acts_330 : decode cL_acts 330 = .ok (.aload_n 3, 1) := by decide +kernel
theorem dL_acts_331 : decode cL_acts 331 = .ok (.iconst 2, 1) := by decide +kernel
theorem dL_acts_332 : decode cL_acts 332 = .ok (.iaload, 1) := by decide +kernel
theorem dL_acts_333 : decode cL_acts 333 = .ok (.iconst 1, 1) := by decide +kernel
theorem dL_acts_334 : decode cL_acts 334 = .ok (.if_icmp .ne 359, 3) := by decide +kernel
theorem dL_acts_337 : decode cL_acts 337 = .ok (.iload 5, 2) := by decide +kernel
