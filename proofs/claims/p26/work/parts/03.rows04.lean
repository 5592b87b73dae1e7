theorem dL_pairs_203 : decode cL_pairs 203 = .ok (.aload_n 2, 1) := by decide +kernel
theorem dL_pairs_204 : decode cL_pairs 204 = .ok (.iconst 0, 1) := by decide +kernel
theorem dL_pairs_205 : decode cL_pairs 205 = .ok (.iaload, 1) := by decide +kernel
theorem dL_pairs_206 : decode cL_pairs 206 = .ok (.iconst 2, 1) := by decide +kernel
theorem dL_pairs_207 : decode cL_pairs 207 = .ok (.irem, 1) := by decide +kernel
theorem dL_pairs_208 : decode cL_pairs 208 = .ok (.if_icmp .ne 67, 3) := by decide +kernel
theorem dL_pairs_211 : decode cL_pairs 211 = .ok (.iload 4, 2) := by decide +kernel
theorem dL_pairs_213 : decode cL_pairs 213 = .ok (.iconst 2, 1) := by decide +kernel
theorem dL_pairs_214 : decode cL_pairs 214 = .ok (.aload_n 2, 1) := by decide +kernel
theorem dL_pairs_215 : decode cL_pairs 215 = .ok (.iconst 1, 1) := by decide +kernel
theorem dL_pairs_216 : decode cL_pairs 216 = .ok (.iaload, 1) := by decide +kernel
theorem dL_pairs_217 : decode cL_pairs 217 = .ok (.imul, 1) := by decide +kernel
theorem dL_pairs_218 : decode cL_pairs 218 = .ok (.if_icmp .ne 57, 3) := by decide +kernel
theorem dL_pairs_221 : decode cL_pairs 221 = .ok (.aload_n 2, 1) := by decide +kernel
theorem dL_pairs_222 : decode cL_pairs 222 = .ok (.iconst 0, 1) := by decide +kernel
theorem dL_pairs_223 : decode cL_pairs 223 = .ok (.iaload, 1) := by decide +kernel
theorem dL_pairs_224 : decode cL_pairs 224 = .ok (.iconst 2, 1) := by decide +kernel
theorem dL_pairs_225 : decode cL_pairs 225 = .ok (.if_icmp .lt 12, 3) := by decide +kernel
theorem dL_pairs_228 : decode cL_pairs 228 = .ok (.aload_n 0, 1) := by decide +kernel
theorem dL_pairs_229 : decode cL_pairs 229 = .ok (.iload 5, 2) := by decide +kernel
theorem dL_pairs_231 : decode cL_pairs 231 = .ok (.invokestatic 99, 3) := by decide +kernel
theorem dL_pairs_234 : decode cL_pairs 234 = .ok (.ifCond .lt 41, 3) := by decide +kernel
theorem dL_pairs_237 : decode cL_pairs 237 = .ok (.aload_n 0, 1) := by decide +kernel
theorem dL_pairs_238 : decode cL_pairs 238 = .ok (.aload_n 2, 1) := by decide +kernel
theorem dL_pairs_239 : decode cL_pairs 239 = .ok (.iconst 0, 1) := by decide +kernel
theorem dL_pairs_240 : decode cL_pairs 240 = .ok (.iaload, 1) := by decide +kernel
theorem dL_pairs_241 : decode cL_pairs 241 = .ok (.invokestatic 99, 3) := by decide +kernel
theorem dL_pairs_244 : decode cL_pairs 244 = .ok (.ldc 38, 2) := by decide +kernel
theorem dL_pairs_246 : decode cL_pairs 246 = .ok (.if_icmp .ne 29, 3) := by decide +kernel
theorem dL_pairs_249 : decode cL_pairs 249 = .ok (.aload_n 0, 1) := by decide +kernel
theorem dL_pairs_250 : decode cL_pairs 250 = .ok (.iconst (-1), 1) := by decide +kernel
theorem dL_pairs_251 : decode cL_pairs 251 = .ok (.invokestatic 103, 3) := by decide +kernel
theorem dL_pairs_254 : decode cL_pairs 254 = .ok (.ldc 38, 2) := by decide +kernel
theorem dL_pairs_256 : decode cL_pairs 256 = .ok (.if_icmp .ne 19, 3) := by decide +kernel
theorem dL_pairs_259 : decode cL_pairs 259 = .ok (.aload_n 0, 1) := by decide +kernel
theorem dL_pairs_260 : decode cL_pairs 260 = .ok (.aload_n 2, 1) := by decide +kernel
theorem dL_pairs_261 : decode cL_pairs 261 = .ok (.iconst 0, 1) := by decide +kernel
theorem dL_pairs_262 : decode cL_pairs 262 = .ok (.iaload, 1) := by decide +kernel
theorem dL_pairs_263 : decode cL_pairs 263 = .ok (.invokestatic 101, 3) := by decide +kernel
theorem dL_pairs_266 : decode cL_pairs 266 = .ok (.ldc 38, 2) := by decide +kernel
theorem dL_pairs_268 : decode cL_pairs 268 = .ok (.if_icmp .ne 7, 3) := by decide +kernel
theorem dL_pairs_271 : decode cL_pairs 271 = .ok (.iconst 1, 1) := by decide +kernel
theorem dL_pairs_272 : decode cL_pairs 272 = .ok (.goto 4, 3) := by decide +kernel
theorem dL_pairs_275 : decode cL_pairs 275 = .ok (.iconst 0, 1) := by decide +kernel
theorem dL_pairs_276 : decode cL_pairs 276 = .ok (.ireturn, 1) := by decide +kernel
theorem dL_puzzles_0 : decode cL_puzzles 0 = .ok (.aload_n 0, 1) := by decide +kernel
theorem dL_puzzles_1 : decode cL_puzzles 1 = .ok (.invokevirtual 105, 3) := by decide +kernel
theorem dL_puzzles_4 : decode cL_puzzles 4 = .ok (.istore_n 3, 1) := by decide +kernel
theorem dL_puzzles_5 : decode cL_puzzles 5 = .ok (.iconst 0, 1) := by decide +kernel
theorem dL_puzzles_6 : decode cL_puzzles 6 = .ok (.istore 4, 2) := by decide +kernel
theorem dL_puzzles_8 : decode cL_puzzles 8 = .ok (.iload 4, 2) := by decide +kernel
theorem dL_puzzles_10 : decode cL_puzzles 10 = .ok (.iload_n 3, 1) := by decide +kernel
theorem dL_puzzles_11 : decode cL_puzzles 11 = .ok (.if_icmp .ge 126, 3) := by decide +kernel
theorem dL_puzzles_14 : decode cL_puzzles 14 = .ok (.aload_n 0, 1) := by decide +kernel
theorem dL_puzzles_15 : decode cL_puzzles 15 = .ok (.iload 4, 2) := by decide +kernel
theorem dL_puzzles_17 : decode cL_puzzles 17 = .ok (.invokestatic 108, 3) := by decide +kernel
theorem dL_puzzles_20 : decode cL_puzzles 20 = .ok (.istore 5, 2) := by decide +kernel
theorem dL_puzzles_22 : decode cL_puzzles 22 = .ok (.iload 5, 2) := by decide +kernel
theorem dL_puzzles_24 : decode cL_puzzles 24 = .ok (.ifCond .lt 58, 3) := by decide +kernel
theorem dL_puzzles_27 : decode cL_puzzles 27 = .ok (.iload 5, 2) := by decide +kernel
theorem dL_puzzles_29 : decode cL_puzzles 29 = .ok (.sipush 1000, 3) := by decide +kernel
theorem dL_puzzles_32 : decode cL_puzzles 32 = .ok (.if_icmp .ge 50, 3) := by decide +kernel
theorem dL_puzzles_35 : decode cL_puzzles 35 = .ok (.aload_n 0, 1) := by decide +kernel
theorem dL_puzzles_36 : decode cL_puzzles 36 = .ok (.iload 4, 2) := by decide +kernel
theorem dL_puzzles_38 : decode cL_puzzles 38 = .ok (.invokestatic 110, 3) := by decide +kernel
theorem dL_puzzles_41 : decode cL_puzzles 41 = .ok (.ifCond .lt 41, 3) := by decide +kernel
theorem dL_puzzles_44 : decode cL_puzzles 44 = .ok (.aload_n 0, 1) := by decide +kernel
theorem dL_puzzles_45 : decode cL_puzzles 45 = .ok (.iload 4, 2) := by decide +kernel
theorem dL_puzzles_47 : decode cL_puzzles 47 = .ok (.invokestatic 110, 3) := by decide +kernel
theorem dL_puzzles_50 : decode cL_puzzles 50 = .ok (.aload_n 2, 1) := by decide +kernel
theorem dL_puzzles_51 : decode cL_puzzles 51 = .ok (.iconst 1, 1) := by decide +kernel
theorem dL_puzzles_52 : decode cL_puzzles 52 = .ok (.iaload, 1) := by decide +kernel
theorem dL_puzzles_53 : decode cL_puzzles 53 = .ok (.if_icmp .ge 29, 3) := by decide +kernel
theorem dL_puzzles_56 : decode cL_puzzles 56 = .ok (.iload 4, 2) := by decide +kernel
theorem dL_puzzles_58 : decode cL_puzzles 58 = .ok (.ifCond .eq 20, 3) := by decide +kernel
theorem dL_puzzles_61 : decode cL_puzzles 61 = .ok (.aload_n 0, 1) := by decide +kernel
theorem dL_puzzles_62 : decode cL_puzzles 62 = .ok (.iload 4, 2) := by decide +kernel
theorem dL_puzzles_64 : decode cL_puzzles 64 = .ok (.invokestatic 110, 3) := by decide +kernel
theorem dL_puzzles_67 : decode cL_puzzles 67 = .ok (.aload_n 0, 1) := by decide +kernel
theorem dL_puzzles_68 : decode cL_puzzles 68 = .ok (.iload 4, 2) := by decide +kernel
theorem dL_puzzles_70 : decode cL_puzzles 70 = .ok (.iconst 1, 1) := by decide +kernel
theorem dL_puzzles_71 : decode cL_puzzles 71 = .ok (.isub, 1) := by decide +kernel
theorem dL_puzzles_72 : decode cL_puzzles 72 = .ok (.invokestatic 110, 3) := by decide +kernel
theorem dL_puzzles_75 : decode cL_puzzles 75 = .ok (.if_icmp .lt 7, 3) := by decide +kernel
theorem dL_puzzles_78 : decode cL_puzzles 78 = .ok (.iconst 1, 1) := by decide +kernel
theorem dL_puzzles_79 : decode cL_puzzles 79 = .ok (.goto 4, 3) := by decide +kernel
theorem dL_puzzles_82 : decode cL_puzzles 82 = .ok (.iconst 0, 1) := by decide +kernel
theorem dL_puzzles_83 : decode cL_puzzles 83 = .ok (.istore 6, 2) := by decide +kernel
theorem dL_puzzles_85 : decode cL_puzzles 85 = .ok (.iconst 0, 1) := by decide +kernel
theorem dL_puzzles_86 : decode cL_puzzles 86 = .ok (.istore 7, 2) := by decide +kernel
theorem dL_puzzles_88 : decode cL_puzzles 88 = .ok (.iload 7, 2) := by decide +kernel
theorem dL_puzzles_90 : decode cL_puzzles 90 = .ok (.iload 4, 2) := by decide +kernel
theorem dL_puzzles_92 : decode cL_puzzles 92 = .ok (.if_icmp .ge 32, 3) := by decide +kernel
theorem dL_puzzles_95 : decode cL_puzzles 95 = .ok (.iload 6, 2) := by decide +kernel
theorem dL_puzzles_97 : decode cL_puzzles 97 = .ok (.ifCond .eq 18, 3) := by decide +kernel
theorem dL_puzzles_100 : decode cL_puzzles 100 = .ok (.aload_n 0, 1) := by decide +kernel
theorem dL_puzzles_101 : decode cL_puzzles 101 = .ok (.iload 7, 2) := by decide +kernel
theorem dL_puzzles_103 : decode cL_puzzles 103 = .ok (.invokestatic 108, 3) := by decide +kernel
theorem dL_puzzles_106 : decode cL_puzzles 106 = .ok (.iload 5, 2) := by decide +kernel
theorem dL_puzzles_108 : decode cL_puzzles 108 = .ok (.if_icmp .eq 7, 3) := by decide +kernel
theorem dL_puzzles_111 : decode cL_puzzles 111 = .ok (.iconst 1, 1) := by decide +kernel
theorem dL_puzzles_112 : decode cL_puzzles 112 = .ok (.goto 4, 3) := by decide +kernel
theorem dL_puzzles_115 : decode cL_puzzles 115 = .ok (.iconst 0, 1) := by decide +kernel
theorem dL_puzzles_116 : decode cL_puzzles 116 = .ok (.istore 6, 2) := by decide +kernel
theorem dL_puzzles_118 : decode cL_puzzles 118 = .ok (.iinc 7 1, 3) := by decide +kernel
theorem dL_puzzles_121 : decode cL_puzzles 121 = .ok (.goto (-33), 3) := by decide +kernel
theorem dL_puzzles_124 : decode cL_puzzles 124 = .ok (.iload 6, 2) := by decide +kernel
theorem dL_puzzles_126 : decode cL_puzzles 126 = .ok (.ifCond .ne 5, 3) := by decide +kernel
theorem dL_puzzles_129 : decode cL_puzzles 129 = .ok (.iconst 0, 1) := by decide +kernel
theorem dL_puzzles_130 : decode cL_puzzles 130 = .ok (.ireturn, 1) := by decide +kernel
theorem dL_puzzles_131 : decode cL_puzzles 131 = .ok (.iinc 4 1, 3) := by decide +kernel
theorem dL_puzzles_134 : decode cL_puzzles 134 = .ok (.goto (-126), 3) := by decide +kernel
theorem dL_puzzles_137 : decode cL_puzzles 137 = .ok (.iconst 0, 1) := by decide +kernel
theorem dL_puzzles_138 : decode cL_puzzles 138 = .ok (.istore 4, 2) := by decide +kernel
theorem dL_puzzles_140 : decode cL_puzzles 140 = .ok (.iload 4, 2) := by decide +kernel
theorem dL_puzzles_142 : decode cL_puzzles 142 = .ok (.aload_n 2, 1) := by decide +kernel
theorem dL_puzzles_143 : decode cL_puzzles 143 = .ok (.iconst 0, 1) := by decide +kernel
theorem dL_puzzles_144 : decode cL_puzzles 144 = .ok (.iaload, 1) := by decide +kernel
theorem dL_puzzles_145 : decode cL_puzzles 145 = .ok (.if_icmp .ge 257, 3) := by decide +kernel
theorem dL_puzzles_148 : decode cL_puzzles 148 = .ok (.aload_n 0, 1) := by decide +kernel
theorem dL_puzzles_149 : decode cL_puzzles 149 = .ok (.iload 4, 2) := by decide +kernel
theorem dL_puzzles_151 : decode cL_puzzles 151 = .ok (.invokestatic 112, 3) := by decide +kernel
theorem dL_puzzles_154 : decode cL_puzzles 154 = .ok (.istore 5, 2) := by decide +kernel
theorem dL_puzzles_156 : decode cL_puzzles 156 = .ok (.iload 5, 2) := by decide +kernel
theorem dL_puzzles_158 : decode cL_puzzles 158 = .ok (.ifCond .ge 7, 3) := by decide +kernel
theorem dL_puzzles_161 : decode cL_puzzles 161 = .ok (.iconst 0, 1) := by decide +kernel
theorem dL_puzzles_162 : decode cL_puzzles 162 = .ok (.goto 11, 3) := by decide +kernel
theorem dL_puzzles_165 : decode cL_puzzles 165 = .ok (.aload_n 0, 1) := by decide +kernel
theorem dL_puzzles_166 : decode cL_puzzles 166 = .ok (.iload 5, 2) := by decide +kernel
theorem dL_puzzles_168 : decode cL_puzzles 168 = .ok (.invokestatic 108, 3) := by decide +kernel
theorem dL_puzzles_171 : decode cL_puzzles 171 = .ok (.iconst 5, 1) := by decide +kernel
theorem dL_puzzles_172 : decode cL_puzzles 172 = .ok (.irem, 1) := by decide +kernel
theorem dL_puzzles_173 : decode cL_puzzles 173 = .ok (.istore 6, 2) := by decide +kernel
theorem dL_puzzles_175 : decode cL_puzzles 175 = .ok (.iconst 1, 1) := by decide +kernel
theorem dL_puzzles_176 : decode cL_puzzles 176 = .ok (.istore 7, 2) := by decide +kernel
theorem dL_puzzles_178 : decode cL_puzzles 178 = .ok (.iconst 0, 1) := by decide +kernel
theorem dL_puzzles_179 : decode cL_puzzles 179 = .ok (.istore 8, 2) := by decide +kernel
theorem dL_puzzles_181 : decode cL_puzzles 181 = .ok (.iload 8, 2) := by decide +kernel
theorem dL_puzzles_183 : decode cL_puzzles 183 = .ok (.iload_n 3, 1) := by decide +kernel
theorem dL_puzzles_184 : decode cL_puzzles 184 = .ok (.if_icmp .ge 150, 3) := by decide +kernel
theorem dL_puzzles_187 : decode cL_puzzles 187 = .ok (.aload_n 1, 1) := by decide +kernel
theorem dL_puzzles_188 : decode cL_puzzles 188 = .ok (.iconst 2, 1) := by decide +kernel
theorem dL_puzzles_189 : decode cL_puzzles 189 = .ok (.iload 4, 2) := by decide +kernel
theorem dL_puzzles_191 : decode cL_puzzles 191 = .ok (.imul, 1) := by decide +kernel
theorem dL_puzzles_192 : decode cL_puzzles 192 = .ok (.iload 8, 2) := by decide +kernel
theorem dL_puzzles_194 : decode cL_puzzles 194 = .ok (.bipush 20, 2) := by decide +kernel
theorem dL_puzzles_196 : decode cL_puzzles 196 = .ok (.idiv, 1) := by decide +kernel
theorem dL_puzzles_197 : decode cL_puzzles 197 = .ok (.iadd, 1) := by decide +kernel
theorem dL_puzzles_198 : decode cL_puzzles 198 = .ok (.iaload, 1) := by decide +kernel
theorem dL_puzzles_199 : decode cL_puzzles 199 = .ok (.iload 8, 2) := by decide +kernel
theorem dL_puzzles_201 : decode cL_puzzles 201 = .ok (.bipush 20, 2) := by decide +kernel
theorem dL_puzzles_203 : decode cL_puzzles 203 = .ok (.irem, 1) := by decide +kernel
theorem dL_puzzles_204 : decode cL_puzzles 204 = .ok (.ishr, 1) := by decide +kernel
theorem dL_puzzles_205 : decode cL_puzzles 205 = .ok (.iconst 1, 1) := by decide +kernel
theorem dL_puzzles_206 : decode cL_puzzles 206 = .ok (.iand, 1) := by decide +kernel
theorem dL_puzzles_207 : decode cL_puzzles 207 = .ok (.iconst 1, 1) := by decide +kernel
theorem dL_puzzles_208 : decode cL_puzzles 208 = .ok (.if_icmp .ne 7, 3) := by decide +kernel
theorem dL_puzzles_211 : decode cL_puzzles 211 = .ok (.iconst 1, 1) := by decide +kernel
theorem dL_puzzles_212 : decode cL_puzzles 212 = .ok (.goto 4, 3) := by decide +kernel
theorem dL_puzzles_215 : decode cL_puzzles 215 = .ok (.iconst 0, 1) := by decide +kernel
theorem dL_puzzles_216 : decode cL_puzzles 216 = .ok (.istore 9, 2) := by decide +kernel
theorem dL_puzzles_218 : decode cL_puzzles 218 = .ok (.aload_n 0, 1) := by decide +kernel
theorem dL_puzzles_219 : decode cL_puzzles 219 = .ok (.iload 8, 2) := by decide +kernel
theorem dL_puzzles_221 : decode cL_puzzles 221 = .ok (.invokestatic 108, 3) := by decide +kernel
theorem dL_puzzles_224 : decode cL_puzzles 224 = .ok (.iconst 5, 1) := by decide +kernel
theorem dL_puzzles_225 : decode cL_puzzles 225 = .ok (.irem, 1) := by decide +kernel
theorem dL_puzzles_226 : decode cL_puzzles 226 = .ok (.istore 10, 2) := by decide +kernel
theorem dL_puzzles_228 : decode cL_puzzles 228 = .ok (.iload 7, 2) := by decide +kernel
theorem dL_puzzles_230 : decode cL_puzzles 230 = .ok (.ifCond .eq 12, 3) := by decide +kernel
theorem dL_puzzles_233 : decode cL_puzzles 233 = .ok (.iload 9, 2) := by decide +kernel
theorem dL_puzzles_235 : decode cL_puzzles 235 = .ok (.ifCond .eq 7, 3) := by decide +kernel
theorem dL_puzzles_238 : decode cL_puzzles 238 = .ok (.iconst 1, 1) := by decide +kernel
theorem dL_puzzles_239 : decode cL_puzzles 239 = .ok (.goto 4, 3) := by decide +kernel
theorem dL_puzzles_242 : decode cL_puzzles 242 = .ok (.iconst 0, 1) := by decide +kernel
theorem dL_puzzles_243 : decode cL_puzzles 243 = .ok (.istore 7, 2) := by decide +kernel
theorem dL_puzzles_245 : decode cL_puzzles 245 = .ok (.iload 5, 2) := by decide +kernel
theorem dL_puzzles_247 : decode cL_puzzles 247 = .ok (.iload 8, 2) := by decide +kernel
theorem dL_puzzles_249 : decode cL_puzzles 249 = .ok (.if_icmp .ne 8, 3) := by decide +kernel
theorem dL_puzzles_252 : decode cL_puzzles 252 = .ok (.iload 9, 2) := by decide +kernel
theorem dL_puzzles_254 : decode cL_puzzles 254 = .ok (.ifCond .ne 72, 3) := by decide +kernel
theorem dL_puzzles_257 : decode cL_puzzles 257 = .ok (.iload 9, 2) := by decide +kernel
theorem dL_puzzles_259 : decode cL_puzzles 259 = .ok (.ifCond .ne 69, 3) := by decide +kernel
theorem dL_puzzles_262 : decode cL_puzzles 262 = .ok (.iload 5, 2) := by decide +kernel
theorem dL_puzzles_264 : decode cL_puzzles 264 = .ok (.ifCond .lt 64, 3) := by decide +kernel
theorem dL_puzzles_267 : decode cL_puzzles 267 = .ok (.aload_n 0, 1) := by decide +kernel
theorem dL_puzzles_268 : decode cL_puzzles 268 = .ok (.iload 4, 2) := by decide +kernel
theorem dL_puzzles_270 : decode cL_puzzles 270 = .ok (.iload 10, 2) := by decide +kernel
theorem dL_puzzles_272 : decode cL_puzzles 272 = .ok (.invokestatic 114, 3) := by decide +kernel
theorem dL_puzzles_275 : decode cL_puzzles 275 = .ok (.aload_n 0, 1) := by decide +kernel
theorem dL_puzzles_276 : decode cL_puzzles 276 = .ok (.iload 4, 2) := by decide +kernel
theorem dL_puzzles_278 : decode cL_puzzles 278 = .ok (.iload 6, 2) := by decide +kernel
theorem dL_puzzles_280 : decode cL_puzzles 280 = .ok (.invokestatic 114, 3) := by decide +kernel
theorem dL_puzzles_283 : decode cL_puzzles 283 = .ok (.if_icmp .lt 43, 3) := by decide +kernel
theorem dL_puzzles_286 : decode cL_puzzles 286 = .ok (.aload_n 0, 1) := by decide +kernel
theorem dL_puzzles_287 : decode cL_puzzles 287 = .ok (.iload 4, 2) := by decide +kernel
theorem dL_puzzles_289 : decode cL_puzzles 289 = .ok (.iload 10, 2) := by decide +kernel
theorem dL_puzzles_291 : decode cL_puzzles 291 = .ok (.invokestatic 114, 3) := by decide +kernel
theorem dL_puzzles_294 : decode cL_puzzles 294 = .ok (.aload_n 0, 1) := by decide +kernel
theorem dL_puzzles_295 : decode cL_puzzles 295 = .ok (.iload 4, 2) := by decide +kernel
theorem dL_puzzles_297 : decode cL_puzzles 297 = .ok (.iload 6, 2) := by decide +kernel
theorem dL_puzzles_299 : decode cL_puzzles 299 = .ok (.invokestatic 114, 3) := by decide +kernel
theorem dL_puzzles_302 : decode cL_puzzles 302 = .ok (.if_icmp .ne 26, 3) := by decide +kernel
theorem dL_puzzles_305 : decode cL_puzzles 305 = .ok (.iload 10, 2) := by decide +kernel
theorem dL_puzzles_307 : decode cL_puzzles 307 = .ok (.iload 6, 2) := by decide +kernel
theorem dL_puzzles_309 : decode cL_puzzles 309 = .ok (.if_icmp .lt 17, 3) := by decide +kernel
theorem dL_puzzles_312 : decode cL_puzzles 312 = .ok (.iload 10, 2) := by decide +kernel
theorem dL_puzzles_314 : decode cL_puzzles 314 = .ok (.iload 6, 2) := by decide +kernel
theorem dL_puzzles_316 : decode cL_puzzles 316 = .ok (.if_icmp .ne 12, 3) := by decide +kernel
theorem dL_puzzles_319 : decode cL_puzzles 319 = .ok (.iload 8, 2) := by decide +kernel
theorem dL_puzzles_321 : decode cL_puzzles 321 = .ok (.iload 5, 2) := by decide +kernel
theorem dL_puzzles_323 : decode cL_puzzles 323 = .ok (.if_icmp .ge 5, 3) := by decide +kernel
theorem dL_puzzles_326 : decode cL_puzzles 326 = .ok (.iconst 0, 1) := by decide +kernel
theorem dL_puzzles_327 : decode cL_puzzles 327 = .ok (.ireturn, 1) := by decide +kernel
theorem dL_puzzles_328 : decode cL_puzzles 328 = .ok (.iinc 8 1, 3) := by decide +kernel
theorem dL_puzzles_331 : decode cL_puzzles 331 = .ok (.goto (-150), 3) := by decide +kernel
theorem dL_puzzles_334 : decode cL_puzzles 334 = .ok (.iconst 0, 1) := by decide +kernel
theorem dL_puzzles_335 : decode cL_puzzles 335 = .ok (.istore 8, 2) := by decide +kernel
theorem dL_puzzles_337 : decode cL_puzzles 337 = .ok (.iload 8, 2) := by decide +kernel
theorem dL_puzzles_339 : decode cL_puzzles 339 = .ok (.iconst 5, 1) := by decide +kernel
theorem dL_puzzles_340 : decode cL_puzzles 340 = .ok (.if_icmp .ge 38, 3) := by decide +kernel
