theorem dX5_does_99 : decode cX5_does 99 = .ok (.iadd, 1) := by decide +kernel
theorem dX5_does_100 : decode cX5_does 100 = .ok (.iconst 3, 1) := by decide +kernel
theorem dX5_does_101 : decode cX5_does 101 = .ok (.iload 4, 2) := by decide +kernel
theorem dX5_does_103 : decode cX5_does 103 = .ok (.iconst 1, 1) := by decide +kernel
theorem dX5_does_104 : decode cX5_does 104 = .ok (.iadd, 1) := by decide +kernel
theorem dX5_does_105 : decode cX5_does 105 = .ok (.invokestatic 148, 3) := by decide +kernel
theorem dX5_does_108 : decode cX5_does 108 = .ok (.lstore 9, 2) := by decide +kernel
theorem dX5_does_110 : decode cX5_does 110 = .ok (.aload_n 0, 1) := by decide +kernel
theorem dX5_does_111 : decode cX5_does 111 = .ok (.getfield 13, 3) := by decide +kernel
theorem dX5_does_114 : decode cX5_does 114 = .ok (.iload 6, 2) := by decide +kernel
theorem dX5_does_116 : decode cX5_does 116 = .ok (.iaload, 1) := by decide +kernel
theorem dX5_does_117 : decode cX5_does 117 = .ok (.tableswitch 191 4 8 #[35, 53, 67, 80, 107], 35) := by decide +kernel
theorem dX5_does_152 : decode cX5_does 152 = .ok (.aload_n 0, 1) := by decide +kernel
theorem dX5_does_153 : decode cX5_does 153 = .ok (.lload_n 1, 1) := by decide +kernel
theorem dX5_does_154 : decode cX5_does 154 = .ok (.iload_n 3, 1) := by decide +kernel
theorem dX5_does_155 : decode cX5_does 155 = .ok (.invokevirtual 152, 3) := by decide +kernel
theorem dX5_does_158 : decode cX5_does 158 = .ok (.ifCond .eq 9, 3) := by decide +kernel
theorem dX5_does_161 : decode cX5_does 161 = .ok (.ldc2_w 132, 3) := by decide +kernel
theorem dX5_does_164 : decode cX5_does 164 = .ok (.goto 5, 3) := by decide +kernel
theorem dX5_does_167 : decode cX5_does 167 = .ok (.lload 9, 2) := by decide +kernel
theorem dX5_does_169 : decode cX5_does 169 = .ok (.lreturn, 1) := by decide +kernel
theorem dX5_does_170 : decode cX5_does 170 = .ok (.iload 5, 2) := by decide +kernel
theorem dX5_does_172 : decode cX5_does 172 = .ok (.ifCond .le 9, 3) := by decide +kernel
theorem dX5_does_175 : decode cX5_does 175 = .ok (.ldc2_w 132, 3) := by decide +kernel
theorem dX5_does_178 : decode cX5_does 178 = .ok (.goto 5, 3) := by decide +kernel
theorem dX5_does_181 : decode cX5_does 181 = .ok (.lload 9, 2) := by decide +kernel
theorem dX5_does_183 : decode cX5_does 183 = .ok (.lreturn, 1) := by decide +kernel
theorem dX5_does_184 : decode cX5_does 184 = .ok (.lload 9, 2) := by decide +kernel
theorem dX5_does_186 : decode cX5_does 186 = .ok (.iconst 2, 1) := by decide +kernel
theorem dX5_does_187 : decode cX5_does 187 = .ok (.iload 7, 2) := by decide +kernel
theorem dX5_does_189 : decode cX5_does 189 = .ok (.imul, 1) := by decide +kernel
theorem dX5_does_190 : decode cX5_does 190 = .ok (.iconst 2, 1) := by decide +kernel
theorem dX5_does_191 : decode cX5_does 191 = .ok (.iload 8, 2) := by decide +kernel
theorem dX5_does_193 : decode cX5_does 193 = .ok (.invokestatic 148, 3) := by decide +kernel
theorem dX5_does_196 : decode cX5_does 196 = .ok (.lreturn, 1) := by decide +kernel
theorem dX5_does_197 : decode cX5_does 197 = .ok (.lload 9, 2) := by decide +kernel
theorem dX5_does_199 : decode cX5_does 199 = .ok (.bipush 8, 2) := by decide +kernel
theorem dX5_does_201 : decode cX5_does 201 = .ok (.iconst 4, 1) := by decide +kernel
theorem dX5_does_202 : decode cX5_does 202 = .ok (.iload_n 3, 1) := by decide +kernel
theorem dX5_does_203 : decode cX5_does 203 = .ok (.imul, 1) := by decide +kernel
theorem dX5_does_204 : decode cX5_does 204 = .ok (.iadd, 1) := by decide +kernel
theorem dX5_does_205 : decode cX5_does 205 = .ok (.iconst 2, 1) := by decide +kernel
theorem dX5_does_206 : decode cX5_does 206 = .ok (.iload 8, 2) := by decide +kernel
theorem dX5_does_208 : decode cX5_does 208 = .ok (.imul, 1) := by decide +kernel
theorem dX5_does_209 : decode cX5_does 209 = .ok (.iadd, 1) := by decide +kernel
theorem dX5_does_210 : decode cX5_does 210 = .ok (.iconst 2, 1) := by decide +kernel
theorem dX5_does_211 : decode cX5_does 211 = .ok (.lload_n 1, 1) := by decide +kernel
theorem dX5_does_212 : decode cX5_does 212 = .ok (.iconst 2, 1) := by decide +kernel
theorem dX5_does_213 : decode cX5_does 213 = .ok (.iload 7, 2) := by decide +kernel
theorem dX5_does_215 : decode cX5_does 215 = .ok (.imul, 1) := by decide +kernel
theorem dX5_does_216 : decode cX5_does 216 = .ok (.iconst 2, 1) := by decide +kernel
theorem dX5_does_217 : decode cX5_does 217 = .ok (.invokestatic 134, 3) := by decide +kernel
theorem dX5_does_220 : decode cX5_does 220 = .ok (.invokestatic 148, 3) := by decide +kernel
theorem dX5_does_223 : decode cX5_does 223 = .ok (.lreturn, 1) := by decide +kernel
theorem dX5_does_224 : decode cX5_does 224 = .ok (.lload_n 1, 1) := by decide +kernel
theorem dX5_does_225 : decode cX5_does 225 = .ok (.bipush 8, 2) := by decide +kernel
theorem dX5_does_227 : decode cX5_does 227 = .ok (.iconst 4, 1) := by decide +kernel
theorem dX5_does_228 : decode cX5_does 228 = .ok (.iload_n 3, 1) := by decide +kernel
theorem dX5_does_229 : decode cX5_does 229 = .ok (.imul, 1) := by decide +kernel
theorem dX5_does_230 : decode cX5_does 230 = .ok (.iadd, 1) := by decide +kernel
theorem dX5_does_231 : decode cX5_does 231 = .ok (.iconst 2, 1) := by decide +kernel
theorem dX5_does_232 : decode cX5_does 232 = .ok (.iload 7, 2) := by decide +kernel
theorem dX5_does_234 : decode cX5_does 234 = .ok (.imul, 1) := by decide +kernel
theorem dX5_does_235 : decode cX5_does 235 = .ok (.iadd, 1) := by decide +kernel
theorem dX5_does_236 : decode cX5_does 236 = .ok (.iconst 2, 1) := by decide +kernel
theorem dX5_does_237 : decode cX5_does 237 = .ok (.invokestatic 134, 3) := by decide +kernel
theorem dX5_does_240 : decode cX5_does 240 = .ok (.iload 8, 2) := by decide +kernel
theorem dX5_does_242 : decode cX5_does 242 = .ok (.if_icmp .ne 22, 3) := by decide +kernel
theorem dX5_does_245 : decode cX5_does 245 = .ok (.iload 4, 2) := by decide +kernel
theorem dX5_does_247 : decode cX5_does 247 = .ok (.iconst 1, 1) := by decide +kernel
theorem dX5_does_248 : decode cX5_does 248 = .ok (.iadd, 1) := by decide +kernel
theorem dX5_does_249 : decode cX5_does 249 = .ok (.aload_n 0, 1) := by decide +kernel
theorem dX5_does_250 : decode cX5_does 250 = .ok (.getfield 16, 3) := by decide +kernel
theorem dX5_does_253 : decode cX5_does 253 = .ok (.iconst 4, 1) := by decide +kernel
theorem dX5_does_254 : decode cX5_does 254 = .ok (.iload 6, 2) := by decide +kernel
theorem dX5_does_256 : decode cX5_does 256 = .ok (.imul, 1) := by decide +kernel
theorem dX5_does_257 : decode cX5_does 257 = .ok (.iconst 2, 1) := by decide +kernel
theorem dX5_does_258 : decode cX5_does 258 = .ok (.iadd, 1) := by decide +kernel
theorem dX5_does_259 : decode cX5_does 259 = .ok (.iaload, 1) := by decide +kernel
theorem dX5_does_260 : decode cX5_does 260 = .ok (.iadd, 1) := by decide +kernel
theorem dX5_does_261 : decode cX5_does 261 = .ok (.goto 7, 3) := by decide +kernel
theorem dX5_does_264 : decode cX5_does 264 = .ok (.iload 4, 2) := by decide +kernel
theorem dX5_does_266 : decode cX5_does 266 = .ok (.iconst 1, 1) := by decide +kernel
theorem dX5_does_267 : decode cX5_does 267 = .ok (.iadd, 1) := by decide +kernel
theorem dX5_does_268 : decode cX5_does 268 = .ok (.istore 11, 2) := by decide +kernel
theorem dX5_does_270 : decode cX5_does 270 = .ok (.lload_n 1, 1) := by decide +kernel
theorem dX5_does_271 : decode cX5_does 271 = .ok (.bipush 16, 2) := by decide +kernel
theorem dX5_does_273 : decode cX5_does 273 = .ok (.iconst 3, 1) := by decide +kernel
theorem dX5_does_274 : decode cX5_does 274 = .ok (.iload_n 3, 1) := by decide +kernel
theorem dX5_does_275 : decode cX5_does 275 = .ok (.imul, 1) := by decide +kernel
theorem dX5_does_276 : decode cX5_does 276 = .ok (.iadd, 1) := by decide +kernel
theorem dX5_does_277 : decode cX5_does 277 = .ok (.iconst 3, 1) := by decide +kernel
theorem dX5_does_278 : decode cX5_does 278 = .ok (.iload 11, 2) := by decide +kernel
theorem dX5_does_280 : decode cX5_does 280 = .ok (.aload_n 0, 1) := by decide +kernel
theorem dX5_does_281 : decode cX5_does 281 = .ok (.getfield 7, 3) := by decide +kernel
theorem dX5_does_284 : decode cX5_does 284 = .ok (.iconst 2, 1) := by decide +kernel
theorem dX5_does_285 : decode cX5_does 285 = .ok (.iload_n 3, 1) := by decide +kernel
theorem dX5_does_286 : decode cX5_does 286 = .ok (.iadd, 1) := by decide +kernel
theorem dX5_does_287 : decode cX5_does 287 = .ok (.iaload, 1) := by decide +kernel
theorem dX5_does_288 : decode cX5_does 288 = .ok (.if_icmp .le 14, 3) := by decide +kernel
theorem dX5_does_291 : decode cX5_does 291 = .ok (.aload_n 0, 1) := by decide +kernel
theorem dX5_does_292 : decode cX5_does 292 = .ok (.getfield 7, 3) := by decide +kernel
theorem dX5_does_295 : decode cX5_does 295 = .ok (.iconst 2, 1) := by decide +kernel
theorem dX5_does_296 : decode cX5_does 296 = .ok (.iload_n 3, 1) := by decide +kernel
theorem dX5_does_297 : decode cX5_does 297 = .ok (.iadd, 1) := by decide +kernel
theorem dX5_does_298 : decode cX5_does 298 = .ok (.iaload, 1) := by decide +kernel
theorem dX5_does_299 : decode cX5_does 299 = .ok (.goto 5, 3) := by decide +kernel
theorem dX5_does_302 : decode cX5_does 302 = .ok (.iload 11, 2) := by decide +kernel
theorem dX5_does_304 : decode cX5_does 304 = .ok (.invokestatic 148, 3) := by decide +kernel
theorem dX5_does_307 : decode cX5_does 307 = .ok (.lreturn, 1) := by decide +kernel
theorem dX5_does_308 : decode cX5_does 308 = .ok (.iload 5, 2) := by decide +kernel
theorem dX5_does_310 : decode cX5_does 310 = .ok (.iconst 3, 1) := by decide +kernel
theorem dX5_does_311 : decode cX5_does 311 = .ok (.if_icmp .ne 9, 3) := by decide +kernel
theorem dX5_does_314 : decode cX5_does 314 = .ok (.ldc2_w 132, 3) := by decide +kernel
theorem dX5_does_317 : decode cX5_does 317 = .ok (.goto 37, 3) := by decide +kernel
theorem dX5_does_320 : decode cX5_does 320 = .ok (.lload 9, 2) := by decide +kernel
theorem dX5_does_322 : decode cX5_does 322 = .ok (.bipush 26, 2) := by decide +kernel
theorem dX5_does_324 : decode cX5_does 324 = .ok (.bipush 9, 2) := by decide +kernel
theorem dX5_does_326 : decode cX5_does 326 = .ok (.iload_n 3, 1) := by decide +kernel
theorem dX5_does_327 : decode cX5_does 327 = .ok (.imul, 1) := by decide +kernel
theorem dX5_does_328 : decode cX5_does 328 = .ok (.iadd, 1) := by decide +kernel
theorem dX5_does_329 : decode cX5_does 329 = .ok (.iconst 3, 1) := by decide +kernel
theorem dX5_does_330 : decode cX5_does 330 = .ok (.iload 5, 2) := by decide +kernel
theorem dX5_does_332 : decode cX5_does 332 = .ok (.imul, 1) := by decide +kernel
theorem dX5_does_333 : decode cX5_does 333 = .ok (.iadd, 1) := by decide +kernel
theorem dX5_does_334 : decode cX5_does 334 = .ok (.iconst 3, 1) := by decide +kernel
theorem dX5_does_335 : decode cX5_does 335 = .ok (.iload 4, 2) := by decide +kernel
theorem dX5_does_337 : decode cX5_does 337 = .ok (.invokestatic 148, 3) := by decide +kernel
theorem dX5_does_340 : decode cX5_does 340 = .ok (.bipush 22, 2) := by decide +kernel
theorem dX5_does_342 : decode cX5_does 342 = .ok (.iconst 2, 1) := by decide +kernel
theorem dX5_does_343 : decode cX5_does 343 = .ok (.iload_n 3, 1) := by decide +kernel
theorem dX5_does_344 : decode cX5_does 344 = .ok (.imul, 1) := by decide +kernel
theorem dX5_does_345 : decode cX5_does 345 = .ok (.iadd, 1) := by decide +kernel
theorem dX5_does_346 : decode cX5_does 346 = .ok (.iconst 2, 1) := by decide +kernel
theorem dX5_does_347 : decode cX5_does 347 = .ok (.iload 5, 2) := by decide +kernel
theorem dX5_does_349 : decode cX5_does 349 = .ok (.iconst 1, 1) := by decide +kernel
theorem dX5_does_350 : decode cX5_does 350 = .ok (.iadd, 1) := by decide +kernel
theorem dX5_does_351 : decode cX5_does 351 = .ok (.invokestatic 148, 3) := by decide +kernel
theorem dX5_does_354 : decode cX5_does 354 = .ok (.lreturn, 1) := by decide +kernel
theorem dX5_broken_0 : decode cX5_broken 0 = .ok (.lload_n 0, 1) := by decide +kernel
theorem dX5_broken_1 : decode cX5_broken 1 = .ok (.bipush 26, 2) := by decide +kernel
theorem dX5_broken_3 : decode cX5_broken 3 = .ok (.bipush 9, 2) := by decide +kernel
theorem dX5_broken_5 : decode cX5_broken 5 = .ok (.iload_n 2, 1) := by decide +kernel
theorem dX5_broken_6 : decode cX5_broken 6 = .ok (.imul, 1) := by decide +kernel
theorem dX5_broken_7 : decode cX5_broken 7 = .ok (.iadd, 1) := by decide +kernel
theorem dX5_broken_8 : decode cX5_broken 8 = .ok (.bipush 9, 2) := by decide +kernel
theorem dX5_broken_10 : decode cX5_broken 10 = .ok (.iconst 0, 1) := by decide +kernel
theorem dX5_broken_11 : decode cX5_broken 11 = .ok (.invokestatic 148, 3) := by decide +kernel
theorem dX5_broken_14 : decode cX5_broken 14 = .ok (.bipush 22, 2) := by decide +kernel
theorem dX5_broken_16 : decode cX5_broken 16 = .ok (.iconst 2, 1) := by decide +kernel
theorem dX5_broken_17 : decode cX5_broken 17 = .ok (.iload_n 2, 1) := by decide +kernel
theorem dX5_broken_18 : decode cX5_broken 18 = .ok (.imul, 1) := by decide +kernel
theorem dX5_broken_19 : decode cX5_broken 19 = .ok (.iadd, 1) := by decide +kernel
theorem dX5_broken_20 : decode cX5_broken 20 = .ok (.iconst 2, 1) := by decide +kernel
theorem dX5_broken_21 : decode cX5_broken 21 = .ok (.iconst 0, 1) := by decide +kernel
theorem dX5_broken_22 : decode cX5_broken 22 = .ok (.invokestatic 148, 3) := by decide +kernel
theorem dX5_broken_25 : decode cX5_broken 25 = .ok (.bipush 44, 2) := by decide +kernel
theorem dX5_broken_27 : decode cX5_broken 27 = .ok (.iload_n 2, 1) := by decide +kernel
theorem dX5_broken_28 : decode cX5_broken 28 = .ok (.iadd, 1) := by decide +kernel
theorem dX5_broken_29 : decode cX5_broken 29 = .ok (.iconst 1, 1) := by decide +kernel
theorem dX5_broken_30 : decode cX5_broken 30 = .ok (.iconst 1, 1) := by decide +kernel
theorem dX5_broken_31 : decode cX5_broken 31 = .ok (.invokestatic 148, 3) := by decide +kernel
theorem dX5_broken_34 : decode cX5_broken 34 = .ok (.lreturn, 1) := by decide +kernel
theorem dX5_wish_0 : decode cX5_wish 0 = .ok (.lload_n 1, 1) := by decide +kernel
theorem dX5_wish_1 : decode cX5_wish 1 = .ok (.iload_n 3, 1) := by decide +kernel
theorem dX5_wish_2 : decode cX5_wish 2 = .ok (.invokestatic 138, 3) := by decide +kernel
theorem dX5_wish_5 : decode cX5_wish 5 = .ok (.istore 5, 2) := by decide +kernel
theorem dX5_wish_7 : decode cX5_wish 7 = .ok (.iload 4, 2) := by decide +kernel
theorem dX5_wish_9 : decode cX5_wish 9 = .ok (.iload 5, 2) := by decide +kernel
theorem dX5_wish_11 : decode cX5_wish 11 = .ok (.if_icmp .lt 7, 3) := by decide +kernel
theorem dX5_wish_14 : decode cX5_wish 14 = .ok (.ldc2_w 132, 3) := by decide +kernel
theorem dX5_wish_17 : decode cX5_wish 17 = .ok (.lreturn, 1) := by decide +kernel
theorem dX5_wish_18 : decode cX5_wish 18 = .ok (.aload_n 0, 1) := by decide +kernel
theorem dX5_wish_19 : decode cX5_wish 19 = .ok (.lload_n 1, 1) := by decide +kernel
theorem dX5_wish_20 : decode cX5_wish 20 = .ok (.iload_n 3, 1) := by decide +kernel
theorem dX5_wish_21 : decode cX5_wish 21 = .ok (.iload 4, 2) := by decide +kernel
theorem dX5_wish_23 : decode cX5_wish 23 = .ok (.invokevirtual 142, 3) := by decide +kernel
theorem dX5_wish_26 : decode cX5_wish 26 = .ok (.istore 6, 2) := by decide +kernel
theorem dX5_wish_28 : decode cX5_wish 28 = .ok (.iload 4, 2) := by decide +kernel
theorem dX5_wish_30 : decode cX5_wish 30 = .ok (.ifCond .le 13, 3) := by decide +kernel
theorem dX5_wish_33 : decode cX5_wish 33 = .ok (.iload 6, 2) := by decide +kernel
theorem dX5_wish_35 : decode cX5_wish 35 = .ok (.iconst 1, 1) := by decide +kernel
theorem dX5_wish_36 : decode cX5_wish 36 = .ok (.if_icmp .ne 7, 3) := by decide +kernel
theorem dX5_wish_39 : decode cX5_wish 39 = .ok (.ldc2_w 132, 3) := by decide +kernel
theorem dX5_wish_42 : decode cX5_wish 42 = .ok (.lreturn, 1) := by decide +kernel
theorem dX5_wish_43 : decode cX5_wish 43 = .ok (.iconst 0, 1) := by decide +kernel
theorem dX5_wish_44 : decode cX5_wish 44 = .ok (.istore 7, 2) := by decide +kernel
theorem dX5_wish_46 : decode cX5_wish 46 = .ok (.iload 7, 2) := by decide +kernel
theorem dX5_wish_48 : decode cX5_wish 48 = .ok (.iload 4, 2) := by decide +kernel
theorem dX5_wish_50 : decode cX5_wish 50 = .ok (.if_icmp .ge 25, 3) := by decide +kernel
theorem dX5_wish_53 : decode cX5_wish 53 = .ok (.aload_n 0, 1) := by decide +kernel
theorem dX5_wish_54 : decode cX5_wish 54 = .ok (.lload_n 1, 1) := by decide +kernel
theorem dX5_wish_55 : decode cX5_wish 55 = .ok (.iload_n 3, 1) := by decide +kernel
theorem dX5_wish_56 : decode cX5_wish 56 = .ok (.iload 7, 2) := by decide +kernel
theorem dX5_wish_58 : decode cX5_wish 58 = .ok (.invokevirtual 142, 3) := by decide +kernel
theorem dX5_wish_61 : decode cX5_wish 61 = .ok (.iconst 1, 1) := by decide +kernel
theorem dX5_wish_62 : decode cX5_wish 62 = .ok (.if_icmp .eq 7, 3) := by decide +kernel
theorem dX5_wish_65 : decode cX5_wish 65 = .ok (.ldc2_w 132, 3) := by decide +kernel
theorem dX5_wish_68 : decode cX5_wish 68 = .ok (.lreturn, 1) := by decide +kernel
theorem dX5_wish_69 : decode cX5_wish 69 = .ok (.iinc 7 1, 3) := by decide +kernel
theorem dX5_wish_72 : decode cX5_wish 72 = .ok (.goto (-26), 3) := by decide +kernel
theorem dX5_wish_75 : decode cX5_wish 75 = .ok (.bipush 16, 2) := by decide +kernel
theorem dX5_wish_77 : decode cX5_wish 77 = .ok (.bipush 8, 2) := by decide +kernel
theorem dX5_wish_79 : decode cX5_wish 79 = .ok (.iload_n 3, 1) := by decide +kernel
theorem dX5_wish_80 : decode cX5_wish 80 = .ok (.imul, 1) := by decide +kernel
theorem dX5_wish_81 : decode cX5_wish 81 = .ok (.iadd, 1) := by decide +kernel
theorem dX5_wish_82 : decode cX5_wish 82 = .ok (.lload_n 1, 1) := by decide +kernel
theorem dX5_wish_83 : decode cX5_wish 83 = .ok (.bipush 26, 2) := by decide +kernel
theorem dX5_wish_85 : decode cX5_wish 85 = .ok (.bipush 9, 2) := by decide +kernel
theorem dX5_wish_87 : decode cX5_wish 87 = .ok (.iload_n 3, 1) := by decide +kernel
theorem dX5_wish_88 : decode cX5_wish 88 = .ok (.imul, 1) := by decide +kernel
theorem dX5_wish_89 : decode cX5_wish 89 = .ok (.iadd, 1) := by decide +kernel
theorem dX5_wish_90 : decode cX5_wish 90 = .ok (.iconst 3, 1) := by decide +kernel
theorem dX5_wish_91 : decode cX5_wish 91 = .ok (.iload 4, 2) := by decide +kernel
theorem dX5_wish_93 : decode cX5_wish 93 = .ok (.imul, 1) := by decide +kernel
theorem dX5_wish_94 : decode cX5_wish 94 = .ok (.iadd, 1) := by decide +kernel
theorem dX5_wish_95 : decode cX5_wish 95 = .ok (.iconst 3, 1) := by decide +kernel
theorem dX5_wish_96 : decode cX5_wish 96 = .ok (.invokestatic 134, 3) := by decide +kernel
theorem dX5_wish_99 : decode cX5_wish 99 = .ok (.iadd, 1) := by decide +kernel
theorem dX5_wish_100 : decode cX5_wish 100 = .ok (.istore 7, 2) := by decide +kernel
theorem dX5_wish_102 : decode cX5_wish 102 = .ok (.aload_n 0, 1) := by decide +kernel
theorem dX5_wish_103 : decode cX5_wish 103 = .ok (.getfield 16, 3) := by decide +kernel
theorem dX5_wish_106 : decode cX5_wish 106 = .ok (.iconst 4, 1) := by decide +kernel
theorem dX5_wish_107 : decode cX5_wish 107 = .ok (.iload 7, 2) := by decide +kernel
theorem dX5_wish_109 : decode cX5_wish 109 = .ok (.imul, 1) := by decide +kernel
theorem dX5_wish_110 : decode cX5_wish 110 = .ok (.iaload, 1) := by decide +kernel
theorem dX5_wish_111 : decode cX5_wish 111 = .ok (.istore 8, 2) := by decide +kernel
theorem dX5_wish_113 : decode cX5_wish 113 = .ok (.iload 6, 2) := by decide +kernel
theorem dX5_wish_115 : decode cX5_wish 115 = .ok (.iconst 1, 1) := by decide +kernel
theorem dX5_wish_116 : decode cX5_wish 116 = .ok (.if_icmp .ne 7, 3) := by decide +kernel
theorem dX5_wish_119 : decode cX5_wish 119 = .ok (.iconst 1, 1) := by decide +kernel
theorem dX5_wish_120 : decode cX5_wish 120 = .ok (.goto 13, 3) := by decide +kernel
theorem dX5_wish_123 : decode cX5_wish 123 = .ok (.iload 6, 2) := by decide +kernel
theorem dX5_wish_125 : decode cX5_wish 125 = .ok (.ifCond .ne 7, 3) := by decide +kernel
theorem dX5_wish_128 : decode cX5_wish 128 = .ok (.iconst 2, 1) := by decide +kernel
theorem dX5_wish_129 : decode cX5_wish 129 = .ok (.goto 4, 3) := by decide +kernel
theorem dX5_wish_132 : decode cX5_wish 132 = .ok (.iconst 4, 1) := by decide +kernel
theorem dX5_wish_133 : decode cX5_wish 133 = .ok (.istore 9, 2) := by decide +kernel
theorem dX5_wish_135 : decode cX5_wish 135 = .ok (.lload_n 1, 1) := by decide +kernel
theorem dX5_wish_136 : decode cX5_wish 136 = .ok (.bipush 46, 2) := by decide +kernel
theorem dX5_wish_138 : decode cX5_wish 138 = .ok (.iconst 2, 1) := by decide +kernel
theorem dX5_wish_139 : decode cX5_wish 139 = .ok (.invokestatic 134, 3) := by decide +kernel
theorem dX5_wish_142 : decode cX5_wish 142 = .ok (.iconst 2, 1) := by decide +kernel
theorem dX5_wish_143 : decode cX5_wish 143 = .ok (.iload_n 3, 1) := by decide +kernel
theorem dX5_wish_144 : decode cX5_wish 144 = .ok (.isub, 1) := by decide +kernel
theorem dX5_wish_145 : decode cX5_wish 145 = .ok (.if_icmp .eq 16, 3) := by decide +kernel
theorem dX5_wish_148 : decode cX5_wish 148 = .ok (.aload_n 0, 1) := by decide +kernel
theorem dX5_wish_149 : decode cX5_wish 149 = .ok (.getfield 22, 3) := by decide +kernel
theorem dX5_wish_152 : decode cX5_wish 152 = .ok (.iload 8, 2) := by decide +kernel
theorem dX5_wish_154 : decode cX5_wish 154 = .ok (.iaload, 1) := by decide +kernel
theorem dX5_wish_155 : decode cX5_wish 155 = .ok (.iload 9, 2) := by decide +kernel
theorem dX5_wish_157 : decode cX5_wish 157 = .ok (.iand, 1) := by decide +kernel
theorem dX5_wish_158 : decode cX5_wish 158 = .ok (.ifCond .ne 9, 3) := by decide +kernel
theorem dX5_wish_161 : decode cX5_wish 161 = .ok (.lload_n 1, 1) := by decide +kernel
theorem dX5_wish_162 : decode cX5_wish 162 = .ok (.iload_n 3, 1) := by decide +kernel
theorem dX5_wish_163 : decode cX5_wish 163 = .ok (.invokestatic 156, 3) := by decide +kernel
theorem dX5_wish_166 : decode cX5_wish 166 = .ok (.lreturn, 1) := by decide +kernel
theorem dX5_wish_167 : decode cX5_wish 167 = .ok (.lload_n 1, 1) := by decide +kernel
theorem dX5_wish_168 : decode cX5_wish 168 = .ok (.bipush 22, 2) := by decide +kernel
theorem dX5_wish_170 : decode cX5_wish 170 = .ok (.iconst 2, 1) := by decide +kernel
theorem dX5_wish_171 : decode cX5_wish 171 = .ok (.iload_n 3, 1) := by decide +kernel
theorem dX5_wish_172 : decode cX5_wish 172 = .ok (.imul, 1) := by decide +kernel
theorem dX5_wish_173 : decode cX5_wish 173 = .ok (.iadd, 1) := by decide +kernel
theorem dX5_wish_174 : decode cX5_wish 174 = .ok (.iconst 2, 1) := by decide +kernel
theorem dX5_wish_175 : decode cX5_wish 175 = .ok (.iload 5, 2) := by decide +kernel
theorem dX5_wish_177 : decode cX5_wish 177 = .ok (.iconst 1, 1) := by decide +kernel
theorem dX5_wish_178 : decode cX5_wish 178 = .ok (.isub, 1) := by decide +kernel
theorem dX5_wish_179 : decode cX5_wish 179 = .ok (.invokestatic 148, 3) := by decide +kernel
theorem dX5_wish_182 : decode cX5_wish 182 = .ok (.lstore 10, 2) := by decide +kernel
theorem dX5_wish_184 : decode cX5_wish 184 = .ok (.iload 4, 2) := by decide +kernel
theorem dX5_wish_186 : decode cX5_wish 186 = .ok (.istore 12, 2) := by decide +kernel
theorem dX5_wish_188 : decode cX5_wish 188 = .ok (.iload 12, 2) := by decide +kernel
theorem dX5_wish_190 : decode cX5_wish 190 = .ok (.iconst 3, 1) := by decide +kernel
theorem dX5_wish_191 : decode cX5_wish 191 = .ok (.if_icmp .ge 58, 3) := by decide +kernel
theorem dX5_wish_194 : decode cX5_wish 194 = .ok (.lload 10, 2) := by decide +kernel
theorem dX5_wish_196 : decode cX5_wish 196 = .ok (.bipush 26, 2) := by decide +kernel
theorem dX5_wish_198 : decode cX5_wish 198 = .ok (.bipush 9, 2) := by decide +kernel
theorem dX5_wish_200 : decode cX5_wish 200 = .ok (.iload_n 3, 1) := by decide +kernel
theorem dX5_wish_201 : decode cX5_wish 201 = .ok (.imul, 1) := by decide +kernel
theorem dX5_wish_202 : decode cX5_wish 202 = .ok (.iadd, 1) := by decide +kernel
theorem dX5_wish_203 : decode cX5_wish 203 = .ok (.iconst 3, 1) := by decide +kernel
theorem dX5_wish_204 : decode cX5_wish 204 = .ok (.iload 12, 2) := by decide +kernel
theorem dX5_wish_206 : decode cX5_wish 206 = .ok (.imul, 1) := by decide +kernel
theorem dX5_wish_207 : decode cX5_wish 207 = .ok (.iadd, 1) := by decide +kernel
theorem dX5_wish_208 : decode cX5_wish 208 = .ok (.iconst 3, 1) := by decide +kernel
theorem dX5_wish_209 : decode cX5_wish 209 = .ok (.iload 12, 2) := by decide +kernel
theorem dX5_wish_211 : decode cX5_wish 211 = .ok (.iconst 2, 1) := by decide +kernel
theorem dX5_wish_212 : decode cX5_wish 212 = .ok (.if_icmp .ge 25, 3) := by decide +kernel
theorem dX5_wish_215 : decode cX5_wish 215 = .ok (.lload_n 1, 1) := by decide +kernel
theorem dX5_wish_216 : decode cX5_wish 216 = .ok (.bipush 26, 2) := by decide +kernel
theorem dX5_wish_218 : decode cX5_wish 218 = .ok (.bipush 9, 2) := by decide +kernel
theorem dX5_wish_220 : decode cX5_wish 220 = .ok (.iload_n 3, 1) := by decide +kernel
theorem dX5_wish_221 : decode cX5_wish 221 = .ok (.imul, 1) := by decide +kernel
theorem dX5_wish_222 : decode cX5_wish 222 = .ok (.iadd, 1) := by decide +kernel
theorem dX5_wish_223 : decode cX5_wish 223 = .ok (.iconst 3, 1) := by decide +kernel
theorem dX5_wish_224 : decode cX5_wish 224 = .ok (.iload 12, 2) := by decide +kernel
theorem dX5_wish_226 : decode cX5_wish 226 = .ok (.imul, 1) := by decide +kernel
theorem dX5_wish_227 : decode cX5_wish 227 = .ok (.iadd, 1) := by decide +kernel
theorem dX5_wish_228 : decode cX5_wish 228 = .ok (.iconst 3, 1) := by decide +kernel
theorem dX5_wish_229 : decode cX5_wish 229 = .ok (.iadd, 1) := by decide +kernel
theorem dX5_wish_230 : decode cX5_wish 230 = .ok (.iconst 3, 1) := by decide +kernel
theorem dX5_wish_231 : decode cX5_wish 231 = .ok (.invokestatic 134, 3) := by decide +kernel
theorem dX5_wish_234 : decode cX5_wish 234 = .ok (.goto 4, 3) := by decide +kernel
theorem dX5_wish_237 : decode cX5_wish 237 = .ok (.iconst 0, 1) := by decide +kernel
theorem dX5_wish_238 : decode cX5_wish 238 = .ok (.invokestatic 148, 3) := by decide +kernel
theorem dX5_wish_241 : decode cX5_wish 241 = .ok (.lstore 10, 2) := by decide +kernel
theorem dX5_wish_243 : decode cX5_wish 243 = .ok (.iinc 12 1, 3) := by decide +kernel
theorem dX5_wish_246 : decode cX5_wish 246 = .ok (.goto (-58), 3) := by decide +kernel
theorem dX5_wish_249 : decode cX5_wish 249 = .ok (.aload_n 0, 1) := by decide +kernel
theorem dX5_wish_250 : decode cX5_wish 250 = .ok (.lload 10, 2) := by decide +kernel
theorem dX5_wish_252 : decode cX5_wish 252 = .ok (.iload_n 3, 1) := by decide +kernel
theorem dX5_wish_253 : decode cX5_wish 253 = .ok (.iload 6, 2) := by decide +kernel
theorem dX5_wish_255 : decode cX5_wish 255 = .ok (.iload 7, 2) := by decide +kernel
theorem dX5_wish_257 : decode cX5_wish 257 = .ok (.invokevirtual 160, 3) := by decide +kernel
theorem dX5_wish_260 : decode cX5_wish 260 = .ok (.lreturn, 1) := by decide +kernel
theorem dX5_act_0 : decode cX5_act 0 = .ok (.aload_n 0, 1) := by decide +kernel
theorem dX5_act_1 : decode cX5_act 1 = .ok (.getfield 16, 3) := by decide +kernel
theorem dX5_act_4 : decode cX5_act 4 = .ok (.iconst 4, 1) := by decide +kernel
theorem dX5_act_5 : decode cX5_act 5 = .ok (.iload 5, 2) := by decide +kernel
theorem dX5_act_7 : decode cX5_act 7 = .ok (.imul, 1) := by decide +kernel
theorem dX5_act_8 : decode cX5_act 8 = .ok (.iaload, 1) := by decide +kernel
theorem dX5_act_9 : decode cX5_act 9 = .ok (.istore 6, 2) := by decide +kernel
theorem dX5_act_11 : decode cX5_act 11 = .ok (.aload_n 0, 1) := by decide +kernel
theorem dX5_act_12 : decode cX5_act 12 = .ok (.getfield 16, 3) := by decide +kernel
theorem dX5_act_15 : decode cX5_act 15 = .ok (.iconst 4, 1) := by decide +kernel
theorem dX5_act_16 : decode cX5_act 16 = .ok (.iload 5, 2) := by decide +kernel
theorem dX5_act_18 : decode cX5_act 18 = .ok (.imul, 1) := by decide +kernel
theorem dX5_act_19 : decode cX5_act 19 = .ok (.iconst 1, 1) := by decide +kernel
theorem dX5_act_20 : decode cX5_act 20 = .ok (.iadd, 1) := by decide +kernel
theorem dX5_act_21 : decode cX5_act 21 = .ok (.iaload, 1) := by decide +kernel
theorem dX5_act_22 : decode cX5_act 22 = .ok (.istore 7, 2) := by decide +kernel
theorem dX5_act_24 : decode cX5_act 24 = .ok (.aload_n 0, 1) := by decide +kernel
theorem dX5_act_25 : decode cX5_act 25 = .ok (.getfield 16, 3) := by decide +kernel
theorem dX5_act_28 : decode cX5_act 28 = .ok (.iconst 4, 1) := by decide +kernel
theorem dX5_act_29 : decode cX5_act 29 = .ok (.iload 5, 2) := by decide +kernel
theorem dX5_act_31 : decode cX5_act 31 = .ok (.imul, 1) := by decide +kernel
theorem dX5_act_32 : decode cX5_act 32 = .ok (.iconst 2, 1) := by decide +kernel
theorem dX5_act_33 : decode cX5_act 33 = .ok (.iadd, 1) := by decide +kernel
theorem dX5_act_34 : decode cX5_act 34 = .ok (.iaload, 1) := by decide +kernel
theorem dX5_act_35 : decode cX5_act 35 = .ok (.istore 8, 2) := by decide +kernel
theorem dX5_act_37 : decode cX5_act 37 = .ok (.lload_n 1, 1) := by decide +kernel
theorem dX5_act_38 : decode cX5_act 38 = .ok (.iconst 2, 1) := by decide +kernel
theorem dX5_act_39 : decode cX5_act 39 = .ok (.iload 6, 2) := by decide +kernel
theorem dX5_act_41 : decode cX5_act 41 = .ok (.imul, 1) := by decide +kernel
theorem dX5_act_42 : decode cX5_act 42 = .ok (.iconst 2, 1) := by decide +kernel
theorem dX5_act_43 : decode cX5_act 43 = .ok (.invokestatic 134, 3) := by decide +kernel
theorem dX5_act_46 : decode cX5_act 46 = .ok (.istore 9, 2) := by decide +kernel
theorem dX5_act_48 : decode cX5_act 48 = .ok (.iload 4, 2) := by decide +kernel
theorem dX5_act_50 : decode cX5_act 50 = .ok (.ifCond .ne 15, 3) := by decide +kernel
theorem dX5_act_53 : decode cX5_act 53 = .ok (.lload_n 1, 1) := by decide +kernel
theorem dX5_act_54 : decode cX5_act 54 = .ok (.iconst 2, 1) := by decide +kernel
theorem dX5_act_55 : decode cX5_act 55 = .ok (.iload 6, 2) := by decide +kernel
theorem dX5_act_57 : decode cX5_act 57 = .ok (.imul, 1) := by decide +kernel
theorem dX5_act_58 : decode cX5_act 58 = .ok (.iconst 2, 1) := by decide +kernel
theorem dX5_act_59 : decode cX5_act 59 = .ok (.iload 7, 2) := by decide +kernel
theorem dX5_act_61 : decode cX5_act 61 = .ok (.invokestatic 148, 3) := by decide +kernel
theorem dX5_act_64 : decode cX5_act 64 = .ok (.lreturn, 1) := by decide +kernel
theorem dX5_act_65 : decode cX5_act 65 = .ok (.iload 4, 2) := by decide +kernel
theorem dX5_act_67 : decode cX5_act 67 = .ok (.iconst 1, 1) := by decide +kernel
theorem dX5_act_68 : decode cX5_act 68 = .ok (.if_icmp .ne 8, 3) := by decide +kernel
theorem dX5_act_71 : decode cX5_act 71 = .ok (.iload 7, 2) := by decide +kernel
theorem dX5_act_73 : decode cX5_act 73 = .ok (.goto 25, 3) := by decide +kernel
theorem dX5_act_76 : decode cX5_act 76 = .ok (.iload 4, 2) := by decide +kernel
theorem dX5_act_78 : decode cX5_act 78 = .ok (.iconst 3, 1) := by decide +kernel
theorem dX5_act_79 : decode cX5_act 79 = .ok (.if_icmp .ne 8, 3) := by decide +kernel
theorem dX5_act_82 : decode cX5_act 82 = .ok (.iload 8, 2) := by decide +kernel
theorem dX5_act_84 : decode cX5_act 84 = .ok (.goto 14, 3) := by decide +kernel
theorem dX5_act_87 : decode cX5_act 87 = .ok (.aload_n 0, 1) := by decide +kernel
theorem dX5_act_88 : decode cX5_act 88 = .ok (.getfield 16, 3) := by decide +kernel
theorem dX5_act_91 : decode cX5_act 91 = .ok (.iconst 4, 1) := by decide +kernel
theorem dX5_act_92 : decode cX5_act 92 = .ok (.iload 5, 2) := by decide +kernel
theorem dX5_act_94 : decode cX5_act 94 = .ok (.imul, 1) := by decide +kernel
theorem dX5_act_95 : decode cX5_act 95 = .ok (.iconst 3, 1) := by decide +kernel
theorem dX5_act_96 : decode cX5_act 96 = .ok (.iadd, 1) := by decide +kernel
theorem dX5_act_97 : decode cX5_act 97 = .ok (.iaload, 1) := by decide +kernel
theorem dX5_act_98 : decode cX5_act 98 = .ok (.istore 10, 2) := by decide +kernel
theorem dX5_act_100 : decode cX5_act 100 = .ok (.lload_n 1, 1) := by decide +kernel
theorem dX5_act_101 : decode cX5_act 101 = .ok (.bipush 8, 2) := by decide +kernel
theorem dX5_act_103 : decode cX5_act 103 = .ok (.iconst 4, 1) := by decide +kernel
theorem dX5_act_104 : decode cX5_act 104 = .ok (.iload_n 3, 1) := by decide +kernel
theorem dX5_act_105 : decode cX5_act 105 = .ok (.imul, 1) := by decide +kernel
theorem dX5_act_106 : decode cX5_act 106 = .ok (.iadd, 1) := by decide +kernel
theorem dX5_act_107 : decode cX5_act 107 = .ok (.iconst 2, 1) := by decide +kernel
theorem dX5_act_108 : decode cX5_act 108 = .ok (.iload 10, 2) := by decide +kernel
theorem dX5_act_110 : decode cX5_act 110 = .ok (.imul, 1) := by decide +kernel
theorem dX5_act_111 : decode cX5_act 111 = .ok (.iadd, 1) := by decide +kernel
theorem dX5_act_112 : decode cX5_act 112 = .ok (.iconst 2, 1) := by decide +kernel
theorem dX5_act_113 : decode cX5_act 113 = .ok (.iload 9, 2) := by decide +kernel
theorem dX5_act_115 : decode cX5_act 115 = .ok (.invokestatic 148, 3) := by decide +kernel
theorem dX5_act_118 : decode cX5_act 118 = .ok (.lstore 11, 2) := by decide +kernel
theorem dX5_act_120 : decode cX5_act 120 = .ok (.iload 4, 2) := by decide +kernel
theorem dX5_act_122 : decode cX5_act 122 = .ok (.iconst 1, 1) := by decide +kernel
theorem dX5_act_123 : decode cX5_act 123 = .ok (.if_icmp .ne 6, 3) := by decide +kernel
theorem dX5_act_126 : decode cX5_act 126 = .ok (.lload 11, 2) := by decide +kernel
theorem dX5_act_128 : decode cX5_act 128 = .ok (.lreturn, 1) := by decide +kernel
theorem dX5_act_129 : decode cX5_act 129 = .ok (.iload 4, 2) := by decide +kernel
theorem dX5_act_131 : decode cX5_act 131 = .ok (.iconst 3, 1) := by decide +kernel
theorem dX5_act_132 : decode cX5_act 132 = .ok (.if_icmp .ne 21, 3) := by decide +kernel
theorem dX5_act_135 : decode cX5_act 135 = .ok (.lload 11, 2) := by decide +kernel
theorem dX5_act_137 : decode cX5_act 137 = .ok (.iconst 2, 1) := by decide +kernel
theorem dX5_act_138 : decode cX5_act 138 = .ok (.iload 6, 2) := by decide +kernel
theorem dX5_act_140 : decode cX5_act 140 = .ok (.imul, 1) := by decide +kernel
theorem dX5_act_141 : decode cX5_act 141 = .ok (.iconst 2, 1) := by decide +kernel
theorem dX5_act_142 : decode cX5_act 142 = .ok (.iload 9, 2) := by decide +kernel
theorem dX5_act_144 : decode cX5_act 144 = .ok (.iload 7, 2) := by decide +kernel
theorem dX5_act_146 : decode cX5_act 146 = .ok (.iadd, 1) := by decide +kernel
theorem dX5_act_147 : decode cX5_act 147 = .ok (.iconst 4, 1) := by decide +kernel
theorem dX5_act_148 : decode cX5_act 148 = .ok (.irem, 1) := by decide +kernel
theorem dX5_act_149 : decode cX5_act 149 = .ok (.invokestatic 148, 3) := by decide +kernel
theorem dX5_act_152 : decode cX5_act 152 = .ok (.lreturn, 1) := by decide +kernel
theorem dX5_act_153 : decode cX5_act 153 = .ok (.iload 9, 2) := by decide +kernel
theorem dX5_act_155 : decode cX5_act 155 = .ok (.iload 7, 2) := by decide +kernel
theorem dX5_act_157 : decode cX5_act 157 = .ok (.if_icmp .ne 18, 3) := by decide +kernel
theorem dX5_act_160 : decode cX5_act 160 = .ok (.lload 11, 2) := by decide +kernel
theorem dX5_act_162 : decode cX5_act 162 = .ok (.iconst 2, 1) := by decide +kernel
theorem dX5_act_163 : decode cX5_act 163 = .ok (.iload 6, 2) := by decide +kernel
theorem dX5_act_165 : decode cX5_act 165 = .ok (.imul, 1) := by decide +kernel
theorem dX5_act_166 : decode cX5_act 166 = .ok (.iconst 2, 1) := by decide +kernel
theorem dX5_act_167 : decode cX5_act 167 = .ok (.iload 8, 2) := by decide +kernel
theorem dX5_act_169 : decode cX5_act 169 = .ok (.invokestatic 148, 3) := by decide +kernel
theorem dX5_act_172 : decode cX5_act 172 = .ok (.goto 5, 3) := by decide +kernel
theorem dX5_act_175 : decode cX5_act 175 = .ok (.lload 11, 2) := by decide +kernel
theorem dX5_act_177 : decode cX5_act 177 = .ok (.lreturn, 1) := by decide +kernel
theorem dX5_stepOf_0 : decode cX5_stepOf 0 = .ok (.iload_n 3, 1) := by decide +kernel
theorem dX5_stepOf_1 : decode cX5_stepOf 1 = .ok (.iconst 2, 1) := by decide +kernel
theorem dX5_stepOf_2 : decode cX5_stepOf 2 = .ok (.if_icmp .ge 10, 3) := by decide +kernel
theorem dX5_stepOf_5 : decode cX5_stepOf 5 = .ok (.aload_n 0, 1) := by decide +kernel
theorem dX5_stepOf_6 : decode cX5_stepOf 6 = .ok (.lload_n 1, 1) := by decide +kernel
theorem dX5_stepOf_7 : decode cX5_stepOf 7 = .ok (.iload_n 3, 1) := by decide +kernel
theorem dX5_stepOf_8 : decode cX5_stepOf 8 = .ok (.invokevirtual 163, 3) := by decide +kernel
theorem dX5_stepOf_11 : decode cX5_stepOf 11 = .ok (.lreturn, 1) := by decide +kernel
theorem dX5_stepOf_12 : decode cX5_stepOf 12 = .ok (.iload_n 3, 1) := by decide +kernel
theorem dX5_stepOf_13 : decode cX5_stepOf 13 = .ok (.iconst 5, 1) := by decide +kernel
theorem dX5_stepOf_14 : decode cX5_stepOf 14 = .ok (.if_icmp .ge 13, 3) := by decide +kernel
theorem dX5_stepOf_17 : decode cX5_stepOf 17 = .ok (.aload_n 0, 1) := by decide +kernel
theorem dX5_stepOf_18 : decode cX5_stepOf 18 = .ok (.lload_n 1, 1) := by decide +kernel
theorem dX5_stepOf_19 : decode cX5_stepOf 19 = .ok (.iconst 0, 1) := by decide +kernel
theorem dX5_stepOf_20 : decode cX5_stepOf 20 = .ok (.iload_n 3, 1) := by decide +kernel
theorem dX5_stepOf_21 : decode cX5_stepOf 21 = .ok (.iconst 2, 1) := by decide +kernel
theorem dX5_stepOf_22 : decode cX5_stepOf 22 = .ok (.isub, 1) := by decide +kernel
theorem dX5_stepOf_23 : decode cX5_stepOf 23 = .ok (.invokevirtual 166, 3) := by decide +kernel
theorem dX5_stepOf_26 : decode cX5_stepOf 26 = .ok (.lreturn, 1) := by decide +kernel
theorem dX5_stepOf_27 : decode cX5_stepOf 27 = .ok (.iload_n 3, 1) := by decide +kernel
theorem dX5_stepOf_28 : decode cX5_stepOf 28 = .ok (.bipush 8, 2) := by decide +kernel
theorem dX5_stepOf_30 : decode cX5_stepOf 30 = .ok (.if_icmp .ge 13, 3) := by decide +kernel
theorem dX5_stepOf_33 : decode cX5_stepOf 33 = .ok (.aload_n 0, 1) := by decide +kernel
theorem dX5_stepOf_34 : decode cX5_stepOf 34 = .ok (.lload_n 1, 1) := by decide +kernel
theorem dX5_stepOf_35 : decode cX5_stepOf 35 = .ok (.iconst 1, 1) := by decide +kernel
theorem dX5_stepOf_36 : decode cX5_stepOf 36 = .ok (.iload_n 3, 1) := by decide +kernel
theorem dX5_stepOf_37 : decode cX5_stepOf 37 = .ok (.iconst 5, 1) := by decide +kernel
theorem dX5_stepOf_38 : decode cX5_stepOf 38 = .ok (.isub, 1) := by decide +kernel
theorem dX5_stepOf_39 : decode cX5_stepOf 39 = .ok (.invokevirtual 166, 3) := by decide +kernel
theorem dX5_stepOf_42 : decode cX5_stepOf 42 = .ok (.lreturn, 1) := by decide +kernel
theorem dX5_stepOf_43 : decode cX5_stepOf 43 = .ok (.aload_n 0, 1) := by decide +kernel
theorem dX5_stepOf_44 : decode cX5_stepOf 44 = .ok (.getfield 129, 3) := by decide +kernel
theorem dX5_stepOf_47 : decode cX5_stepOf 47 = .ok (.ifCond .eq 27, 3) := by decide +kernel
theorem dX5_stepOf_50 : decode cX5_stepOf 50 = .ok (.lload_n 1, 1) := by decide +kernel
theorem dX5_stepOf_51 : decode cX5_stepOf 51 = .ok (.bipush 46, 2) := by decide +kernel
theorem dX5_stepOf_53 : decode cX5_stepOf 53 = .ok (.iconst 2, 1) := by decide +kernel
theorem dX5_stepOf_54 : decode cX5_stepOf 54 = .ok (.invokestatic 134, 3) := by decide +kernel
theorem dX5_stepOf_57 : decode cX5_stepOf 57 = .ok (.ifCond .ne 17, 3) := by decide +kernel
theorem dX5_stepOf_60 : decode cX5_stepOf 60 = .ok (.lload_n 1, 1) := by decide +kernel
theorem dX5_stepOf_61 : decode cX5_stepOf 61 = .ok (.bipush 46, 2) := by decide +kernel
theorem dX5_stepOf_63 : decode cX5_stepOf 63 = .ok (.iconst 2, 1) := by decide +kernel
theorem dX5_stepOf_64 : decode cX5_stepOf 64 = .ok (.iload_n 3, 1) := by decide +kernel
theorem dX5_stepOf_65 : decode cX5_stepOf 65 = .ok (.bipush 7, 2) := by decide +kernel
theorem dX5_stepOf_67 : decode cX5_stepOf 67 = .ok (.isub, 1) := by decide +kernel
theorem dX5_stepOf_68 : decode cX5_stepOf 68 = .ok (.invokestatic 148, 3) := by decide +kernel
theorem dX5_stepOf_71 : decode cX5_stepOf 71 = .ok (.goto 6, 3) := by decide +kernel
theorem dX5_stepOf_74 : decode cX5_stepOf 74 = .ok (.ldc2_w 132, 3) := by decide +kernel
theorem dX5_stepOf_77 : decode cX5_stepOf 77 = .ok (.lreturn, 1) := by decide +kernel
theorem dX5_placeOf_0 : decode cX5_placeOf 0 = .ok (.lload_n 0, 1) := by decide +kernel
theorem dX5_placeOf_1 : decode cX5_placeOf 1 = .ok (.ldc2_w 169, 3) := by decide +kernel
theorem dX5_placeOf_4 : decode cX5_placeOf 4 = .ok (.lmul, 1) := by decide +kernel
theorem dX5_placeOf_5 : decode cX5_placeOf 5 = .ok (.lstore_n 2, 1) := by decide +kernel
theorem dX5_placeOf_6 : decode cX5_placeOf 6 = .ok (.lload_n 2, 1) := by decide +kernel
theorem dX5_placeOf_7 : decode cX5_placeOf 7 = .ok (.bipush 20, 2) := by decide +kernel
theorem dX5_placeOf_9 : decode cX5_placeOf 9 = .ok (.lshr, 1) := by decide +kernel
theorem dX5_placeOf_10 : decode cX5_placeOf 10 = .ok (.lload_n 2, 1) := by decide +kernel
theorem dX5_placeOf_11 : decode cX5_placeOf 11 = .ok (.bipush 37, 2) := by decide +kernel
theorem dX5_placeOf_13 : decode cX5_placeOf 13 = .ok (.lshr, 1) := by decide +kernel
theorem dX5_placeOf_14 : decode cX5_placeOf 14 = .ok (.lxor, 1) := by decide +kernel
theorem dX5_placeOf_15 : decode cX5_placeOf 15 = .ok (.l2i, 1) := by decide +kernel
theorem dX5_placeOf_16 : decode cX5_placeOf 16 = .ok (.sipush 32767, 3) := by decide +kernel
theorem dX5_placeOf_19 : decode cX5_placeOf 19 = .ok (.iand, 1) := by decide +kernel
theorem dX5_placeOf_20 : decode cX5_placeOf 20 = .ok (.ireturn, 1) := by decide +kernel
theorem dX5_come_0 : decode cX5_come 0 = .ok (.lload_n 1, 1) := by decide +kernel
theorem dX5_come_1 : decode cX5_come 1 = .ok (.invokestatic 171, 3) := by decide +kernel
theorem dX5_come_4 : decode cX5_come 4 = .ok (.istore 5, 2) := by decide +kernel
theorem dX5_come_6 : decode cX5_come 6 = .ok (.aload_n 0, 1) := by decide +kernel
theorem dX5_come_7 : decode cX5_come 7 = .ok (.getfield 51, 3) := by decide +kernel
theorem dX5_come_10 : decode cX5_come 10 = .ok (.iload 5, 2) := by decide +kernel
theorem dX5_come_12 : decode cX5_come 12 = .ok (.iaload, 1) := by decide +kernel
theorem dX5_come_13 : decode cX5_come 13 = .ok (.ifCond .eq 36, 3) := by decide +kernel
theorem dX5_come_16 : decode cX5_come 16 = .ok (.aload_n 0, 1) := by decide +kernel
theorem dX5_come_17 : decode cX5_come 17 = .ok (.getfield 35, 3) := by decide +kernel
theorem dX5_come_20 : decode cX5_come 20 = .ok (.aload_n 0, 1) := by decide +kernel
theorem dX5_come_21 : decode cX5_come 21 = .ok (.getfield 51, 3) := by decide +kernel
theorem dX5_come_24 : decode cX5_come 24 = .ok (.iload 5, 2) := by decide +kernel
theorem dX5_come_26 : decode cX5_come 26 = .ok (.iaload, 1) := by decide +kernel
theorem dX5_come_27 : decode cX5_come 27 = .ok (.iconst 1, 1) := by decide +kernel
theorem dX5_come_28 : decode cX5_come 28 = .ok (.isub, 1) := by decide +kernel
theorem dX5_come_29 : decode cX5_come 29 = .ok (.laload, 1) := by decide +kernel
theorem dX5_come_30 : decode cX5_come 30 = .ok (.lload_n 1, 1) := by decide +kernel
theorem dX5_come_31 : decode cX5_come 31 = .ok (.lcmp, 1) := by decide +kernel
theorem dX5_come_32 : decode cX5_come 32 = .ok (.ifCond .ne 4, 3) := by decide +kernel
theorem dX5_come_35 : decode cX5_come 35 = .ok (.return_, 1) := by decide +kernel
theorem dX5_come_36 : decode cX5_come 36 = .ok (.iload 5, 2) := by decide +kernel
theorem dX5_come_38 : decode cX5_come 38 = .ok (.iconst 1, 1) := by decide +kernel
theorem dX5_come_39 : decode cX5_come 39 = .ok (.iadd, 1) := by decide +kernel
theorem dX5_come_40 : decode cX5_come 40 = .ok (.sipush 32767, 3) := by decide +kernel
theorem dX5_come_43 : decode cX5_come 43 = .ok (.iand, 1) := by decide +kernel
theorem dX5_come_44 : decode cX5_come 44 = .ok (.istore 5, 2) := by decide +kernel
theorem dX5_come_46 : decode cX5_come 46 = .ok (.goto (-40), 3) := by decide +kernel
theorem dX5_come_49 : decode cX5_come 49 = .ok (.aload_n 0, 1) := by decide +kernel
theorem dX5_come_50 : decode cX5_come 50 = .ok (.getfield 174, 3) := by decide +kernel
theorem dX5_come_53 : decode cX5_come 53 = .ok (.sipush 12000, 3) := by decide +kernel
theorem dX5_come_56 : decode cX5_come 56 = .ok (.if_icmp .le 4, 3) := by decide +kernel
theorem dX5_come_59 : decode cX5_come 59 = .ok (.return_, 1) := by decide +kernel
theorem dX5_come_60 : decode cX5_come 60 = .ok (.aload_n 0, 1) := by decide +kernel
theorem dX5_come_61 : decode cX5_come 61 = .ok (.getfield 35, 3) := by decide +kernel
theorem dX5_come_64 : decode cX5_come 64 = .ok (.aload_n 0, 1) := by decide +kernel
theorem dX5_come_65 : decode cX5_come 65 = .ok (.getfield 174, 3) := by decide +kernel
theorem dX5_come_68 : decode cX5_come 68 = .ok (.lload_n 1, 1) := by decide +kernel
theorem dX5_come_69 : decode cX5_come 69 = .ok (.lastore, 1) := by decide +kernel
theorem dX5_come_70 : decode cX5_come 70 = .ok (.aload_n 0, 1) := by decide +kernel
theorem dX5_come_71 : decode cX5_come 71 = .ok (.getfield 39, 3) := by decide +kernel
theorem dX5_come_74 : decode cX5_come 74 = .ok (.aload_n 0, 1) := by decide +kernel
theorem dX5_come_75 : decode cX5_come 75 = .ok (.getfield 174, 3) := by decide +kernel
theorem dX5_come_78 : decode cX5_come 78 = .ok (.iload_n 3, 1) := by decide +kernel
theorem dX5_come_79 : decode cX5_come 79 = .ok (.iastore, 1) := by decide +kernel
theorem dX5_come_80 : decode cX5_come 80 = .ok (.aload_n 0, 1) := by decide +kernel
theorem dX5_come_81 : decode cX5_come 81 = .ok (.getfield 42, 3) := by decide +kernel
theorem dX5_come_84 : decode cX5_come 84 = .ok (.aload_n 0, 1) := by decide +kernel
theorem dX5_come_85 : decode cX5_come 85 = .ok (.getfield 174, 3) := by decide +kernel
theorem dX5_come_88 : decode cX5_come 88 = .ok (.iload 4, 2) := by decide +kernel
theorem dX5_come_90 : decode cX5_come 90 = .ok (.i2b, 1) := by decide +kernel
theorem dX5_come_91 : decode cX5_come 91 = .ok (.bastore, 1) := by decide +kernel
theorem dX5_come_92 : decode cX5_come 92 = .ok (.aload_n 0, 1) := by decide +kernel
theorem dX5_come_93 : decode cX5_come 93 = .ok (.getfield 46, 3) := by decide +kernel
theorem dX5_come_96 : decode cX5_come 96 = .ok (.aload_n 0, 1) := by decide +kernel
theorem dX5_come_97 : decode cX5_come 97 = .ok (.getfield 174, 3) := by decide +kernel
theorem dX5_come_100 : decode cX5_come 100 = .ok (.iload_n 3, 1) := by decide +kernel
theorem dX5_come_101 : decode cX5_come 101 = .ok (.ifCond .ge 7, 3) := by decide +kernel
theorem dX5_come_104 : decode cX5_come 104 = .ok (.iconst 0, 1) := by decide +kernel
theorem dX5_come_105 : decode cX5_come 105 = .ok (.goto 11, 3) := by decide +kernel
theorem dX5_come_108 : decode cX5_come 108 = .ok (.aload_n 0, 1) := by decide +kernel
theorem dX5_come_109 : decode cX5_come 109 = .ok (.getfield 46, 3) := by decide +kernel
theorem dX5_come_112 : decode cX5_come 112 = .ok (.iload_n 3, 1) := by decide +kernel
theorem dX5_come_113 : decode cX5_come 113 = .ok (.saload, 1) := by decide +kernel
theorem dX5_come_114 : decode cX5_come 114 = .ok (.iconst 1, 1) := by decide +kernel
theorem dX5_come_115 : decode cX5_come 115 = .ok (.iadd, 1) := by decide +kernel
theorem dX5_come_116 : decode cX5_come 116 = .ok (.i2s, 1) := by decide +kernel
theorem dX5_come_117 : decode cX5_come 117 = .ok (.sastore, 1) := by decide +kernel
theorem dX5_come_118 : decode cX5_come 118 = .ok (.aload_n 0, 1) := by decide +kernel
theorem dX5_come_119 : decode cX5_come 119 = .ok (.dup, 1) := by decide +kernel
theorem dX5_come_120 : decode cX5_come 120 = .ok (.getfield 174, 3) := by decide +kernel
theorem dX5_come_123 : decode cX5_come 123 = .ok (.iconst 1, 1) := by decide +kernel
theorem dX5_come_124 : decode cX5_come 124 = .ok (.iadd, 1) := by decide +kernel
theorem dX5_come_125 : decode cX5_come 125 = .ok (.putfield 174, 3) := by decide +kernel
theorem dX5_come_128 : decode cX5_come 128 = .ok (.aload_n 0, 1) := by decide +kernel
theorem dX5_come_129 : decode cX5_come 129 = .ok (.getfield 51, 3) := by decide +kernel
theorem dX5_come_132 : decode cX5_come 132 = .ok (.iload 5, 2) := by decide +kernel
theorem dX5_come_134 : decode cX5_come 134 = .ok (.aload_n 0, 1) := by decide +kernel
theorem dX5_come_135 : decode cX5_come 135 = .ok (.getfield 174, 3) := by decide +kernel
theorem dX5_come_138 : decode cX5_come 138 = .ok (.iastore, 1) := by decide +kernel
theorem dX5_come_139 : decode cX5_come 139 = .ok (.return_, 1) := by decide +kernel
theorem dX5_walkOn_0 : decode cX5_walkOn 0 = .ok (.iconst 0, 1) := by decide +kernel
theorem dX5_walkOn_1 : decode cX5_walkOn 1 = .ok (.istore_n 1, 1) := by decide +kernel
theorem dX5_walkOn_2 : decode cX5_walkOn 2 = .ok (.iload_n 1, 1) := by decide +kernel
theorem dX5_walkOn_3 : decode cX5_walkOn 3 = .ok (.ldc 50, 2) := by decide +kernel
theorem dX5_walkOn_5 : decode cX5_walkOn 5 = .ok (.if_icmp .ge 16, 3) := by decide +kernel
theorem dX5_walkOn_8 : decode cX5_walkOn 8 = .ok (.aload_n 0, 1) := by decide +kernel
theorem dX5_walkOn_9 : decode cX5_walkOn 9 = .ok (.getfield 51, 3) := by decide +kernel
theorem dX5_walkOn_12 : decode cX5_walkOn 12 = .ok (.iload_n 1, 1) := by decide +kernel
theorem dX5_walkOn_13 : decode cX5_walkOn 13 = .ok (.iconst 0, 1) := by decide +kernel
theorem dX5_walkOn_14 : decode cX5_walkOn 14 = .ok (.iastore, 1) := by decide +kernel
theorem dX5_walkOn_15 : decode cX5_walkOn 15 = .ok (.iinc 1 1, 3) := by decide +kernel
theorem dX5_walkOn_18 : decode cX5_walkOn 18 = .ok (.goto (-16), 3) := by decide +kernel
theorem dX5_walkOn_21 : decode cX5_walkOn 21 = .ok (.aload_n 0, 1) := by decide +kernel
theorem dX5_walkOn_22 : decode cX5_walkOn 22 = .ok (.iconst 0, 1) := by decide +kernel
theorem dX5_walkOn_23 : decode cX5_walkOn 23 = .ok (.putfield 174, 3) := by decide +kernel
theorem dX5_walkOn_26 : decode cX5_walkOn 26 = .ok (.lconst 0, 1) := by decide +kernel
theorem dX5_walkOn_27 : decode cX5_walkOn 27 = .ok (.lstore_n 1, 1) := by decide +kernel
theorem dX5_walkOn_28 : decode cX5_walkOn 28 = .ok (.iconst 0, 1) := by decide +kernel
theorem dX5_walkOn_29 : decode cX5_walkOn 29 = .ok (.istore_n 3, 1) := by decide +kernel
theorem dX5_walkOn_30 : decode cX5_walkOn 30 = .ok (.iload_n 3, 1) := by decide +kernel
theorem dX5_walkOn_31 : decode cX5_walkOn 31 = .ok (.iconst 4, 1) := by decide +kernel
theorem dX5_walkOn_32 : decode cX5_walkOn 32 = .ok (.if_icmp .ge 24, 3) := by decide +kernel
theorem dX5_walkOn_35 : decode cX5_walkOn 35 = .ok (.lload_n 1, 1) := by decide +kernel
theorem dX5_walkOn_36 : decode cX5_walkOn 36 = .ok (.iconst 2, 1) := by decide +kernel
theorem dX5_walkOn_37 : decode cX5_walkOn 37 = .ok (.iload_n 3, 1) := by decide +kernel
theorem dX5_walkOn_38 : decode cX5_walkOn 38 = .ok (.imul, 1) := by decide +kernel
theorem dX5_walkOn_39 : decode cX5_walkOn 39 = .ok (.iconst 2, 1) := by decide +kernel
theorem dX5_walkOn_40 : decode cX5_walkOn 40 = .ok (.aload_n 0, 1) := by decide +kernel
theorem dX5_walkOn_41 : decode cX5_walkOn 41 = .ok (.getfield 19, 3) := by decide +kernel
theorem dX5_walkOn_44 : decode cX5_walkOn 44 = .ok (.iload_n 3, 1) := by decide +kernel
theorem dX5_walkOn_45 : decode cX5_walkOn 45 = .ok (.iaload, 1) := by decide +kernel
theorem dX5_walkOn_46 : decode cX5_walkOn 46 = .ok (.invokestatic 148, 3) := by decide +kernel
theorem dX5_walkOn_49 : decode cX5_walkOn 49 = .ok (.lstore_n 1, 1) := by decide +kernel
theorem dX5_walkOn_50 : decode cX5_walkOn 50 = .ok (.iinc 3 1, 3) := by decide +kernel
theorem dX5_walkOn_53 : decode cX5_walkOn 53 = .ok (.goto (-23), 3) := by decide +kernel
theorem dX5_walkOn_56 : decode cX5_walkOn 56 = .ok (.aload_n 0, 1) := by decide +kernel
theorem dX5_walkOn_57 : decode cX5_walkOn 57 = .ok (.lload_n 1, 1) := by decide +kernel
theorem dX5_walkOn_58 : decode cX5_walkOn 58 = .ok (.iconst (-1), 1) := by decide +kernel
theorem dX5_walkOn_59 : decode cX5_walkOn 59 = .ok (.iconst 0, 1) := by decide +kernel
theorem dX5_walkOn_60 : decode cX5_walkOn 60 = .ok (.invokevirtual 177, 3) := by decide +kernel
theorem dX5_walkOn_63 : decode cX5_walkOn 63 = .ok (.iconst 0, 1) := by decide +kernel
theorem dX5_walkOn_64 : decode cX5_walkOn 64 = .ok (.istore_n 3, 1) := by decide +kernel
theorem dX5_walkOn_65 : decode cX5_walkOn 65 = .ok (.iload_n 3, 1) := by decide +kernel
theorem dX5_walkOn_66 : decode cX5_walkOn 66 = .ok (.aload_n 0, 1) := by decide +kernel
theorem dX5_walkOn_67 : decode cX5_walkOn 67 = .ok (.getfield 174, 3) := by decide +kernel
theorem dX5_walkOn_70 : decode cX5_walkOn 70 = .ok (.if_icmp .ge 65, 3) := by decide +kernel
theorem dX5_walkOn_73 : decode cX5_walkOn 73 = .ok (.aload_n 0, 1) := by decide +kernel
theorem dX5_walkOn_74 : decode cX5_walkOn 74 = .ok (.getfield 174, 3) := by decide +kernel
theorem dX5_walkOn_77 : decode cX5_walkOn 77 = .ok (.sipush 12000, 3) := by decide +kernel
theorem dX5_walkOn_80 : decode cX5_walkOn 80 = .ok (.if_icmp .gt 55, 3) := by decide +kernel
theorem dX5_walkOn_83 : decode cX5_walkOn 83 = .ok (.iconst 0, 1) := by decide +kernel
theorem dX5_walkOn_84 : decode cX5_walkOn 84 = .ok (.istore 4, 2) := by decide +kernel
theorem dX5_walkOn_86 : decode cX5_walkOn 86 = .ok (.iload 4, 2) := by decide +kernel
theorem dX5_walkOn_88 : decode cX5_walkOn 88 = .ok (.bipush 10, 2) := by decide +kernel
theorem dX5_walkOn_90 : decode cX5_walkOn 90 = .ok (.if_icmp .ge 39, 3) := by decide +kernel
theorem dX5_walkOn_93 : decode cX5_walkOn 93 = .ok (.aload_n 0, 1) := by decide +kernel
theorem dX5_walkOn_94 : decode cX5_walkOn 94 = .ok (.aload_n 0, 1) := by decide +kernel
theorem dX5_walkOn_95 : decode cX5_walkOn 95 = .ok (.getfield 35, 3) := by decide +kernel
theorem dX5_walkOn_98 : decode cX5_walkOn 98 = .ok (.iload_n 3, 1) := by decide +kernel
theorem dX5_walkOn_99 : decode cX5_walkOn 99 = .ok (.laload, 1) := by decide +kernel
theorem dX5_walkOn_100 : decode cX5_walkOn 100 = .ok (.iload 4, 2) := by decide +kernel
theorem dX5_walkOn_102 : decode cX5_walkOn 102 = .ok (.invokevirtual 181, 3) := by decide +kernel
theorem dX5_walkOn_105 : decode cX5_walkOn 105 = .ok (.lstore 5, 2) := by decide +kernel
theorem dX5_walkOn_107 : decode cX5_walkOn 107 = .ok (.lload 5, 2) := by decide +kernel
theorem dX5_walkOn_109 : decode cX5_walkOn 109 = .ok (.lconst 0, 1) := by decide +kernel
theorem dX5_walkOn_110 : decode cX5_walkOn 110 = .ok (.lcmp, 1) := by decide +kernel
theorem dX5_walkOn_111 : decode cX5_walkOn 111 = .ok (.ifCond .lt 12, 3) := by decide +kernel
theorem dX5_walkOn_114 : decode cX5_walkOn 114 = .ok (.aload_n 0, 1) := by decide +kernel
theorem dX5_walkOn_115 : decode cX5_walkOn 115 = .ok (.lload 5, 2) := by decide +kernel
theorem dX5_walkOn_117 : decode cX5_walkOn 117 = .ok (.iload_n 3, 1) := by decide +kernel
theorem dX5_walkOn_118 : decode cX5_walkOn 118 = .ok (.iload 4, 2) := by decide +kernel
theorem dX5_walkOn_120 : decode cX5_walkOn 120 = .ok (.invokevirtual 177, 3) := by decide +kernel
theorem dX5_walkOn_123 : decode cX5_walkOn 123 = .ok (.iinc 4 1, 3) := by decide +kernel
theorem dX5_walkOn_126 : decode cX5_walkOn 126 = .ok (.goto (-40), 3) := by decide +kernel
theorem dX5_walkOn_129 : decode cX5_walkOn 129 = .ok (.iinc 3 1, 3) := by decide +kernel
theorem dX5_walkOn_132 : decode cX5_walkOn 132 = .ok (.goto (-67), 3) := by decide +kernel
theorem dX5_walkOn_135 : decode cX5_walkOn 135 = .ok (.return_, 1) := by decide +kernel
theorem dX5_lay_0 : decode cX5_lay 0 = .ok (.iconst 0, 1) := by decide +kernel
theorem dX5_lay_1 : decode cX5_lay 1 = .ok (.istore_n 2, 1) := by decide +kernel
theorem dX5_lay_2 : decode cX5_lay 2 = .ok (.iload_n 2, 1) := by decide +kernel
theorem dX5_lay_3 : decode cX5_lay 3 = .ok (.iconst 2, 1) := by decide +kernel
theorem dX5_lay_4 : decode cX5_lay 4 = .ok (.if_icmp .ge 169, 3) := by decide +kernel
theorem dX5_lay_7 : decode cX5_lay 7 = .ok (.iconst 0, 1) := by decide +kernel
theorem dX5_lay_8 : decode cX5_lay 8 = .ok (.istore_n 3, 1) := by decide +kernel
theorem dX5_lay_9 : decode cX5_lay 9 = .ok (.iconst 0, 1) := by decide +kernel
theorem dX5_lay_10 : decode cX5_lay 10 = .ok (.istore 4, 2) := by decide +kernel
theorem dX5_lay_12 : decode cX5_lay 12 = .ok (.iload 4, 2) := by decide +kernel
theorem dX5_lay_14 : decode cX5_lay 14 = .ok (.aload_n 0, 1) := by decide +kernel
theorem dX5_lay_15 : decode cX5_lay 15 = .ok (.getfield 7, 3) := by decide +kernel
theorem dX5_lay_18 : decode cX5_lay 18 = .ok (.iload_n 2, 1) := by decide +kernel
theorem dX5_lay_19 : decode cX5_lay 19 = .ok (.iaload, 1) := by decide +kernel
theorem dX5_lay_20 : decode cX5_lay 20 = .ok (.if_icmp .ge 138, 3) := by decide +kernel
theorem dX5_lay_23 : decode cX5_lay 23 = .ok (.iload_n 1, 1) := by decide +kernel
theorem dX5_lay_24 : decode cX5_lay 24 = .ok (.bipush 8, 2) := by decide +kernel
theorem dX5_lay_26 : decode cX5_lay 26 = .ok (.iload_n 2, 1) := by decide +kernel
theorem dX5_lay_27 : decode cX5_lay 27 = .ok (.imul, 1) := by decide +kernel
theorem dX5_lay_28 : decode cX5_lay 28 = .ok (.iload 4, 2) := by decide +kernel
theorem dX5_lay_30 : decode cX5_lay 30 = .ok (.iadd, 1) := by decide +kernel
theorem dX5_lay_31 : decode cX5_lay 31 = .ok (.if_icmp .ne 21, 3) := by decide +kernel
theorem dX5_lay_34 : decode cX5_lay 34 = .ok (.aload_n 0, 1) := by decide +kernel
theorem dX5_lay_35 : decode cX5_lay 35 = .ok (.getfield 13, 3) := by decide +kernel
theorem dX5_lay_38 : decode cX5_lay 38 = .ok (.bipush 16, 2) := by decide +kernel
theorem dX5_lay_40 : decode cX5_lay 40 = .ok (.bipush 8, 2) := by decide +kernel
theorem dX5_lay_42 : decode cX5_lay 42 = .ok (.iload_n 2, 1) := by decide +kernel
theorem dX5_lay_43 : decode cX5_lay 43 = .ok (.imul, 1) := by decide +kernel
theorem dX5_lay_44 : decode cX5_lay 44 = .ok (.iadd, 1) := by decide +kernel
theorem dX5_lay_45 : decode cX5_lay 45 = .ok (.iload_n 3, 1) := by decide +kernel
theorem dX5_lay_46 : decode cX5_lay 46 = .ok (.iadd, 1) := by decide +kernel
theorem dX5_lay_47 : decode cX5_lay 47 = .ok (.iconst 4, 1) := by decide +kernel
theorem dX5_lay_48 : decode cX5_lay 48 = .ok (.iastore, 1) := by decide +kernel
theorem dX5_lay_49 : decode cX5_lay 49 = .ok (.iinc 3 1, 3) := by decide +kernel
theorem dX5_lay_52 : decode cX5_lay 52 = .ok (.bipush 16, 2) := by decide +kernel
theorem dX5_lay_54 : decode cX5_lay 54 = .ok (.bipush 8, 2) := by decide +kernel
theorem dX5_lay_56 : decode cX5_lay 56 = .ok (.iload_n 2, 1) := by decide +kernel
theorem dX5_lay_57 : decode cX5_lay 57 = .ok (.imul, 1) := by decide +kernel
theorem dX5_lay_58 : decode cX5_lay 58 = .ok (.iadd, 1) := by decide +kernel
theorem dX5_lay_59 : decode cX5_lay 59 = .ok (.iload_n 3, 1) := by decide +kernel
theorem dX5_lay_60 : decode cX5_lay 60 = .ok (.iadd, 1) := by decide +kernel
theorem dX5_lay_61 : decode cX5_lay 61 = .ok (.istore 5, 2) := by decide +kernel
theorem dX5_lay_63 : decode cX5_lay 63 = .ok (.aload_n 0, 1) := by decide +kernel
theorem dX5_lay_64 : decode cX5_lay 64 = .ok (.bipush 8, 2) := by decide +kernel
theorem dX5_lay_66 : decode cX5_lay 66 = .ok (.iload_n 2, 1) := by decide +kernel
theorem dX5_lay_67 : decode cX5_lay 67 = .ok (.imul, 1) := by decide +kernel
theorem dX5_lay_68 : decode cX5_lay 68 = .ok (.iload 4, 2) := by decide +kernel
theorem dX5_lay_70 : decode cX5_lay 70 = .ok (.iadd, 1) := by decide +kernel
theorem dX5_lay_71 : decode cX5_lay 71 = .ok (.iload 5, 2) := by decide +kernel
theorem dX5_lay_73 : decode cX5_lay 73 = .ok (.invokevirtual 121, 3) := by decide +kernel
theorem dX5_lay_76 : decode cX5_lay 76 = .ok (.aload_n 0, 1) := by decide +kernel
theorem dX5_lay_77 : decode cX5_lay 77 = .ok (.getfield 16, 3) := by decide +kernel
theorem dX5_lay_80 : decode cX5_lay 80 = .ok (.iconst 4, 1) := by decide +kernel
theorem dX5_lay_81 : decode cX5_lay 81 = .ok (.iload 5, 2) := by decide +kernel
theorem dX5_lay_83 : decode cX5_lay 83 = .ok (.imul, 1) := by decide +kernel
theorem dX5_lay_84 : decode cX5_lay 84 = .ok (.iconst 2, 1) := by decide +kernel
theorem dX5_lay_85 : decode cX5_lay 85 = .ok (.iadd, 1) := by decide +kernel
theorem dX5_lay_86 : decode cX5_lay 86 = .ok (.iaload, 1) := by decide +kernel
theorem dX5_lay_87 : decode cX5_lay 87 = .ok (.istore 6, 2) := by decide +kernel
theorem dX5_lay_89 : decode cX5_lay 89 = .ok (.aload_n 0, 1) := by decide +kernel
theorem dX5_lay_90 : decode cX5_lay 90 = .ok (.getfield 13, 3) := by decide +kernel
theorem dX5_lay_93 : decode cX5_lay 93 = .ok (.iload 5, 2) := by decide +kernel
theorem dX5_lay_95 : decode cX5_lay 95 = .ok (.iaload, 1) := by decide +kernel
theorem dX5_lay_96 : decode cX5_lay 96 = .ok (.bipush 8, 2) := by decide +kernel
theorem dX5_lay_98 : decode cX5_lay 98 = .ok (.if_icmp .ne 51, 3) := by decide +kernel
theorem dX5_lay_101 : decode cX5_lay 101 = .ok (.iload_n 1, 1) := by decide +kernel
theorem dX5_lay_102 : decode cX5_lay 102 = .ok (.bipush 8, 2) := by decide +kernel
theorem dX5_lay_104 : decode cX5_lay 104 = .ok (.iload_n 2, 1) := by decide +kernel
theorem dX5_lay_105 : decode cX5_lay 105 = .ok (.imul, 1) := by decide +kernel
theorem dX5_lay_106 : decode cX5_lay 106 = .ok (.iload 4, 2) := by decide +kernel
theorem dX5_lay_108 : decode cX5_lay 108 = .ok (.iadd, 1) := by decide +kernel
theorem dX5_lay_109 : decode cX5_lay 109 = .ok (.if_icmp .le 40, 3) := by decide +kernel
theorem dX5_lay_112 : decode cX5_lay 112 = .ok (.iload_n 1, 1) := by decide +kernel
theorem dX5_lay_113 : decode cX5_lay 113 = .ok (.bipush 8, 2) := by decide +kernel
theorem dX5_lay_115 : decode cX5_lay 115 = .ok (.iload_n 2, 1) := by decide +kernel
theorem dX5_lay_116 : decode cX5_lay 116 = .ok (.imul, 1) := by decide +kernel
theorem dX5_lay_117 : decode cX5_lay 117 = .ok (.iload 4, 2) := by decide +kernel
theorem dX5_lay_119 : decode cX5_lay 119 = .ok (.iadd, 1) := by decide +kernel
theorem dX5_lay_120 : decode cX5_lay 120 = .ok (.iload 6, 2) := by decide +kernel
theorem dX5_lay_122 : decode cX5_lay 122 = .ok (.iadd, 1) := by decide +kernel
theorem dX5_lay_123 : decode cX5_lay 123 = .ok (.if_icmp .gt 26, 3) := by decide +kernel
theorem dX5_lay_126 : decode cX5_lay 126 = .ok (.iload_n 1, 1) := by decide +kernel
theorem dX5_lay_127 : decode cX5_lay 127 = .ok (.bipush 8, 2) := by decide +kernel
theorem dX5_lay_129 : decode cX5_lay 129 = .ok (.idiv, 1) := by decide +kernel
theorem dX5_lay_130 : decode cX5_lay 130 = .ok (.iload_n 2, 1) := by decide +kernel
theorem dX5_lay_131 : decode cX5_lay 131 = .ok (.if_icmp .ne 18, 3) := by decide +kernel
theorem dX5_lay_134 : decode cX5_lay 134 = .ok (.aload_n 0, 1) := by decide +kernel
theorem dX5_lay_135 : decode cX5_lay 135 = .ok (.getfield 16, 3) := by decide +kernel
theorem dX5_lay_138 : decode cX5_lay 138 = .ok (.iconst 4, 1) := by decide +kernel
theorem dX5_lay_139 : decode cX5_lay 139 = .ok (.iload 5, 2) := by decide +kernel
theorem dX5_lay_141 : decode cX5_lay 141 = .ok (.imul, 1) := by decide +kernel
theorem dX5_lay_142 : decode cX5_lay 142 = .ok (.iconst 2, 1) := by decide +kernel
theorem dX5_lay_143 : decode cX5_lay 143 = .ok (.iadd, 1) := by decide +kernel
theorem dX5_lay_144 : decode cX5_lay 144 = .ok (.iload 6, 2) := by decide +kernel
theorem dX5_lay_146 : decode cX5_lay 146 = .ok (.iconst 1, 1) := by decide +kernel
theorem dX5_lay_147 : decode cX5_lay 147 = .ok (.iadd, 1) := by decide +kernel
theorem dX5_lay_148 : decode cX5_lay 148 = .ok (.iastore, 1) := by decide +kernel
theorem dX5_lay_149 : decode cX5_lay 149 = .ok (.iinc 3 1, 3) := by decide +kernel
theorem dX5_lay_152 : decode cX5_lay 152 = .ok (.iinc 4 1, 3) := by decide +kernel
theorem dX5_lay_155 : decode cX5_lay 155 = .ok (.goto (-143), 3) := by decide +kernel
theorem dX5_lay_158 : decode cX5_lay 158 = .ok (.aload_n 0, 1) := by decide +kernel
theorem dX5_lay_159 : decode cX5_lay 159 = .ok (.getfield 7, 3) := by decide +kernel
theorem dX5_lay_162 : decode cX5_lay 162 = .ok (.iconst 2, 1) := by decide +kernel
theorem dX5_lay_163 : decode cX5_lay 163 = .ok (.iload_n 2, 1) := by decide +kernel
theorem dX5_lay_164 : decode cX5_lay 164 = .ok (.iadd, 1) := by decide +kernel
theorem dX5_lay_165 : decode cX5_lay 165 = .ok (.iload_n 3, 1) := by decide +kernel
theorem dX5_lay_166 : decode cX5_lay 166 = .ok (.iastore, 1) := by decide +kernel
theorem dX5_lay_167 : decode cX5_lay 167 = .ok (.iinc 2 1, 3) := by decide +kernel
theorem dX5_lay_170 : decode cX5_lay 170 = .ok (.goto (-168), 3) := by decide +kernel
theorem dX5_lay_173 : decode cX5_lay 173 = .ok (.return_, 1) := by decide +kernel
theorem dX5_isWalked_0 : decode cX5_isWalked 0 = .ok (.aload_n 0, 1) := by decide +kernel
theorem dX5_isWalked_1 : decode cX5_isWalked 1 = .ok (.getfield 125, 3) := by decide +kernel
theorem dX5_isWalked_4 : decode cX5_isWalked 4 = .ok (.ifCond .ne 17, 3) := by decide +kernel
theorem dX5_isWalked_7 : decode cX5_isWalked 7 = .ok (.aload_n 0, 1) := by decide +kernel
theorem dX5_isWalked_8 : decode cX5_isWalked 8 = .ok (.iconst (-1), 1) := by decide +kernel
theorem dX5_isWalked_9 : decode cX5_isWalked 9 = .ok (.invokevirtual 184, 3) := by decide +kernel
theorem dX5_isWalked_12 : decode cX5_isWalked 12 = .ok (.aload_n 0, 1) := by decide +kernel
theorem dX5_isWalked_13 : decode cX5_isWalked 13 = .ok (.invokevirtual 187, 3) := by decide +kernel
theorem dX5_isWalked_16 : decode cX5_isWalked 16 = .ok (.aload_n 0, 1) := by decide +kernel
theorem dX5_isWalked_17 : decode cX5_isWalked 17 = .ok (.iconst 1, 1) := by decide +kernel
theorem dX5_isWalked_18 : decode cX5_isWalked 18 = .ok (.putfield 125, 3) := by decide +kernel
theorem dX5_isWalked_21 : decode cX5_isWalked 21 = .ok (.aload_n 0, 1) := by decide +kernel
theorem dX5_isWalked_22 : decode cX5_isWalked 22 = .ok (.getfield 174, 3) := by decide +kernel
theorem dX5_isWalked_25 : decode cX5_isWalked 25 = .ok (.sipush 12000, 3) := by decide +kernel
theorem dX5_isWalked_28 : decode cX5_isWalked 28 = .ok (.if_icmp .gt 7, 3) := by decide +kernel
theorem dX5_isWalked_31 : decode cX5_isWalked 31 = .ok (.iconst 1, 1) := by decide +kernel
theorem dX5_isWalked_32 : decode cX5_isWalked 32 = .ok (.goto 4, 3) := by decide +kernel
theorem dX5_isWalked_35 : decode cX5_isWalked 35 = .ok (.iconst 0, 1) := by decide +kernel
theorem dX5_isWalked_36 : decode cX5_isWalked 36 = .ok (.ireturn, 1) := by decide +kernel
theorem dX5_walk_0 : decode cX5_walk 0 = .ok (.aload_n 0, 1) := by decide +kernel
theorem dX5_walk_1 : decode cX5_walk 1 = .ok (.invokevirtual 190, 3) := by decide +kernel
theorem dX5_walk_4 : decode cX5_walk 4 = .ok (.ifCond .eq 10, 3) := by decide +kernel
theorem dX5_walk_7 : decode cX5_walk 7 = .ok (.aload_n 0, 1) := by decide +kernel
theorem dX5_walk_8 : decode cX5_walk 8 = .ok (.getfield 174, 3) := by decide +kernel
theorem dX5_walk_11 : decode cX5_walk 11 = .ok (.goto 5, 3) := by decide +kernel
theorem dX5_walk_14 : decode cX5_walk 14 = .ok (.bipush (-2), 2) := by decide +kernel
theorem dX5_walk_16 : decode cX5_walk 16 = .ok (.ireturn, 1) := by decide +kernel
theorem dX5_isEnd_0 : decode cX5_isEnd 0 = .ok (.iconst 0, 1) := by decide +kernel
theorem dX5_isEnd_1 : decode cX5_isEnd 1 = .ok (.istore_n 3, 1) := by decide +kernel
theorem dX5_isEnd_2 : decode cX5_isEnd 2 = .ok (.iload_n 3, 1) := by decide +kernel
theorem dX5_isEnd_3 : decode cX5_isEnd 3 = .ok (.bipush 8, 2) := by decide +kernel
theorem dX5_isEnd_5 : decode cX5_isEnd 5 = .ok (.if_icmp .ge 22, 3) := by decide +kernel
theorem dX5_isEnd_8 : decode cX5_isEnd 8 = .ok (.aload_n 0, 1) := by decide +kernel
theorem dX5_isEnd_9 : decode cX5_isEnd 9 = .ok (.lload_n 1, 1) := by decide +kernel
theorem dX5_isEnd_10 : decode cX5_isEnd 10 = .ok (.iload_n 3, 1) := by decide +kernel
theorem dX5_isEnd_11 : decode cX5_isEnd 11 = .ok (.invokevirtual 181, 3) := by decide +kernel
theorem dX5_isEnd_14 : decode cX5_isEnd 14 = .ok (.lconst 0, 1) := by decide +kernel
theorem dX5_isEnd_15 : decode cX5_isEnd 15 = .ok (.lcmp, 1) := by decide +kernel
theorem dX5_isEnd_16 : decode cX5_isEnd 16 = .ok (.ifCond .lt 5, 3) := by decide +kernel
theorem dX5_isEnd_19 : decode cX5_isEnd 19 = .ok (.iconst 0, 1) := by decide +kernel
theorem dX5_isEnd_20 : decode cX5_isEnd 20 = .ok (.ireturn, 1) := by decide +kernel
theorem dX5_isEnd_21 : decode cX5_isEnd 21 = .ok (.iinc 3 1, 3) := by decide +kernel
theorem dX5_isEnd_24 : decode cX5_isEnd 24 = .ok (.goto (-22), 3) := by decide +kernel
theorem dX5_isEnd_27 : decode cX5_isEnd 27 = .ok (.iconst 1, 1) := by decide +kernel
theorem dX5_isEnd_28 : decode cX5_isEnd 28 = .ok (.ireturn, 1) := by decide +kernel
theorem dX5_isGood_0 : decode cX5_isGood 0 = .ok (.lload_n 1, 1) := by decide +kernel
theorem dX5_isGood_1 : decode cX5_isGood 1 = .ok (.bipush 44, 2) := by decide +kernel
theorem dX5_isGood_3 : decode cX5_isGood 3 = .ok (.iconst 4, 1) := by decide +kernel
theorem dX5_isGood_4 : decode cX5_isGood 4 = .ok (.invokestatic 134, 3) := by decide +kernel
theorem dX5_isGood_7 : decode cX5_isGood 7 = .ok (.ifCond .ne 43, 3) := by decide +kernel
theorem dX5_isGood_10 : decode cX5_isGood 10 = .ok (.lload_n 1, 1) := by decide +kernel
theorem dX5_isGood_11 : decode cX5_isGood 11 = .ok (.iconst 0, 1) := by decide +kernel
theorem dX5_isGood_12 : decode cX5_isGood 12 = .ok (.invokestatic 145, 3) := by decide +kernel
theorem dX5_isGood_15 : decode cX5_isGood 15 = .ok (.aload_n 0, 1) := by decide +kernel
theorem dX5_isGood_16 : decode cX5_isGood 16 = .ok (.getfield 7, 3) := by decide +kernel
theorem dX5_isGood_19 : decode cX5_isGood 19 = .ok (.iconst 2, 1) := by decide +kernel
theorem dX5_isGood_20 : decode cX5_isGood 20 = .ok (.iaload, 1) := by decide +kernel
theorem dX5_isGood_21 : decode cX5_isGood 21 = .ok (.if_icmp .ne 29, 3) := by decide +kernel
theorem dX5_isGood_24 : decode cX5_isGood 24 = .ok (.lload_n 1, 1) := by decide +kernel
theorem dX5_isGood_25 : decode cX5_isGood 25 = .ok (.iconst 1, 1) := by decide +kernel
theorem dX5_isGood_26 : decode cX5_isGood 26 = .ok (.invokestatic 145, 3) := by decide +kernel
theorem dX5_isGood_29 : decode cX5_isGood 29 = .ok (.aload_n 0, 1) := by decide +kernel
theorem dX5_isGood_30 : decode cX5_isGood 30 = .ok (.getfield 7, 3) := by decide +kernel
theorem dX5_isGood_33 : decode cX5_isGood 33 = .ok (.iconst 3, 1) := by decide +kernel
theorem dX5_isGood_34 : decode cX5_isGood 34 = .ok (.iaload, 1) := by decide +kernel
theorem dX5_isGood_35 : decode cX5_isGood 35 = .ok (.if_icmp .ne 15, 3) := by decide +kernel
theorem dX5_isGood_38 : decode cX5_isGood 38 = .ok (.aload_n 0, 1) := by decide +kernel
theorem dX5_isGood_39 : decode cX5_isGood 39 = .ok (.lload_n 1, 1) := by decide +kernel
theorem dX5_isGood_40 : decode cX5_isGood 40 = .ok (.invokevirtual 194, 3) := by decide +kernel
theorem dX5_isGood_43 : decode cX5_isGood 43 = .ok (.ifCond .eq 7, 3) := by decide +kernel
theorem dX5_isGood_46 : decode cX5_isGood 46 = .ok (.iconst 1, 1) := by decide +kernel
theorem dX5_isGood_47 : decode cX5_isGood 47 = .ok (.goto 4, 3) := by decide +kernel
theorem dX5_isGood_50 : decode cX5_isGood 50 = .ok (.iconst 0, 1) := by decide +kernel
theorem dX5_isGood_51 : decode cX5_isGood 51 = .ok (.ireturn, 1) := by decide +kernel
theorem dX5_ends_0 : decode cX5_ends 0 = .ok (.iload_n 1, 1) := by decide +kernel
theorem dX5_ends_1 : decode cX5_ends 1 = .ok (.iconst 0, 1) := by decide +kernel
theorem dX5_ends_2 : decode cX5_ends 2 = .ok (.iconst 3, 1) := by decide +kernel
theorem dX5_ends_3 : decode cX5_ends 3 = .ok (.invokestatic 64, 3) := by decide +kernel
theorem dX5_ends_6 : decode cX5_ends 6 = .ok (.ifCond .ne 5, 3) := by decide +kernel
theorem dX5_ends_9 : decode cX5_ends 9 = .ok (.iconst (-1), 1) := by decide +kernel
theorem dX5_ends_10 : decode cX5_ends 10 = .ok (.ireturn, 1) := by decide +kernel
theorem dX5_ends_11 : decode cX5_ends 11 = .ok (.aload_n 0, 1) := by decide +kernel
theorem dX5_ends_12 : decode cX5_ends 12 = .ok (.invokevirtual 190, 3) := by decide +kernel
theorem dX5_ends_15 : decode cX5_ends 15 = .ok (.ifCond .ne 6, 3) := by decide +kernel
theorem dX5_ends_18 : decode cX5_ends 18 = .ok (.bipush (-2), 2) := by decide +kernel
theorem dX5_ends_20 : decode cX5_ends 20 = .ok (.ireturn, 1) := by decide +kernel
theorem dX5_ends_21 : decode cX5_ends 21 = .ok (.iload_n 1, 1) := by decide +kernel
theorem dX5_ends_22 : decode cX5_ends 22 = .ok (.iconst 3, 1) := by decide +kernel
theorem dX5_ends_23 : decode cX5_ends 23 = .ok (.if_icmp .ne 15, 3) := by decide +kernel
theorem dX5_ends_26 : decode cX5_ends 26 = .ok (.aload_n 0, 1) := by decide +kernel
theorem dX5_ends_27 : decode cX5_ends 27 = .ok (.getfield 46, 3) := by decide +kernel
theorem dX5_ends_30 : decode cX5_ends 30 = .ok (.aload_n 0, 1) := by decide +kernel
theorem dX5_ends_31 : decode cX5_ends 31 = .ok (.getfield 174, 3) := by decide +kernel
theorem dX5_ends_34 : decode cX5_ends 34 = .ok (.iconst 1, 1) := by decide +kernel
theorem dX5_ends_35 : decode cX5_ends 35 = .ok (.isub, 1) := by decide +kernel
theorem dX5_ends_36 : decode cX5_ends 36 = .ok (.saload, 1) := by decide +kernel
theorem dX5_ends_37 : decode cX5_ends 37 = .ok (.ireturn, 1) := by decide +kernel
theorem dX5_ends_38 : decode cX5_ends 38 = .ok (.iconst 0, 1) := by decide +kernel
theorem dX5_ends_39 : decode cX5_ends 39 = .ok (.istore_n 2, 1) := by decide +kernel
theorem dX5_ends_40 : decode cX5_ends 40 = .ok (.iconst 0, 1) := by decide +kernel
theorem dX5_ends_41 : decode cX5_ends 41 = .ok (.istore_n 3, 1) := by decide +kernel
theorem dX5_ends_42 : decode cX5_ends 42 = .ok (.iload_n 3, 1) := by decide +kernel
theorem dX5_ends_43 : decode cX5_ends 43 = .ok (.aload_n 0, 1) := by decide +kernel
theorem dX5_ends_44 : decode cX5_ends 44 = .ok (.getfield 174, 3) := by decide +kernel
theorem dX5_ends_47 : decode cX5_ends 47 = .ok (.if_icmp .ge 66, 3) := by decide +kernel
theorem dX5_ends_50 : decode cX5_ends 50 = .ok (.aload_n 0, 1) := by decide +kernel
theorem dX5_ends_51 : decode cX5_ends 51 = .ok (.getfield 35, 3) := by decide +kernel
theorem dX5_ends_54 : decode cX5_ends 54 = .ok (.iload_n 3, 1) := by decide +kernel
theorem dX5_ends_55 : decode cX5_ends 55 = .ok (.laload, 1) := by decide +kernel
theorem dX5_ends_56 : decode cX5_ends 56 = .ok (.lstore 4, 2) := by decide +kernel
theorem dX5_ends_58 : decode cX5_ends 58 = .ok (.iload_n 2, 1) := by decide +kernel
theorem dX5_ends_59 : decode cX5_ends 59 = .ok (.aload_n 0, 1) := by decide +kernel
theorem dX5_ends_60 : decode cX5_ends 60 = .ok (.lload 4, 2) := by decide +kernel
theorem dX5_ends_62 : decode cX5_ends 62 = .ok (.invokevirtual 194, 3) := by decide +kernel
theorem dX5_ends_65 : decode cX5_ends 65 = .ok (.ifCond .eq 39, 3) := by decide +kernel
theorem dX5_ends_68 : decode cX5_ends 68 = .ok (.iload_n 1, 1) := by decide +kernel
theorem dX5_ends_69 : decode cX5_ends 69 = .ok (.ifCond .eq 31, 3) := by decide +kernel
theorem dX5_ends_72 : decode cX5_ends 72 = .ok (.iload_n 1, 1) := by decide +kernel
theorem dX5_ends_73 : decode cX5_ends 73 = .ok (.iconst 1, 1) := by decide +kernel
theorem dX5_ends_74 : decode cX5_ends 74 = .ok (.if_icmp .ne 15, 3) := by decide +kernel
theorem dX5_ends_77 : decode cX5_ends 77 = .ok (.aload_n 0, 1) := by decide +kernel
theorem dX5_ends_78 : decode cX5_ends 78 = .ok (.lload 4, 2) := by decide +kernel
theorem dX5_ends_80 : decode cX5_ends 80 = .ok (.invokevirtual 198, 3) := by decide +kernel
theorem dX5_ends_83 : decode cX5_ends 83 = .ok (.ifCond .eq 21, 3) := by decide +kernel
theorem dX5_ends_86 : decode cX5_ends 86 = .ok (.goto 14, 3) := by decide +kernel
theorem dX5_ends_89 : decode cX5_ends 89 = .ok (.lload 4, 2) := by decide +kernel
theorem dX5_ends_91 : decode cX5_ends 91 = .ok (.bipush 44, 2) := by decide +kernel
theorem dX5_ends_93 : decode cX5_ends 93 = .ok (.iconst 2, 1) := by decide +kernel
theorem dX5_ends_94 : decode cX5_ends 94 = .ok (.invokestatic 134, 3) := by decide +kernel
theorem dX5_ends_97 : decode cX5_ends 97 = .ok (.ifCond .eq 7, 3) := by decide +kernel
theorem dX5_ends_100 : decode cX5_ends 100 = .ok (.iconst 1, 1) := by decide +kernel
theorem dX5_ends_101 : decode cX5_ends 101 = .ok (.goto 4, 3) := by decide +kernel
theorem dX5_ends_104 : decode cX5_ends 104 = .ok (.iconst 0, 1) := by decide +kernel
theorem dX5_ends_105 : decode cX5_ends 105 = .ok (.iadd, 1) := by decide +kernel
theorem dX5_ends_106 : decode cX5_ends 106 = .ok (.istore_n 2, 1) := by decide +kernel
theorem dX5_ends_107 : decode cX5_ends 107 = .ok (.iinc 3 1, 3) := by decide +kernel
theorem dX5_ends_110 : decode cX5_ends 110 = .ok (.goto (-68), 3) := by decide +kernel
theorem dX5_ends_113 : decode cX5_ends 113 = .ok (.iload_n 2, 1) := by decide +kernel
theorem dX5_ends_114 : decode cX5_ends 114 = .ok (.ireturn, 1) := by decide +kernel
theorem dX5_findBoth_0 : decode cX5_findBoth 0 = .ok (.iconst 0, 1) := by decide +kernel
theorem dX5_findBoth_1 : decode cX5_findBoth 1 = .ok (.istore_n 3, 1) := by decide +kernel
theorem dX5_findBoth_2 : decode cX5_findBoth 2 = .ok (.iload_n 3, 1) := by decide +kernel
theorem dX5_findBoth_3 : decode cX5_findBoth 3 = .ok (.aload_n 0, 1) := by decide +kernel
theorem dX5_findBoth_4 : decode cX5_findBoth 4 = .ok (.getfield 174, 3) := by decide +kernel
theorem dX5_findBoth_7 : decode cX5_findBoth 7 = .ok (.if_icmp .ge 39, 3) := by decide +kernel
theorem dX5_findBoth_10 : decode cX5_findBoth 10 = .ok (.aload_n 0, 1) := by decide +kernel
theorem dX5_findBoth_11 : decode cX5_findBoth 11 = .ok (.getfield 35, 3) := by decide +kernel
theorem dX5_findBoth_14 : decode cX5_findBoth 14 = .ok (.iload_n 3, 1) := by decide +kernel
theorem dX5_findBoth_15 : decode cX5_findBoth 15 = .ok (.laload, 1) := by decide +kernel
theorem dX5_findBoth_16 : decode cX5_findBoth 16 = .ok (.iconst 0, 1) := by decide +kernel
theorem dX5_findBoth_17 : decode cX5_findBoth 17 = .ok (.invokestatic 145, 3) := by decide +kernel
theorem dX5_findBoth_20 : decode cX5_findBoth 20 = .ok (.iload_n 1, 1) := by decide +kernel
theorem dX5_findBoth_21 : decode cX5_findBoth 21 = .ok (.if_icmp .ne 19, 3) := by decide +kernel
theorem dX5_findBoth_24 : decode cX5_findBoth 24 = .ok (.aload_n 0, 1) := by decide +kernel
theorem dX5_findBoth_25 : decode cX5_findBoth 25 = .ok (.getfield 35, 3) := by decide +kernel
theorem dX5_findBoth_28 : decode cX5_findBoth 28 = .ok (.iload_n 3, 1) := by decide +kernel
theorem dX5_findBoth_29 : decode cX5_findBoth 29 = .ok (.laload, 1) := by decide +kernel
theorem dX5_findBoth_30 : decode cX5_findBoth 30 = .ok (.iconst 1, 1) := by decide +kernel
theorem dX5_findBoth_31 : decode cX5_findBoth 31 = .ok (.invokestatic 145, 3) := by decide +kernel
theorem dX5_findBoth_34 : decode cX5_findBoth 34 = .ok (.iload_n 2, 1) := by decide +kernel
theorem dX5_findBoth_35 : decode cX5_findBoth 35 = .ok (.if_icmp .ne 5, 3) := by decide +kernel
theorem dX5_findBoth_38 : decode cX5_findBoth 38 = .ok (.iload_n 3, 1) := by decide +kernel
theorem dX5_findBoth_39 : decode cX5_findBoth 39 = .ok (.ireturn, 1) := by decide +kernel
theorem dX5_findBoth_40 : decode cX5_findBoth 40 = .ok (.iinc 3 1, 3) := by decide +kernel
theorem dX5_findBoth_43 : decode cX5_findBoth 43 = .ok (.goto (-41), 3) := by decide +kernel
theorem dX5_findBoth_46 : decode cX5_findBoth 46 = .ok (.iconst (-1), 1) := by decide +kernel
theorem dX5_findBoth_47 : decode cX5_findBoth 47 = .ok (.ireturn, 1) := by decide +kernel
theorem dX5_findEnd_0 : decode cX5_findEnd 0 = .ok (.iconst 0, 1) := by decide +kernel
theorem dX5_findEnd_1 : decode cX5_findEnd 1 = .ok (.istore_n 3, 1) := by decide +kernel
theorem dX5_findEnd_2 : decode cX5_findEnd 2 = .ok (.iload_n 3, 1) := by decide +kernel
theorem dX5_findEnd_3 : decode cX5_findEnd 3 = .ok (.aload_n 0, 1) := by decide +kernel
theorem dX5_findEnd_4 : decode cX5_findEnd 4 = .ok (.getfield 174, 3) := by decide +kernel
theorem dX5_findEnd_7 : decode cX5_findEnd 7 = .ok (.if_icmp .ge 89, 3) := by decide +kernel
theorem dX5_findEnd_10 : decode cX5_findEnd 10 = .ok (.aload_n 0, 1) := by decide +kernel
theorem dX5_findEnd_11 : decode cX5_findEnd 11 = .ok (.aload_n 0, 1) := by decide +kernel
theorem dX5_findEnd_12 : decode cX5_findEnd 12 = .ok (.getfield 35, 3) := by decide +kernel
theorem dX5_findEnd_15 : decode cX5_findEnd 15 = .ok (.iload_n 3, 1) := by decide +kernel
theorem dX5_findEnd_16 : decode cX5_findEnd 16 = .ok (.laload, 1) := by decide +kernel
theorem dX5_findEnd_17 : decode cX5_findEnd 17 = .ok (.invokevirtual 198, 3) := by decide +kernel
theorem dX5_findEnd_20 : decode cX5_findEnd 20 = .ok (.istore 4, 2) := by decide +kernel
theorem dX5_findEnd_22 : decode cX5_findEnd 22 = .ok (.iconst 0, 1) := by decide +kernel
theorem dX5_findEnd_23 : decode cX5_findEnd 23 = .ok (.istore 5, 2) := by decide +kernel
theorem dX5_findEnd_25 : decode cX5_findEnd 25 = .ok (.iload 5, 2) := by decide +kernel
theorem dX5_findEnd_27 : decode cX5_findEnd 27 = .ok (.iconst 4, 1) := by decide +kernel
theorem dX5_findEnd_28 : decode cX5_findEnd 28 = .ok (.if_icmp .ge 55, 3) := by decide +kernel
theorem dX5_findEnd_31 : decode cX5_findEnd 31 = .ok (.iload 4, 2) := by decide +kernel
theorem dX5_findEnd_33 : decode cX5_findEnd 33 = .ok (.ifCond .eq 50, 3) := by decide +kernel
theorem dX5_findEnd_36 : decode cX5_findEnd 36 = .ok (.iload_n 2, 1) := by decide +kernel
theorem dX5_findEnd_37 : decode cX5_findEnd 37 = .ok (.iload 5, 2) := by decide +kernel
theorem dX5_findEnd_39 : decode cX5_findEnd 39 = .ok (.ishr, 1) := by decide +kernel
theorem dX5_findEnd_40 : decode cX5_findEnd 40 = .ok (.iconst 1, 1) := by decide +kernel
theorem dX5_findEnd_41 : decode cX5_findEnd 41 = .ok (.iand, 1) := by decide +kernel
theorem dX5_findEnd_42 : decode cX5_findEnd 42 = .ok (.ifCond .eq 28, 3) := by decide +kernel
theorem dX5_findEnd_45 : decode cX5_findEnd 45 = .ok (.aload_n 0, 1) := by decide +kernel
theorem dX5_findEnd_46 : decode cX5_findEnd 46 = .ok (.getfield 35, 3) := by decide +kernel
theorem dX5_findEnd_49 : decode cX5_findEnd 49 = .ok (.iload_n 3, 1) := by decide +kernel
theorem dX5_findEnd_50 : decode cX5_findEnd 50 = .ok (.laload, 1) := by decide +kernel
theorem dX5_findEnd_51 : decode cX5_findEnd 51 = .ok (.iconst 2, 1) := by decide +kernel
theorem dX5_findEnd_52 : decode cX5_findEnd 52 = .ok (.iload 5, 2) := by decide +kernel
theorem dX5_findEnd_54 : decode cX5_findEnd 54 = .ok (.imul, 1) := by decide +kernel
theorem dX5_findEnd_55 : decode cX5_findEnd 55 = .ok (.iconst 2, 1) := by decide +kernel
theorem dX5_findEnd_56 : decode cX5_findEnd 56 = .ok (.invokestatic 134, 3) := by decide +kernel
theorem dX5_findEnd_59 : decode cX5_findEnd 59 = .ok (.iload_n 1, 1) := by decide +kernel
theorem dX5_findEnd_60 : decode cX5_findEnd 60 = .ok (.iconst 2, 1) := by decide +kernel
theorem dX5_findEnd_61 : decode cX5_findEnd 61 = .ok (.iload 5, 2) := by decide +kernel
theorem dX5_findEnd_63 : decode cX5_findEnd 63 = .ok (.imul, 1) := by decide +kernel
theorem dX5_findEnd_64 : decode cX5_findEnd 64 = .ok (.ishr, 1) := by decide +kernel
theorem dX5_findEnd_65 : decode cX5_findEnd 65 = .ok (.iconst 3, 1) := by decide +kernel
theorem dX5_findEnd_66 : decode cX5_findEnd 66 = .ok (.iand, 1) := by decide +kernel
theorem dX5_findEnd_67 : decode cX5_findEnd 67 = .ok (.if_icmp .ne 7, 3) := by decide +kernel
theorem dX5_findEnd_70 : decode cX5_findEnd 70 = .ok (.iconst 1, 1) := by decide +kernel
theorem dX5_findEnd_71 : decode cX5_findEnd 71 = .ok (.goto 4, 3) := by decide +kernel
theorem dX5_findEnd_74 : decode cX5_findEnd 74 = .ok (.iconst 0, 1) := by decide +kernel
theorem dX5_findEnd_75 : decode cX5_findEnd 75 = .ok (.istore 4, 2) := by decide +kernel
theorem dX5_findEnd_77 : decode cX5_findEnd 77 = .ok (.iinc 5 1, 3) := by decide +kernel
theorem dX5_findEnd_80 : decode cX5_findEnd 80 = .ok (.goto (-55), 3) := by decide +kernel
theorem dX5_findEnd_83 : decode cX5_findEnd 83 = .ok (.iload 4, 2) := by decide +kernel
theorem dX5_findEnd_85 : decode cX5_findEnd 85 = .ok (.ifCond .eq 5, 3) := by decide +kernel
theorem dX5_findEnd_88 : decode cX5_findEnd 88 = .ok (.iload_n 3, 1) := by decide +kernel
theorem dX5_findEnd_89 : decode cX5_findEnd 89 = .ok (.ireturn, 1) := by decide +kernel
theorem dX5_findEnd_90 : decode cX5_findEnd 90 = .ok (.iinc 3 1, 3) := by decide +kernel
theorem dX5_findEnd_93 : decode cX5_findEnd 93 = .ok (.goto (-91), 3) := by decide +kernel
theorem dX5_findEnd_96 : decode cX5_findEnd 96 = .ok (.iconst (-1), 1) := by decide +kernel
theorem dX5_findEnd_97 : decode cX5_findEnd 97 = .ok (.ireturn, 1) := by decide +kernel
theorem dX5_keep_0 : decode cX5_keep 0 = .ok (.iload_n 1, 1) := by decide +kernel
theorem dX5_keep_1 : decode cX5_keep 1 = .ok (.ifCond .ge 5, 3) := by decide +kernel
theorem dX5_keep_4 : decode cX5_keep 4 = .ok (.iconst (-1), 1) := by decide +kernel
theorem dX5_keep_5 : decode cX5_keep 5 = .ok (.ireturn, 1) := by decide +kernel
theorem dX5_keep_6 : decode cX5_keep 6 = .ok (.aload_n 0, 1) := by decide +kernel
theorem dX5_keep_7 : decode cX5_keep 7 = .ok (.aload_n 0, 1) := by decide +kernel
theorem dX5_keep_8 : decode cX5_keep 8 = .ok (.getfield 46, 3) := by decide +kernel
theorem dX5_keep_11 : decode cX5_keep 11 = .ok (.iload_n 1, 1) := by decide +kernel
theorem dX5_keep_12 : decode cX5_keep 12 = .ok (.saload, 1) := by decide +kernel
theorem dX5_keep_13 : decode cX5_keep 13 = .ok (.putfield 201, 3) := by decide +kernel
theorem dX5_keep_16 : decode cX5_keep 16 = .ok (.iload_n 1, 1) := by decide +kernel
theorem dX5_keep_17 : decode cX5_keep 17 = .ok (.istore_n 2, 1) := by decide +kernel
theorem dX5_keep_18 : decode cX5_keep 18 = .ok (.aload_n 0, 1) := by decide +kernel
theorem dX5_keep_19 : decode cX5_keep 19 = .ok (.getfield 201, 3) := by decide +kernel
theorem dX5_keep_22 : decode cX5_keep 22 = .ok (.iconst 1, 1) := by decide +kernel
theorem dX5_keep_23 : decode cX5_keep 23 = .ok (.isub, 1) := by decide +kernel
theorem dX5_keep_24 : decode cX5_keep 24 = .ok (.istore_n 3, 1) := by decide +kernel
theorem dX5_keep_25 : decode cX5_keep 25 = .ok (.iload_n 3, 1) := by decide +kernel
theorem dX5_keep_26 : decode cX5_keep 26 = .ok (.ifCond .lt 28, 3) := by decide +kernel
theorem dX5_keep_29 : decode cX5_keep 29 = .ok (.aload_n 0, 1) := by decide +kernel
theorem dX5_keep_30 : decode cX5_keep 30 = .ok (.getfield 54, 3) := by decide +kernel
theorem dX5_keep_33 : decode cX5_keep 33 = .ok (.iload_n 3, 1) := by decide +kernel
theorem dX5_keep_34 : decode cX5_keep 34 = .ok (.aload_n 0, 1) := by decide +kernel
theorem dX5_keep_35 : decode cX5_keep 35 = .ok (.getfield 42, 3) := by decide +kernel
theorem dX5_keep_38 : decode cX5_keep 38 = .ok (.iload_n 2, 1) := by decide +kernel
theorem dX5_keep_39 : decode cX5_keep 39 = .ok (.baload, 1) := by decide +kernel
theorem dX5_keep_40 : decode cX5_keep 40 = .ok (.iastore, 1) := by decide +kernel
theorem dX5_keep_41 : decode cX5_keep 41 = .ok (.aload_n 0, 1) := by decide +kernel
theorem dX5_keep_42 : decode cX5_keep 42 = .ok (.getfield 39, 3) := by decide +kernel
theorem dX5_keep_45 : decode cX5_keep 45 = .ok (.iload_n 2, 1) := by decide +kernel
theorem dX5_keep_46 : decode cX5_keep 46 = .ok (.iaload, 1) := by decide +kernel
theorem dX5_keep_47 : decode cX5_keep 47 = .ok (.istore_n 2, 1) := by decide +kernel
theorem dX5_keep_48 : decode cX5_keep 48 = .ok (.iinc 3 (-1), 3) := by decide +kernel
theorem dX5_keep_51 : decode cX5_keep 51 = .ok (.goto (-26), 3) := by decide +kernel
theorem dX5_keep_54 : decode cX5_keep 54 = .ok (.aload_n 0, 1) := by decide +kernel
theorem dX5_keep_55 : decode cX5_keep 55 = .ok (.getfield 201, 3) := by decide +kernel
theorem dX5_keep_58 : decode cX5_keep 58 = .ok (.ireturn, 1) := by decide +kernel
theorem dX5_both_0 : decode cX5_both 0 = .ok (.iload_n 1, 1) := by decide +kernel
theorem dX5_both_1 : decode cX5_both 1 = .ok (.iconst 0, 1) := by decide +kernel
theorem dX5_both_2 : decode cX5_both 2 = .ok (.aload_n 0, 1) := by decide +kernel
theorem dX5_both_3 : decode cX5_both 3 = .ok (.getfield 7, 3) := by decide +kernel
theorem dX5_both_6 : decode cX5_both 6 = .ok (.iconst 0, 1) := by decide +kernel
theorem dX5_both_7 : decode cX5_both 7 = .ok (.iaload, 1) := by decide +kernel
theorem dX5_both_8 : decode cX5_both 8 = .ok (.invokestatic 64, 3) := by decide +kernel
theorem dX5_both_11 : decode cX5_both 11 = .ok (.ifCond .eq 17, 3) := by decide +kernel
theorem dX5_both_14 : decode cX5_both 14 = .ok (.iload_n 2, 1) := by decide +kernel
theorem dX5_both_15 : decode cX5_both 15 = .ok (.iconst 0, 1) := by decide +kernel
theorem dX5_both_16 : decode cX5_both 16 = .ok (.aload_n 0, 1) := by decide +kernel
theorem dX5_both_17 : decode cX5_both 17 = .ok (.getfield 7, 3) := by decide +kernel
theorem dX5_both_20 : decode cX5_both 20 = .ok (.iconst 1, 1) := by decide +kernel
theorem dX5_both_21 : decode cX5_both 21 = .ok (.iaload, 1) := by decide +kernel
theorem dX5_both_22 : decode cX5_both 22 = .ok (.invokestatic 64, 3) := by decide +kernel
theorem dX5_both_25 : decode cX5_both 25 = .ok (.ifCond .ne 5, 3) := by decide +kernel
theorem dX5_both_28 : decode cX5_both 28 = .ok (.iconst (-1), 1) := by decide +kernel
theorem dX5_both_29 : decode cX5_both 29 = .ok (.ireturn, 1) := by decide +kernel
theorem dX5_both_30 : decode cX5_both 30 = .ok (.aload_n 0, 1) := by decide +kernel
theorem dX5_both_31 : decode cX5_both 31 = .ok (.invokevirtual 190, 3) := by decide +kernel
theorem dX5_both_34 : decode cX5_both 34 = .ok (.ifCond .eq 16, 3) := by decide +kernel
theorem dX5_both_37 : decode cX5_both 37 = .ok (.aload_n 0, 1) := by decide +kernel
theorem dX5_both_38 : decode cX5_both 38 = .ok (.aload_n 0, 1) := by decide +kernel
theorem dX5_both_39 : decode cX5_both 39 = .ok (.iload_n 1, 1) := by decide +kernel
theorem dX5_both_40 : decode cX5_both 40 = .ok (.iload_n 2, 1) := by decide +kernel
theorem dX5_both_41 : decode cX5_both 41 = .ok (.invokevirtual 204, 3) := by decide +kernel
theorem dX5_both_44 : decode cX5_both 44 = .ok (.invokevirtual 208, 3) := by decide +kernel
theorem dX5_both_47 : decode cX5_both 47 = .ok (.goto 5, 3) := by decide +kernel
theorem dX5_both_50 : decode cX5_both 50 = .ok (.bipush (-2), 2) := by decide +kernel
theorem dX5_both_52 : decode cX5_both 52 = .ok (.ireturn, 1) := by decide +kernel
theorem dX5_isAsked_0 : decode cX5_isAsked 0 = .ok (.iload_n 0, 1) := by decide +kernel
theorem dX5_isAsked_1 : decode cX5_isAsked 1 = .ok (.iconst 0, 1) := by decide +kernel
theorem dX5_isAsked_2 : decode cX5_isAsked 2 = .ok (.sipush 255, 3) := by decide +kernel
theorem dX5_isAsked_5 : decode cX5_isAsked 5 = .ok (.invokestatic 64, 3) := by decide +kernel
theorem dX5_isAsked_8 : decode cX5_isAsked 8 = .ok (.ifCond .eq 17, 3) := by decide +kernel
theorem dX5_isAsked_11 : decode cX5_isAsked 11 = .ok (.iload_n 1, 1) := by decide +kernel
theorem dX5_isAsked_12 : decode cX5_isAsked 12 = .ok (.iconst 0, 1) := by decide +kernel
theorem dX5_isAsked_13 : decode cX5_isAsked 13 = .ok (.bipush 15, 2) := by decide +kernel
theorem dX5_isAsked_15 : decode cX5_isAsked 15 = .ok (.invokestatic 64, 3) := by decide +kernel
theorem dX5_isAsked_18 : decode cX5_isAsked 18 = .ok (.ifCond .eq 7, 3) := by decide +kernel
theorem dX5_isAsked_21 : decode cX5_isAsked 21 = .ok (.iconst 1, 1) := by decide +kernel
theorem dX5_isAsked_22 : decode cX5_isAsked 22 = .ok (.goto 4, 3) := by decide +kernel
theorem dX5_isAsked_25 : decode cX5_isAsked 25 = .ok (.iconst 0, 1) := by decide +kernel
theorem dX5_isAsked_26 : decode cX5_isAsked 26 = .ok (.ireturn, 1) := by decide +kernel
theorem dX5_outcome_0 : decode cX5_outcome 0 = .ok (.iload_n 1, 1) := by decide +kernel
theorem dX5_outcome_1 : decode cX5_outcome 1 = .ok (.iload_n 2, 1) := by decide +kernel
theorem dX5_outcome_2 : decode cX5_outcome 2 = .ok (.invokestatic 211, 3) := by decide +kernel
theorem dX5_outcome_5 : decode cX5_outcome 5 = .ok (.ifCond .ne 5, 3) := by decide +kernel
theorem dX5_outcome_8 : decode cX5_outcome 8 = .ok (.iconst (-1), 1) := by decide +kernel
theorem dX5_outcome_9 : decode cX5_outcome 9 = .ok (.ireturn, 1) := by decide +kernel
theorem dX5_outcome_10 : decode cX5_outcome 10 = .ok (.aload_n 0, 1) := by decide +kernel
theorem dX5_outcome_11 : decode cX5_outcome 11 = .ok (.invokevirtual 190, 3) := by decide +kernel
theorem dX5_outcome_14 : decode cX5_outcome 14 = .ok (.ifCond .eq 16, 3) := by decide +kernel
theorem dX5_outcome_17 : decode cX5_outcome 17 = .ok (.aload_n 0, 1) := by decide +kernel
theorem dX5_outcome_18 : decode cX5_outcome 18 = .ok (.aload_n 0, 1) := by decide +kernel
theorem dX5_outcome_19 : decode cX5_outcome 19 = .ok (.iload_n 1, 1) := by decide +kernel
theorem dX5_outcome_20 : decode cX5_outcome 20 = .ok (.iload_n 2, 1) := by decide +kernel
theorem dX5_outcome_21 : decode cX5_outcome 21 = .ok (.invokevirtual 215, 3) := by decide +kernel
theorem dX5_outcome_24 : decode cX5_outcome 24 = .ok (.invokevirtual 208, 3) := by decide +kernel
theorem dX5_outcome_27 : decode cX5_outcome 27 = .ok (.goto 5, 3) := by decide +kernel
theorem dX5_outcome_30 : decode cX5_outcome 30 = .ok (.bipush (-2), 2) := by decide +kernel
theorem dX5_outcome_32 : decode cX5_outcome 32 = .ok (.ireturn, 1) := by decide +kernel
theorem dX5_step_0 : decode cX5_step 0 = .ok (.iload_n 1, 1) := by decide +kernel
theorem dX5_step_1 : decode cX5_step 1 = .ok (.iconst 0, 1) := by decide +kernel
theorem dX5_step_2 : decode cX5_step 2 = .ok (.aload_n 0, 1) := by decide +kernel
theorem dX5_step_3 : decode cX5_step 3 = .ok (.getfield 201, 3) := by decide +kernel
theorem dX5_step_6 : decode cX5_step 6 = .ok (.iconst 1, 1) := by decide +kernel
theorem dX5_step_7 : decode cX5_step 7 = .ok (.isub, 1) := by decide +kernel
theorem dX5_step_8 : decode cX5_step 8 = .ok (.invokestatic 64, 3) := by decide +kernel
theorem dX5_step_11 : decode cX5_step 11 = .ok (.ifCond .eq 12, 3) := by decide +kernel
theorem dX5_step_14 : decode cX5_step 14 = .ok (.aload_n 0, 1) := by decide +kernel
theorem dX5_step_15 : decode cX5_step 15 = .ok (.getfield 54, 3) := by decide +kernel
theorem dX5_step_18 : decode cX5_step 18 = .ok (.iload_n 1, 1) := by decide +kernel
theorem dX5_step_19 : decode cX5_step 19 = .ok (.iaload, 1) := by decide +kernel
theorem dX5_step_20 : decode cX5_step 20 = .ok (.goto 4, 3) := by decide +kernel
theorem dX5_step_23 : decode cX5_step 23 = .ok (.iconst (-1), 1) := by decide +kernel
theorem dX5_step_24 : decode cX5_step 24 = .ok (.ireturn, 1) := by decide +kernel
theorem dX5_moved_0 : decode cX5_moved 0 = .ok (.iload_n 2, 1) := by decide +kernel
theorem dX5_moved_1 : decode cX5_moved 1 = .ok (.bipush 8, 2) := by decide +kernel
theorem dX5_moved_3 : decode cX5_moved 3 = .ok (.idiv, 1) := by decide +kernel
theorem dX5_moved_4 : decode cX5_moved 4 = .ok (.iload_n 1, 1) := by decide +kernel
theorem dX5_moved_5 : decode cX5_moved 5 = .ok (.if_icmp .ne 17, 3) := by decide +kernel
theorem dX5_moved_8 : decode cX5_moved 8 = .ok (.iload_n 0, 1) := by decide +kernel
theorem dX5_moved_9 : decode cX5_moved 9 = .ok (.iload_n 2, 1) := by decide +kernel
theorem dX5_moved_10 : decode cX5_moved 10 = .ok (.bipush 8, 2) := by decide +kernel
theorem dX5_moved_12 : decode cX5_moved 12 = .ok (.irem, 1) := by decide +kernel
theorem dX5_moved_13 : decode cX5_moved 13 = .ok (.if_icmp .lt 9, 3) := by decide +kernel
theorem dX5_moved_16 : decode cX5_moved 16 = .ok (.iload_n 0, 1) := by decide +kernel
theorem dX5_moved_17 : decode cX5_moved 17 = .ok (.iconst 1, 1) := by decide +kernel
theorem dX5_moved_18 : decode cX5_moved 18 = .ok (.iadd, 1) := by decide +kernel
theorem dX5_moved_19 : decode cX5_moved 19 = .ok (.goto 4, 3) := by decide +kernel
theorem dX5_moved_22 : decode cX5_moved 22 = .ok (.iload_n 0, 1) := by decide +kernel
theorem dX5_moved_23 : decode cX5_moved 23 = .ok (.ireturn, 1) := by decide +kernel
theorem dX5_isBarred_0 : decode cX5_isBarred 0 = .ok (.iload_n 2, 1) := by decide +kernel
theorem dX5_isBarred_1 : decode cX5_isBarred 1 = .ok (.ifCond .eq 13, 3) := by decide +kernel
theorem dX5_isBarred_4 : decode cX5_isBarred 4 = .ok (.aload_n 0, 1) := by decide +kernel
theorem dX5_isBarred_5 : decode cX5_isBarred 5 = .ok (.iload_n 3, 1) := by decide +kernel
theorem dX5_isBarred_6 : decode cX5_isBarred 6 = .ok (.iload 4, 2) := by decide +kernel
theorem dX5_isBarred_8 : decode cX5_isBarred 8 = .ok (.invokevirtual 215, 3) := by decide +kernel
theorem dX5_isBarred_11 : decode cX5_isBarred 11 = .ok (.goto 20, 3) := by decide +kernel
theorem dX5_isBarred_14 : decode cX5_isBarred 14 = .ok (.aload_n 0, 1) := by decide +kernel
theorem dX5_isBarred_15 : decode cX5_isBarred 15 = .ok (.iload_n 3, 1) := by decide +kernel
theorem dX5_isBarred_16 : decode cX5_isBarred 16 = .ok (.iconst 0, 1) := by decide +kernel
theorem dX5_isBarred_17 : decode cX5_isBarred 17 = .ok (.iload_n 1, 1) := by decide +kernel
theorem dX5_isBarred_18 : decode cX5_isBarred 18 = .ok (.invokestatic 218, 3) := by decide +kernel
theorem dX5_isBarred_21 : decode cX5_isBarred 21 = .ok (.iload 4, 2) := by decide +kernel
theorem dX5_isBarred_23 : decode cX5_isBarred 23 = .ok (.iconst 1, 1) := by decide +kernel
theorem dX5_isBarred_24 : decode cX5_isBarred 24 = .ok (.iload_n 1, 1) := by decide +kernel
theorem dX5_isBarred_25 : decode cX5_isBarred 25 = .ok (.invokestatic 218, 3) := by decide +kernel
theorem dX5_isBarred_28 : decode cX5_isBarred 28 = .ok (.invokevirtual 204, 3) := by decide +kernel
theorem dX5_isBarred_31 : decode cX5_isBarred 31 = .ok (.ifCond .ge 7, 3) := by decide +kernel
theorem dX5_isBarred_34 : decode cX5_isBarred 34 = .ok (.iconst 1, 1) := by decide +kernel
theorem dX5_isBarred_35 : decode cX5_isBarred 35 = .ok (.goto 4, 3) := by decide +kernel
theorem dX5_isBarred_38 : decode cX5_isBarred 38 = .ok (.iconst 0, 1) := by decide +kernel
theorem dX5_isBarred_39 : decode cX5_isBarred 39 = .ok (.ireturn, 1) := by decide +kernel
theorem dX5_find_0 : decode cX5_find 0 = .ok (.iconst 0, 1) := by decide +kernel
theorem dX5_find_1 : decode cX5_find 1 = .ok (.istore 4, 2) := by decide +kernel
theorem dX5_find_3 : decode cX5_find 3 = .ok (.iload 4, 2) := by decide +kernel
theorem dX5_find_5 : decode cX5_find 5 = .ok (.bipush 16, 2) := by decide +kernel
theorem dX5_find_7 : decode cX5_find 7 = .ok (.if_icmp .ge 84, 3) := by decide +kernel
theorem dX5_find_10 : decode cX5_find 10 = .ok (.iload 4, 2) := by decide +kernel
theorem dX5_find_12 : decode cX5_find 12 = .ok (.bipush 8, 2) := by decide +kernel
theorem dX5_find_14 : decode cX5_find 14 = .ok (.idiv, 1) := by decide +kernel
theorem dX5_find_15 : decode cX5_find 15 = .ok (.istore 5, 2) := by decide +kernel
theorem dX5_find_17 : decode cX5_find 17 = .ok (.aload_n 0, 1) := by decide +kernel
theorem dX5_find_18 : decode cX5_find 18 = .ok (.getfield 7, 3) := by decide +kernel
theorem dX5_find_21 : decode cX5_find 21 = .ok (.iload 5, 2) := by decide +kernel
theorem dX5_find_23 : decode cX5_find 23 = .ok (.iaload, 1) := by decide +kernel
theorem dX5_find_24 : decode cX5_find 24 = .ok (.bipush 7, 2) := by decide +kernel
theorem dX5_find_26 : decode cX5_find 26 = .ok (.if_icmp .eq 59, 3) := by decide +kernel
theorem dX5_find_29 : decode cX5_find 29 = .ok (.iload 4, 2) := by decide +kernel
theorem dX5_find_31 : decode cX5_find 31 = .ok (.bipush 8, 2) := by decide +kernel
theorem dX5_find_33 : decode cX5_find 33 = .ok (.irem, 1) := by decide +kernel
theorem dX5_find_34 : decode cX5_find 34 = .ok (.aload_n 0, 1) := by decide +kernel
theorem dX5_find_35 : decode cX5_find 35 = .ok (.getfield 7, 3) := by decide +kernel
theorem dX5_find_38 : decode cX5_find 38 = .ok (.iload 5, 2) := by decide +kernel
theorem dX5_find_40 : decode cX5_find 40 = .ok (.iaload, 1) := by decide +kernel
theorem dX5_find_41 : decode cX5_find 41 = .ok (.if_icmp .lt 6, 3) := by decide +kernel
theorem dX5_find_44 : decode cX5_find 44 = .ok (.goto 41, 3) := by decide +kernel
theorem dX5_find_47 : decode cX5_find 47 = .ok (.aload_n 0, 1) := by decide +kernel
theorem dX5_find_48 : decode cX5_find 48 = .ok (.iload 4, 2) := by decide +kernel
theorem dX5_find_50 : decode cX5_find 50 = .ok (.invokevirtual 184, 3) := by decide +kernel
theorem dX5_find_53 : decode cX5_find 53 = .ok (.aload_n 0, 1) := by decide +kernel
theorem dX5_find_54 : decode cX5_find 54 = .ok (.invokevirtual 187, 3) := by decide +kernel
theorem dX5_find_57 : decode cX5_find 57 = .ok (.aload_n 0, 1) := by decide +kernel
theorem dX5_find_58 : decode cX5_find 58 = .ok (.getfield 174, 3) := by decide +kernel
theorem dX5_find_61 : decode cX5_find 61 = .ok (.sipush 12000, 3) := by decide +kernel
theorem dX5_find_64 : decode cX5_find 64 = .ok (.if_icmp .le 6, 3) := by decide +kernel
theorem dX5_find_67 : decode cX5_find 67 = .ok (.bipush (-2), 2) := by decide +kernel
theorem dX5_find_69 : decode cX5_find 69 = .ok (.ireturn, 1) := by decide +kernel
theorem dX5_find_70 : decode cX5_find 70 = .ok (.aload_n 0, 1) := by decide +kernel
theorem dX5_find_71 : decode cX5_find 71 = .ok (.iload 4, 2) := by decide +kernel
theorem dX5_find_73 : decode cX5_find 73 = .ok (.iload_n 1, 1) := by decide +kernel
theorem dX5_find_74 : decode cX5_find 74 = .ok (.iload_n 2, 1) := by decide +kernel
theorem dX5_find_75 : decode cX5_find 75 = .ok (.iload_n 3, 1) := by decide +kernel
theorem dX5_find_76 : decode cX5_find 76 = .ok (.invokevirtual 222, 3) := by decide +kernel
theorem dX5_find_79 : decode cX5_find 79 = .ok (.ifCond .eq 6, 3) := by decide +kernel
theorem dX5_find_82 : decode cX5_find 82 = .ok (.iload 4, 2) := by decide +kernel
theorem dX5_find_84 : decode cX5_find 84 = .ok (.ireturn, 1) := by decide +kernel
theorem dX5_find_85 : decode cX5_find 85 = .ok (.iinc 4 1, 3) := by decide +kernel
theorem dX5_find_88 : decode cX5_find 88 = .ok (.goto (-85), 3) := by decide +kernel
theorem dX5_find_91 : decode cX5_find 91 = .ok (.iconst (-1), 1) := by decide +kernel
theorem dX5_find_92 : decode cX5_find 92 = .ok (.ireturn, 1) := by decide +kernel
theorem dX5_missing_0 : decode cX5_missing 0 = .ok (.iload_n 1, 1) := by decide +kernel
theorem dX5_missing_1 : decode cX5_missing 1 = .ok (.ifCond .eq 14, 3) := by decide +kernel
theorem dX5_missing_4 : decode cX5_missing 4 = .ok (.iload_n 2, 1) := by decide +kernel
theorem dX5_missing_5 : decode cX5_missing 5 = .ok (.iload_n 3, 1) := by decide +kernel
theorem dX5_missing_6 : decode cX5_missing 6 = .ok (.invokestatic 211, 3) := by decide +kernel
theorem dX5_missing_9 : decode cX5_missing 9 = .ok (.ifCond .ne 36, 3) := by decide +kernel
theorem dX5_missing_12 : decode cX5_missing 12 = .ok (.goto 31, 3) := by decide +kernel
theorem dX5_missing_15 : decode cX5_missing 15 = .ok (.iload_n 2, 1) := by decide +kernel
theorem dX5_missing_16 : decode cX5_missing 16 = .ok (.iconst 0, 1) := by decide +kernel
theorem dX5_missing_17 : decode cX5_missing 17 = .ok (.aload_n 0, 1) := by decide +kernel
theorem dX5_missing_18 : decode cX5_missing 18 = .ok (.getfield 7, 3) := by decide +kernel
theorem dX5_missing_21 : decode cX5_missing 21 = .ok (.iconst 0, 1) := by decide +kernel
theorem dX5_missing_22 : decode cX5_missing 22 = .ok (.iaload, 1) := by decide +kernel
theorem dX5_missing_23 : decode cX5_missing 23 = .ok (.invokestatic 64, 3) := by decide +kernel
theorem dX5_missing_26 : decode cX5_missing 26 = .ok (.ifCond .eq 17, 3) := by decide +kernel
theorem dX5_missing_29 : decode cX5_missing 29 = .ok (.iload_n 3, 1) := by decide +kernel
theorem dX5_missing_30 : decode cX5_missing 30 = .ok (.iconst 0, 1) := by decide +kernel
theorem dX5_missing_31 : decode cX5_missing 31 = .ok (.aload_n 0, 1) := by decide +kernel
theorem dX5_missing_32 : decode cX5_missing 32 = .ok (.getfield 7, 3) := by decide +kernel
theorem dX5_missing_35 : decode cX5_missing 35 = .ok (.iconst 1, 1) := by decide +kernel
theorem dX5_missing_36 : decode cX5_missing 36 = .ok (.iaload, 1) := by decide +kernel
theorem dX5_missing_37 : decode cX5_missing 37 = .ok (.invokestatic 64, 3) := by decide +kernel
theorem dX5_missing_40 : decode cX5_missing 40 = .ok (.ifCond .ne 5, 3) := by decide +kernel
theorem dX5_missing_43 : decode cX5_missing 43 = .ok (.iconst (-1), 1) := by decide +kernel
theorem dX5_missing_44 : decode cX5_missing 44 = .ok (.ireturn, 1) := by decide +kernel
theorem dX5_missing_45 : decode cX5_missing 45 = .ok (.aload_n 0, 1) := by decide +kernel
theorem dX5_missing_46 : decode cX5_missing 46 = .ok (.invokevirtual 190, 3) := by decide +kernel
theorem dX5_missing_49 : decode cX5_missing 49 = .ok (.ifCond .ne 6, 3) := by decide +kernel
theorem dX5_missing_52 : decode cX5_missing 52 = .ok (.bipush (-2), 2) := by decide +kernel
theorem dX5_missing_54 : decode cX5_missing 54 = .ok (.ireturn, 1) := by decide +kernel
theorem dX5_missing_55 : decode cX5_missing 55 = .ok (.iload_n 1, 1) := by decide +kernel
theorem dX5_missing_56 : decode cX5_missing 56 = .ok (.ifCond .eq 12, 3) := by decide +kernel
theorem dX5_missing_59 : decode cX5_missing 59 = .ok (.aload_n 0, 1) := by decide +kernel
theorem dX5_missing_60 : decode cX5_missing 60 = .ok (.iload_n 2, 1) := by decide +kernel
theorem dX5_missing_61 : decode cX5_missing 61 = .ok (.iload_n 3, 1) := by decide +kernel
theorem dX5_missing_62 : decode cX5_missing 62 = .ok (.invokevirtual 215, 3) := by decide +kernel
theorem dX5_missing_65 : decode cX5_missing 65 = .ok (.goto 9, 3) := by decide +kernel
theorem dX5_missing_68 : decode cX5_missing 68 = .ok (.aload_n 0, 1) := by decide +kernel
theorem dX5_missing_69 : decode cX5_missing 69 = .ok (.iload_n 2, 1) := by decide +kernel
theorem dX5_missing_70 : decode cX5_missing 70 = .ok (.iload_n 3, 1) := by decide +kernel
theorem dX5_missing_71 : decode cX5_missing 71 = .ok (.invokevirtual 204, 3) := by decide +kernel
theorem dX5_missing_74 : decode cX5_missing 74 = .ok (.ifCond .ge 5, 3) := by decide +kernel
theorem dX5_missing_77 : decode cX5_missing 77 = .ok (.iconst (-1), 1) := by decide +kernel
theorem dX5_missing_78 : decode cX5_missing 78 = .ok (.ireturn, 1) := by decide +kernel
theorem dX5_missing_79 : decode cX5_missing 79 = .ok (.aload_n 0, 1) := by decide +kernel
theorem dX5_missing_80 : decode cX5_missing 80 = .ok (.iload_n 1, 1) := by decide +kernel
theorem dX5_missing_81 : decode cX5_missing 81 = .ok (.iload_n 2, 1) := by decide +kernel
theorem dX5_missing_82 : decode cX5_missing 82 = .ok (.iload_n 3, 1) := by decide +kernel
theorem dX5_missing_83 : decode cX5_missing 83 = .ok (.invokevirtual 226, 3) := by decide +kernel
theorem dX5_missing_86 : decode cX5_missing 86 = .ok (.istore 4, 2) := by decide +kernel
theorem dX5_missing_88 : decode cX5_missing 88 = .ok (.aload_n 0, 1) := by decide +kernel
theorem dX5_missing_89 : decode cX5_missing 89 = .ok (.iconst 0, 1) := by decide +kernel
theorem dX5_missing_90 : decode cX5_missing 90 = .ok (.putfield 125, 3) := by decide +kernel
theorem dX5_missing_93 : decode cX5_missing 93 = .ok (.iload 4, 2) := by decide +kernel
theorem dX5_missing_95 : decode cX5_missing 95 = .ok (.ireturn, 1) := by decide +kernel
theorem dX5_statement_0 : decode cX5_statement 0 = .ok (.iload_n 1, 1) := by decide +kernel
theorem dX5_statement_1 : decode cX5_statement 1 = .ok (.iconst 0, 1) := by decide +kernel
theorem dX5_statement_2 : decode cX5_statement 2 = .ok (.iconst 1, 1) := by decide +kernel
theorem dX5_statement_3 : decode cX5_statement 3 = .ok (.invokestatic 64, 3) := by decide +kernel
theorem dX5_statement_6 : decode cX5_statement 6 = .ok (.ifCond .eq 19, 3) := by decide +kernel
theorem dX5_statement_9 : decode cX5_statement 9 = .ok (.iload_n 2, 1) := by decide +kernel
theorem dX5_statement_10 : decode cX5_statement 10 = .ok (.iconst 0, 1) := by decide +kernel
theorem dX5_statement_11 : decode cX5_statement 11 = .ok (.aload_n 0, 1) := by decide +kernel
theorem dX5_statement_12 : decode cX5_statement 12 = .ok (.getfield 7, 3) := by decide +kernel
theorem dX5_statement_15 : decode cX5_statement 15 = .ok (.iload_n 1, 1) := by decide +kernel
theorem dX5_statement_16 : decode cX5_statement 16 = .ok (.iaload, 1) := by decide +kernel
theorem dX5_statement_17 : decode cX5_statement 17 = .ok (.iconst 1, 1) := by decide +kernel
theorem dX5_statement_18 : decode cX5_statement 18 = .ok (.isub, 1) := by decide +kernel
theorem dX5_statement_19 : decode cX5_statement 19 = .ok (.invokestatic 64, 3) := by decide +kernel
theorem dX5_statement_22 : decode cX5_statement 22 = .ok (.ifCond .ne 5, 3) := by decide +kernel
theorem dX5_statement_25 : decode cX5_statement 25 = .ok (.iconst (-1), 1) := by decide +kernel
theorem dX5_statement_26 : decode cX5_statement 26 = .ok (.ireturn, 1) := by decide +kernel
theorem dX5_statement_27 : decode cX5_statement 27 = .ok (.bipush 8, 2) := by decide +kernel
theorem dX5_statement_29 : decode cX5_statement 29 = .ok (.iload_n 1, 1) := by decide +kernel
theorem dX5_statement_30 : decode cX5_statement 30 = .ok (.imul, 1) := by decide +kernel
theorem dX5_statement_31 : decode cX5_statement 31 = .ok (.iload_n 2, 1) := by decide +kernel
theorem dX5_statement_32 : decode cX5_statement 32 = .ok (.iadd, 1) := by decide +kernel
theorem dX5_statement_33 : decode cX5_statement 33 = .ok (.istore 4, 2) := by decide +kernel
theorem dX5_statement_35 : decode cX5_statement 35 = .ok (.iload_n 3, 1) := by decide +kernel
theorem dX5_statement_36 : decode cX5_statement 36 = .ok (.ifCond .ne 13, 3) := by decide +kernel
theorem dX5_statement_39 : decode cX5_statement 39 = .ok (.aload_n 0, 1) := by decide +kernel
theorem dX5_statement_40 : decode cX5_statement 40 = .ok (.getfield 13, 3) := by decide +kernel
theorem dX5_statement_43 : decode cX5_statement 43 = .ok (.iload 4, 2) := by decide +kernel
theorem dX5_statement_45 : decode cX5_statement 45 = .ok (.iaload, 1) := by decide +kernel
theorem dX5_statement_46 : decode cX5_statement 46 = .ok (.goto 38, 3) := by decide +kernel
theorem dX5_statement_49 : decode cX5_statement 49 = .ok (.iload_n 3, 1) := by decide +kernel
theorem dX5_statement_50 : decode cX5_statement 50 = .ok (.iconst 1, 1) := by decide +kernel
theorem dX5_statement_51 : decode cX5_statement 51 = .ok (.aload_n 0, 1) := by decide +kernel
theorem dX5_statement_52 : decode cX5_statement 52 = .ok (.getfield 13, 3) := by decide +kernel
theorem dX5_statement_55 : decode cX5_statement 55 = .ok (.iload 4, 2) := by decide +kernel
theorem dX5_statement_57 : decode cX5_statement 57 = .ok (.iaload, 1) := by decide +kernel
theorem dX5_statement_58 : decode cX5_statement 58 = .ok (.invokestatic 112, 3) := by decide +kernel
theorem dX5_statement_61 : decode cX5_statement 61 = .ok (.invokestatic 64, 3) := by decide +kernel
theorem dX5_statement_64 : decode cX5_statement 64 = .ok (.ifCond .eq 19, 3) := by decide +kernel
theorem dX5_statement_67 : decode cX5_statement 67 = .ok (.aload_n 0, 1) := by decide +kernel
theorem dX5_statement_68 : decode cX5_statement 68 = .ok (.getfield 16, 3) := by decide +kernel
theorem dX5_statement_71 : decode cX5_statement 71 = .ok (.iconst 4, 1) := by decide +kernel
theorem dX5_statement_72 : decode cX5_statement 72 = .ok (.iload 4, 2) := by decide +kernel
theorem dX5_statement_74 : decode cX5_statement 74 = .ok (.imul, 1) := by decide +kernel
theorem dX5_statement_75 : decode cX5_statement 75 = .ok (.iload_n 3, 1) := by decide +kernel
theorem dX5_statement_76 : decode cX5_statement 76 = .ok (.iadd, 1) := by decide +kernel
theorem dX5_statement_77 : decode cX5_statement 77 = .ok (.iconst 1, 1) := by decide +kernel
theorem dX5_statement_78 : decode cX5_statement 78 = .ok (.isub, 1) := by decide +kernel
theorem dX5_statement_79 : decode cX5_statement 79 = .ok (.iaload, 1) := by decide +kernel
theorem dX5_statement_80 : decode cX5_statement 80 = .ok (.goto 4, 3) := by decide +kernel
theorem dX5_statement_83 : decode cX5_statement 83 = .ok (.iconst (-1), 1) := by decide +kernel
theorem dX5_statement_84 : decode cX5_statement 84 = .ok (.ireturn, 1) := by decide +kernel
theorem dX5_about_0 : decode cX5_about 0 = .ok (.iload_n 1, 1) := by decide +kernel
theorem dX5_about_1 : decode cX5_about 1 = .ok (.bipush 10, 2) := by decide +kernel
theorem dX5_about_3 : decode cX5_about 3 = .ok (.bipush 13, 2) := by decide +kernel
theorem dX5_about_5 : decode cX5_about 5 = .ok (.invokestatic 64, 3) := by decide +kernel
theorem dX5_about_8 : decode cX5_about 8 = .ok (.ifCond .eq 13, 3) := by decide +kernel
theorem dX5_about_11 : decode cX5_about 11 = .ok (.aload_n 0, 1) := by decide +kernel
theorem dX5_about_12 : decode cX5_about 12 = .ok (.getfield 19, 3) := by decide +kernel
theorem dX5_about_15 : decode cX5_about 15 = .ok (.iload_n 1, 1) := by decide +kernel
theorem dX5_about_16 : decode cX5_about 16 = .ok (.bipush 10, 2) := by decide +kernel
theorem dX5_about_18 : decode cX5_about 18 = .ok (.isub, 1) := by decide +kernel
theorem dX5_about_19 : decode cX5_about 19 = .ok (.iaload, 1) := by decide +kernel
theorem dX5_about_20 : decode cX5_about 20 = .ok (.ireturn, 1) := by decide +kernel
theorem dX5_about_21 : decode cX5_about 21 = .ok (.iload_n 1, 1) := by decide +kernel
theorem dX5_about_22 : decode cX5_about 22 = .ok (.bipush 20, 2) := by decide +kernel
theorem dX5_about_24 : decode cX5_about 24 = .ok (.bipush 23, 2) := by decide +kernel
theorem dX5_about_26 : decode cX5_about 26 = .ok (.invokestatic 64, 3) := by decide +kernel
theorem dX5_about_29 : decode cX5_about 29 = .ok (.ifCond .eq 13, 3) := by decide +kernel
theorem dX5_about_32 : decode cX5_about 32 = .ok (.aload_n 0, 1) := by decide +kernel
theorem dX5_about_33 : decode cX5_about 33 = .ok (.getfield 22, 3) := by decide +kernel
theorem dX5_about_36 : decode cX5_about 36 = .ok (.iload_n 1, 1) := by decide +kernel
theorem dX5_about_37 : decode cX5_about 37 = .ok (.bipush 20, 2) := by decide +kernel
theorem dX5_about_39 : decode cX5_about 39 = .ok (.isub, 1) := by decide +kernel
theorem dX5_about_40 : decode cX5_about 40 = .ok (.iaload, 1) := by decide +kernel
theorem dX5_about_41 : decode cX5_about 41 = .ok (.ireturn, 1) := by decide +kernel
theorem dX5_about_42 : decode cX5_about 42 = .ok (.iload_n 1, 1) := by decide +kernel
theorem dX5_about_43 : decode cX5_about 43 = .ok (.iconst 0, 1) := by decide +kernel
theorem dX5_about_44 : decode cX5_about 44 = .ok (.iconst 1, 1) := by decide +kernel
theorem dX5_about_45 : decode cX5_about 45 = .ok (.invokestatic 64, 3) := by decide +kernel
theorem dX5_about_48 : decode cX5_about 48 = .ok (.ifCond .eq 12, 3) := by decide +kernel
theorem dX5_about_51 : decode cX5_about 51 = .ok (.aload_n 0, 1) := by decide +kernel
theorem dX5_about_52 : decode cX5_about 52 = .ok (.getfield 7, 3) := by decide +kernel
theorem dX5_about_55 : decode cX5_about 55 = .ok (.iload_n 1, 1) := by decide +kernel
theorem dX5_about_56 : decode cX5_about 56 = .ok (.iaload, 1) := by decide +kernel
theorem dX5_about_57 : decode cX5_about 57 = .ok (.goto 36, 3) := by decide +kernel
theorem dX5_about_60 : decode cX5_about 60 = .ok (.iload_n 1, 1) := by decide +kernel
theorem dX5_about_61 : decode cX5_about 61 = .ok (.iconst 2, 1) := by decide +kernel
theorem dX5_about_62 : decode cX5_about 62 = .ok (.if_icmp .ne 10, 3) := by decide +kernel
theorem dX5_about_65 : decode cX5_about 65 = .ok (.aload_n 0, 1) := by decide +kernel
theorem dX5_about_66 : decode cX5_about 66 = .ok (.getfield 57, 3) := by decide +kernel
theorem dX5_about_69 : decode cX5_about 69 = .ok (.goto 24, 3) := by decide +kernel
theorem dX5_about_72 : decode cX5_about 72 = .ok (.iload_n 1, 1) := by decide +kernel
theorem dX5_about_73 : decode cX5_about 73 = .ok (.iconst 3, 1) := by decide +kernel
theorem dX5_about_74 : decode cX5_about 74 = .ok (.if_icmp .ne 18, 3) := by decide +kernel
theorem dX5_about_77 : decode cX5_about 77 = .ok (.aload_n 0, 1) := by decide +kernel
theorem dX5_about_78 : decode cX5_about 78 = .ok (.getfield 129, 3) := by decide +kernel
theorem dX5_about_81 : decode cX5_about 81 = .ok (.ifCond .eq 7, 3) := by decide +kernel
theorem dX5_about_84 : decode cX5_about 84 = .ok (.iconst 1, 1) := by decide +kernel
theorem dX5_about_85 : decode cX5_about 85 = .ok (.goto 8, 3) := by decide +kernel
theorem dX5_about_88 : decode cX5_about 88 = .ok (.iconst 0, 1) := by decide +kernel
theorem dX5_about_89 : decode cX5_about 89 = .ok (.goto 4, 3) := by decide +kernel
theorem dX5_about_92 : decode cX5_about 92 = .ok (.iconst (-1), 1) := by decide +kernel
theorem dX5_about_93 : decode cX5_about 93 = .ok (.ireturn, 1) := by decide +kernel
theorem dJ9_min_7cf53_0 : decode cJ9_min_7cf53 0 = .ok (.iload_n 0, 1) := by decide +kernel
theorem dJ9_min_7cf53_1 : decode cJ9_min_7cf53 1 = .ok (.iload_n 1, 1) := by decide +kernel
theorem dJ9_min_7cf53_2 : decode cJ9_min_7cf53 2 = .ok (.if_icmp .gt 7, 3) := by decide +kernel
theorem dJ9_min_7cf53_5 : decode cJ9_min_7cf53 5 = .ok (.iload_n 0, 1) := by decide +kernel
theorem dJ9_min_7cf53_6 : decode cJ9_min_7cf53 6 = .ok (.goto 4, 3) := by decide +kernel
theorem dJ9_min_7cf53_9 : decode cJ9_min_7cf53 9 = .ok (.iload_n 1, 1) := by decide +kernel
theorem dJ9_min_7cf53_10 : decode cJ9_min_7cf53 10 = .ok (.ireturn, 1) := by decide +kernel
theorem dJ0_length_8abf5_0 : decode cJ0_length_8abf5 0 = .ok (.aload_n 0, 1) := by decide +kernel
theorem dJ0_length_8abf5_1 : decode cJ0_length_8abf5 1 = .ok (.getfield 9, 3) := by decide +kernel
theorem dJ0_length_8abf5_4 : decode cJ0_length_8abf5 4 = .ok (.arraylength, 1) := by decide +kernel
theorem dJ0_length_8abf5_5 : decode cJ0_length_8abf5 5 = .ok (.aload_n 0, 1) := by decide +kernel
theorem dJ0_length_8abf5_6 : decode cJ0_length_8abf5 6 = .ok (.invokevirtual 335, 3) := by decide +kernel
theorem dJ0_length_8abf5_9 : decode cJ0_length_8abf5 9 = .ok (.ishr, 1) := by decide +kernel
theorem dJ0_length_8abf5_10 : decode cJ0_length_8abf5 10 = .ok (.ireturn, 1) := by decide +kernel
theorem dJ0_charAt_5068e_0 : decode cJ0_charAt_5068e 0 = .ok (.aload_n 0, 1) := by decide +kernel
theorem dJ0_charAt_5068e_1 : decode cJ0_charAt_5068e 1 = .ok (.invokevirtual 492, 3) := by decide +kernel
theorem dJ0_charAt_5068e_4 : decode cJ0_charAt_5068e 4 = .ok (.ifCond .eq 12, 3) := by decide +kernel
theorem dJ0_charAt_5068e_7 : decode cJ0_charAt_5068e 7 = .ok (.aload_n 0, 1) := by decide +kernel
theorem dJ0_charAt_5068e_8 : decode cJ0_charAt_5068e 8 = .ok (.getfield 9, 3) := by decide +kernel
theorem dJ0_charAt_5068e_11 : decode cJ0_charAt_5068e 11 = .ok (.iload_n 1, 1) := by decide +kernel
theorem dJ0_charAt_5068e_12 : decode cJ0_charAt_5068e 12 = .ok (.invokestatic 495, 3) := by decide +kernel
theorem dJ0_charAt_5068e_15 : decode cJ0_charAt_5068e 15 = .ok (.ireturn, 1) := by decide +kernel
theorem dJ0_charAt_5068e_16 : decode cJ0_charAt_5068e 16 = .ok (.aload_n 0, 1) := by decide +kernel
theorem dJ0_charAt_5068e_17 : decode cJ0_charAt_5068e 17 = .ok (.getfield 9, 3) := by decide +kernel
theorem dJ0_charAt_5068e_20 : decode cJ0_charAt_5068e 20 = .ok (.iload_n 1, 1) := by decide +kernel
theorem dJ0_charAt_5068e_21 : decode cJ0_charAt_5068e 21 = .ok (.invokestatic 498, 3) := by decide +kernel
theorem dJ0_charAt_5068e_24 : decode cJ0_charAt_5068e 24 = .ok (.ireturn, 1) := by decide +kernel
theorem dJ0_coder_7d493_0 : decode cJ0_coder_7d493 0 = .ok (.getstatic 38, 3) := by decide +kernel
theorem dJ0_coder_7d493_3 : decode cJ0_coder_7d493 3 = .ok (.ifCond .eq 10, 3) := by decide +kernel
theorem dJ0_coder_7d493_6 : decode cJ0_coder_7d493 6 = .ok (.aload_n 0, 1) := by decide +kernel
theorem dJ0_coder_7d493_7 : decode cJ0_coder_7d493 7 = .ok (.getfield 15, 3) := by decide +kernel
theorem dJ0_coder_7d493_10 : decode cJ0_coder_7d493 10 = .ok (.goto 4, 3) := by decide +kernel
theorem dJ0_coder_7d493_13 : decode cJ0_coder_7d493 13 = .ok (.iconst 1, 1) := by decide +kernel
theorem dJ0_coder_7d493_14 : decode cJ0_coder_7d493 14 = .ok (.ireturn, 1) := by decide +kernel
theorem dJ0_isLatin1_aae02_0 : decode cJ0_isLatin1_aae02 0 = .ok (.getstatic 38, 3) := by decide +kernel
theorem dJ0_isLatin1_aae02_3 : decode cJ0_isLatin1_aae02 3 = .ok (.ifCond .eq 14, 3) := by decide +kernel
theorem dJ0_isLatin1_aae02_6 : decode cJ0_isLatin1_aae02 6 = .ok (.aload_n 0, 1) := by decide +kernel
theorem dJ0_isLatin1_aae02_7 : decode cJ0_isLatin1_aae02 7 = .ok (.getfield 15, 3) := by decide +kernel
theorem dJ0_isLatin1_aae02_10 : decode cJ0_isLatin1_aae02 10 = .ok (.ifCond .ne 7, 3) := by decide +kernel
theorem dJ0_isLatin1_aae02_13 : decode cJ0_isLatin1_aae02 13 = .ok (.iconst 1, 1) := by decide +kernel
theorem dJ0_isLatin1_aae02_14 : decode cJ0_isLatin1_aae02 14 = .ok (.goto 4, 3) := by decide +kernel
theorem dJ0_isLatin1_aae02_17 : decode cJ0_isLatin1_aae02 17 = .ok (.iconst 0, 1) := by decide +kernel
theorem dJ0_isLatin1_aae02_18 : decode cJ0_isLatin1_aae02 18 = .ok (.ireturn, 1) := by decide +kernel
theorem dJ0_checkIndex_df160_0 : decode cJ0_checkIndex_df160 0 = .ok (.iload_n 0, 1) := by decide +kernel
theorem dJ0_checkIndex_df160_1 : decode cJ0_checkIndex_df160 1 = .ok (.iload_n 1, 1) := by decide +kernel
theorem dJ0_checkIndex_df160_2 : decode cJ0_checkIndex_df160 2 = .ok (.getstatic 1053, 3) := by decide +kernel
theorem dJ0_checkIndex_df160_5 : decode cJ0_checkIndex_df160 5 = .ok (.invokestatic 1059, 3) := by decide +kernel
theorem dJ0_checkIndex_df160_8 : decode cJ0_checkIndex_df160 8 = .ok (.pop, 1) := by decide +kernel
theorem dJ0_checkIndex_df160_9 : decode cJ0_checkIndex_df160 9 = .ok (.return_, 1) := by decide +kernel
theorem dJ1_charAt_3b067_0 : decode cJ1_charAt_3b067 0 = .ok (.iload_n 1, 1) := by decide +kernel
theorem dJ1_charAt_3b067_1 : decode cJ1_charAt_3b067 1 = .ok (.aload_n 0, 1) := by decide +kernel
theorem dJ1_charAt_3b067_2 : decode cJ1_charAt_3b067 2 = .ok (.arraylength, 1) := by decide +kernel
theorem dJ1_charAt_3b067_3 : decode cJ1_charAt_3b067 3 = .ok (.invokestatic 9, 3) := by decide +kernel
theorem dJ1_charAt_3b067_6 : decode cJ1_charAt_3b067 6 = .ok (.aload_n 0, 1) := by decide +kernel
theorem dJ1_charAt_3b067_7 : decode cJ1_charAt_3b067 7 = .ok (.iload_n 1, 1) := by decide +kernel
theorem dJ1_charAt_3b067_8 : decode cJ1_charAt_3b067 8 = .ok (.baload, 1) := by decide +kernel
theorem dJ1_charAt_3b067_9 : decode cJ1_charAt_3b067 9 = .ok (.sipush 255, 3) := by decide +kernel
theorem dJ1_charAt_3b067_12 : decode cJ1_charAt_3b067 12 = .ok (.iand, 1) := by decide +kernel
theorem dJ1_charAt_3b067_13 : decode cJ1_charAt_3b067 13 = .ok (.i2c, 1) := by decide +kernel
theorem dJ1_charAt_3b067_14 : decode cJ1_charAt_3b067 14 = .ok (.ireturn, 1) := by decide +kernel
theorem dJ2_getChar_3b067_0 : decode cJ2_getChar_3b067 0 = .ok (.getstatic 44, 3) := by decide +kernel
theorem dJ2_getChar_3b067_3 : decode cJ2_getChar_3b067 3 = .ok (.ifCond .ne 25, 3) := by decide +kernel
theorem dJ2_getChar_3b067_6 : decode cJ2_getChar_3b067 6 = .ok (.iload_n 1, 1) := by decide +kernel
theorem dJ2_getChar_3b067_7 : decode cJ2_getChar_3b067 7 = .ok (.ifCond .lt 11, 3) := by decide +kernel
theorem dJ2_getChar_3b067_10 : decode cJ2_getChar_3b067 10 = .ok (.iload_n 1, 1) := by decide +kernel
theorem dJ2_getChar_3b067_11 : decode cJ2_getChar_3b067 11 = .ok (.aload_n 0, 1) := by decide +kernel
theorem dJ2_getChar_3b067_12 : decode cJ2_getChar_3b067 12 = .ok (.invokestatic 48, 3) := by decide +kernel
theorem dJ2_getChar_3b067_15 : decode cJ2_getChar_3b067 15 = .ok (.if_icmp .lt 13, 3) := by decide +kernel
theorem dJ2_getChar_3b067_18 : decode cJ2_getChar_3b067 18 = .ok (.new 52, 3) := by decide +kernel
theorem dJ2_getChar_3b067_21 : decode cJ2_getChar_3b067 21 = .ok (.dup, 1) := by decide +kernel
theorem dJ2_getChar_3b067_22 : decode cJ2_getChar_3b067 22 = .ok (.ldc 54, 2) := by decide +kernel
theorem dJ2_getChar_3b067_24 : decode cJ2_getChar_3b067 24 = .ok (.invokespecial 56, 3) := by decide +kernel
theorem dJ2_getChar_3b067_27 : decode cJ2_getChar_3b067 27 = .ok (.athrow, 1) := by decide +kernel
theorem dJ2_getChar_3b067_28 : decode cJ2_getChar_3b067 28 = .ok (.iload_n 1, 1) := by decide +kernel
theorem dJ2_getChar_3b067_29 : decode cJ2_getChar_3b067 29 = .ok (.iconst 1, 1) := by decide +kernel
theorem dJ2_getChar_3b067_30 : decode cJ2_getChar_3b067 30 = .ok (.ishl, 1) := by decide +kernel
theorem dJ2_getChar_3b067_31 : decode cJ2_getChar_3b067 31 = .ok (.istore_n 1, 1) := by decide +kernel
theorem dJ2_getChar_3b067_32 : decode cJ2_getChar_3b067 32 = .ok (.aload_n 0, 1) := by decide +kernel
theorem dJ2_getChar_3b067_33 : decode cJ2_getChar_3b067 33 = .ok (.iload_n 1, 1) := by decide +kernel
theorem dJ2_getChar_3b067_34 : decode cJ2_getChar_3b067 34 = .ok (.iinc 1 1, 3) := by decide +kernel
theorem dJ2_getChar_3b067_37 : decode cJ2_getChar_3b067 37 = .ok (.baload, 1) := by decide +kernel
theorem dJ2_getChar_3b067_38 : decode cJ2_getChar_3b067 38 = .ok (.sipush 255, 3) := by decide +kernel
theorem dJ2_getChar_3b067_41 : decode cJ2_getChar_3b067 41 = .ok (.iand, 1) := by decide +kernel
theorem dJ2_getChar_3b067_42 : decode cJ2_getChar_3b067 42 = .ok (.getstatic 59, 3) := by decide +kernel
theorem dJ2_getChar_3b067_45 : decode cJ2_getChar_3b067 45 = .ok (.ishl, 1) := by decide +kernel
theorem dJ2_getChar_3b067_46 : decode cJ2_getChar_3b067 46 = .ok (.aload_n 0, 1) := by decide +kernel
theorem dJ2_getChar_3b067_47 : decode cJ2_getChar_3b067 47 = .ok (.iload_n 1, 1) := by decide +kernel
theorem dJ2_getChar_3b067_48 : decode cJ2_getChar_3b067 48 = .ok (.baload, 1) := by decide +kernel
theorem dJ2_getChar_3b067_49 : decode cJ2_getChar_3b067 49 = .ok (.sipush 255, 3) := by decide +kernel
theorem dJ2_getChar_3b067_52 : decode cJ2_getChar_3b067 52 = .ok (.iand, 1) := by decide +kernel
theorem dJ2_getChar_3b067_53 : decode cJ2_getChar_3b067 53 = .ok (.getstatic 63, 3) := by decide +kernel
theorem dJ2_getChar_3b067_56 : decode cJ2_getChar_3b067 56 = .ok (.ishl, 1) := by decide +kernel
theorem dJ2_getChar_3b067_57 : decode cJ2_getChar_3b067 57 = .ok (.ior, 1) := by decide +kernel
theorem dJ2_getChar_3b067_58 : decode cJ2_getChar_3b067 58 = .ok (.i2c, 1) := by decide +kernel
theorem dJ2_getChar_3b067_59 : decode cJ2_getChar_3b067 59 = .ok (.ireturn, 1) := by decide +kernel
theorem dJ2_length_9d52b_0 : decode cJ2_length_9d52b 0 = .ok (.aload_n 0, 1) := by decide +kernel
theorem dJ2_length_9d52b_1 : decode cJ2_length_9d52b 1 = .ok (.arraylength, 1) := by decide +kernel
theorem dJ2_length_9d52b_2 : decode cJ2_length_9d52b 2 = .ok (.iconst 1, 1) := by decide +kernel
theorem dJ2_length_9d52b_3 : decode cJ2_length_9d52b 3 = .ok (.ishr, 1) := by decide +kernel
theorem dJ2_length_9d52b_4 : decode cJ2_length_9d52b 4 = .ok (.ireturn, 1) := by decide +kernel
theorem dJ2_charAt_3b067_0 : decode cJ2_charAt_3b067 0 = .ok (.iload_n 1, 1) := by decide +kernel
theorem dJ2_charAt_3b067_1 : decode cJ2_charAt_3b067 1 = .ok (.aload_n 0, 1) := by decide +kernel
theorem dJ2_charAt_3b067_2 : decode cJ2_charAt_3b067 2 = .ok (.invokestatic 67, 3) := by decide +kernel
theorem dJ2_charAt_3b067_5 : decode cJ2_charAt_3b067 5 = .ok (.aload_n 0, 1) := by decide +kernel
theorem dJ2_charAt_3b067_6 : decode cJ2_charAt_3b067 6 = .ok (.iload_n 1, 1) := by decide +kernel
theorem dJ2_charAt_3b067_7 : decode cJ2_charAt_3b067 7 = .ok (.invokestatic 71, 3) := by decide +kernel
theorem dJ2_charAt_3b067_10 : decode cJ2_charAt_3b067 10 = .ok (.ireturn, 1) := by decide +kernel
theorem dJ2_checkIndex_2214a_0 : decode cJ2_checkIndex_2214a 0 = .ok (.iload_n 0, 1) := by decide +kernel
theorem dJ2_checkIndex_2214a_1 : decode cJ2_checkIndex_2214a 1 = .ok (.aload_n 1, 1) := by decide +kernel
theorem dJ2_checkIndex_2214a_2 : decode cJ2_checkIndex_2214a 2 = .ok (.invokestatic 48, 3) := by decide +kernel
theorem dJ2_checkIndex_2214a_5 : decode cJ2_checkIndex_2214a 5 = .ok (.invokestatic 414, 3) := by decide +kernel
theorem dJ2_checkIndex_2214a_8 : decode cJ2_checkIndex_2214a 8 = .ok (.return_, 1) := by decide +kernel
theorem dJ7_fill_53178_0 : decode cJ7_fill_53178 0 = .ok (.iconst 0, 1) := by decide +kernel
theorem dJ7_fill_53178_1 : decode cJ7_fill_53178 1 = .ok (.istore_n 2, 1) := by decide +kernel
theorem dJ7_fill_53178_2 : decode cJ7_fill_53178 2 = .ok (.aload_n 0, 1) := by decide +kernel
theorem dJ7_fill_53178_3 : decode cJ7_fill_53178 3 = .ok (.arraylength, 1) := by decide +kernel
theorem dJ7_fill_53178_4 : decode cJ7_fill_53178 4 = .ok (.istore_n 3, 1) := by decide +kernel
theorem dJ7_fill_53178_5 : decode cJ7_fill_53178 5 = .ok (.iload_n 2, 1) := by decide +kernel
theorem dJ7_fill_53178_6 : decode cJ7_fill_53178 6 = .ok (.iload_n 3, 1) := by decide +kernel
theorem dJ7_fill_53178_7 : decode cJ7_fill_53178 7 = .ok (.if_icmp .ge 13, 3) := by decide +kernel
theorem dJ7_fill_53178_10 : decode cJ7_fill_53178 10 = .ok (.aload_n 0, 1) := by decide +kernel
theorem dJ7_fill_53178_11 : decode cJ7_fill_53178 11 = .ok (.iload_n 2, 1) := by decide +kernel
theorem dJ7_fill_53178_12 : decode cJ7_fill_53178 12 = .ok (.iload_n 1, 1) := by decide +kernel
theorem dJ7_fill_53178_13 : decode cJ7_fill_53178 13 = .ok (.iastore, 1) := by decide +kernel
theorem dJ7_fill_53178_14 : decode cJ7_fill_53178 14 = .ok (.iinc 2 1, 3) := by decide +kernel
theorem dJ7_fill_53178_17 : decode cJ7_fill_53178 17 = .ok (.goto (-12), 3) := by decide +kernel
theorem dJ7_fill_53178_20 : decode cJ7_fill_53178 20 = .ok (.return_, 1) := by decide +kernel
theorem dJ7_copyOf_59c91_0 : decode cJ7_copyOf_59c91 0 = .ok (.iload_n 1, 1) := by decide +kernel
theorem dJ7_copyOf_59c91_1 : decode cJ7_copyOf_59c91 1 = .ok (.aload_n 0, 1) := by decide +kernel
theorem dJ7_copyOf_59c91_2 : decode cJ7_copyOf_59c91 2 = .ok (.arraylength, 1) := by decide +kernel
theorem dJ7_copyOf_59c91_3 : decode cJ7_copyOf_59c91 3 = .ok (.if_icmp .ne 11, 3) := by decide +kernel
theorem dJ7_copyOf_59c91_6 : decode cJ7_copyOf_59c91 6 = .ok (.aload_n 0, 1) := by decide +kernel
theorem dJ7_copyOf_59c91_7 : decode cJ7_copyOf_59c91 7 = .ok (.invokevirtual 316, 3) := by decide +kernel
theorem dJ7_copyOf_59c91_10 : decode cJ7_copyOf_59c91 10 = .ok (.checkcast 317, 3) := by decide +kernel
theorem dJ7_copyOf_59c91_13 : decode cJ7_copyOf_59c91 13 = .ok (.areturn, 1) := by decide +kernel
theorem dJ7_copyOf_59c91_14 : decode cJ7_copyOf_59c91 14 = .ok (.iload_n 1, 1) := by decide +kernel
theorem dJ7_copyOf_59c91_15 : decode cJ7_copyOf_59c91 15 = .ok (.newarray .int, 2) := by decide +kernel
theorem dJ7_copyOf_59c91_17 : decode cJ7_copyOf_59c91 17 = .ok (.astore_n 2, 1) := by decide +kernel
theorem dJ7_copyOf_59c91_18 : decode cJ7_copyOf_59c91 18 = .ok (.aload_n 0, 1) := by decide +kernel
theorem dJ7_copyOf_59c91_19 : decode cJ7_copyOf_59c91 19 = .ok (.iconst 0, 1) := by decide +kernel
theorem dJ7_copyOf_59c91_20 : decode cJ7_copyOf_59c91 20 = .ok (.aload_n 2, 1) := by decide +kernel
theorem dJ7_copyOf_59c91_21 : decode cJ7_copyOf_59c91 21 = .ok (.iconst 0, 1) := by decide +kernel
theorem dJ7_copyOf_59c91_22 : decode cJ7_copyOf_59c91 22 = .ok (.aload_n 0, 1) := by decide +kernel
theorem dJ7_copyOf_59c91_23 : decode cJ7_copyOf_59c91 23 = .ok (.arraylength, 1) := by decide +kernel
theorem dJ7_copyOf_59c91_24 : decode cJ7_copyOf_59c91 24 = .ok (.iload_n 1, 1) := by decide +kernel
theorem dJ7_copyOf_59c91_25 : decode cJ7_copyOf_59c91 25 = .ok (.invokestatic 304, 3) := by decide +kernel
theorem dJ7_copyOf_59c91_28 : decode cJ7_copyOf_59c91 28 = .ok (.invokestatic 150, 3) := by decide +kernel
theorem dJ7_copyOf_59c91_31 : decode cJ7_copyOf_59c91 31 = .ok (.aload_n 2, 1) := by decide +kernel
theorem dJ7_copyOf_59c91_32 : decode cJ7_copyOf_59c91 32 = .ok (.areturn, 1) := by decide +kernel
theorem dJ7_copyOf_c38d5_0 : decode cJ7_copyOf_c38d5 0 = .ok (.iload_n 1, 1) := by decide +kernel
theorem dJ7_copyOf_c38d5_1 : decode cJ7_copyOf_c38d5 1 = .ok (.aload_n 0, 1) := by decide +kernel
theorem dJ7_copyOf_c38d5_2 : decode cJ7_copyOf_c38d5 2 = .ok (.arraylength, 1) := by decide +kernel
theorem dJ7_copyOf_c38d5_3 : decode cJ7_copyOf_c38d5 3 = .ok (.if_icmp .ne 11, 3) := by decide +kernel
theorem dJ7_copyOf_c38d5_6 : decode cJ7_copyOf_c38d5 6 = .ok (.aload_n 0, 1) := by decide +kernel
theorem dJ7_copyOf_c38d5_7 : decode cJ7_copyOf_c38d5 7 = .ok (.invokevirtual 319, 3) := by decide +kernel
theorem dJ7_copyOf_c38d5_10 : decode cJ7_copyOf_c38d5 10 = .ok (.checkcast 320, 3) := by decide +kernel
theorem dJ7_copyOf_c38d5_13 : decode cJ7_copyOf_c38d5 13 = .ok (.areturn, 1) := by decide +kernel
theorem dJ7_copyOf_c38d5_14 : decode cJ7_copyOf_c38d5 14 = .ok (.iload_n 1, 1) := by decide +kernel
theorem dJ7_copyOf_c38d5_15 : decode cJ7_copyOf_c38d5 15 = .ok (.newarray .long, 2) := by decide +kernel
theorem dJ7_copyOf_c38d5_17 : decode cJ7_copyOf_c38d5 17 = .ok (.astore_n 2, 1) := by decide +kernel
theorem dJ7_copyOf_c38d5_18 : decode cJ7_copyOf_c38d5 18 = .ok (.aload_n 0, 1) := by decide +kernel
theorem dJ7_copyOf_c38d5_19 : decode cJ7_copyOf_c38d5 19 = .ok (.iconst 0, 1) := by decide +kernel
theorem dJ7_copyOf_c38d5_20 : decode cJ7_copyOf_c38d5 20 = .ok (.aload_n 2, 1) := by decide +kernel
theorem dJ7_copyOf_c38d5_21 : decode cJ7_copyOf_c38d5 21 = .ok (.iconst 0, 1) := by decide +kernel
theorem dJ7_copyOf_c38d5_22 : decode cJ7_copyOf_c38d5 22 = .ok (.aload_n 0, 1) := by decide +kernel
theorem dJ7_copyOf_c38d5_23 : decode cJ7_copyOf_c38d5 23 = .ok (.arraylength, 1) := by decide +kernel
theorem dJ7_copyOf_c38d5_24 : decode cJ7_copyOf_c38d5 24 = .ok (.iload_n 1, 1) := by decide +kernel
theorem dJ7_copyOf_c38d5_25 : decode cJ7_copyOf_c38d5 25 = .ok (.invokestatic 304, 3) := by decide +kernel
theorem dJ7_copyOf_c38d5_28 : decode cJ7_copyOf_c38d5 28 = .ok (.invokestatic 150, 3) := by decide +kernel
theorem dJ7_copyOf_c38d5_31 : decode cJ7_copyOf_c38d5 31 = .ok (.aload_n 2, 1) := by decide +kernel
theorem dJ7_copyOf_c38d5_32 : decode cJ7_copyOf_c38d5 32 = .ok (.areturn, 1) := by decide +kernel
theorem dJ3_checkIndex_8e157_0 : decode cJ3_checkIndex_8e157 0 = .ok (.iload_n 0, 1) := by decide +kernel
theorem dJ3_checkIndex_8e157_1 : decode cJ3_checkIndex_8e157 1 = .ok (.ifCond .lt 8, 3) := by decide +kernel
theorem dJ3_checkIndex_8e157_4 : decode cJ3_checkIndex_8e157 4 = .ok (.iload_n 0, 1) := by decide +kernel
theorem dJ3_checkIndex_8e157_5 : decode cJ3_checkIndex_8e157 5 = .ok (.iload_n 1, 1) := by decide +kernel
theorem dJ3_checkIndex_8e157_6 : decode cJ3_checkIndex_8e157 6 = .ok (.if_icmp .lt 10, 3) := by decide +kernel
theorem dJ3_checkIndex_8e157_9 : decode cJ3_checkIndex_8e157 9 = .ok (.aload_n 2, 1) := by decide +kernel
theorem dJ3_checkIndex_8e157_10 : decode cJ3_checkIndex_8e157 10 = .ok (.iload_n 0, 1) := by decide +kernel
theorem dJ3_checkIndex_8e157_11 : decode cJ3_checkIndex_8e157 11 = .ok (.iload_n 1, 1) := by decide +kernel
theorem dJ3_checkIndex_8e157_12 : decode cJ3_checkIndex_8e157 12 = .ok (.invokestatic 95, 3) := by decide +kernel
theorem dJ3_checkIndex_8e157_15 : decode cJ3_checkIndex_8e157 15 = .ok (.athrow, 1) := by decide +kernel
theorem dJ3_checkIndex_8e157_16 : decode cJ3_checkIndex_8e157 16 = .ok (.iload_n 0, 1) := by decide +kernel
theorem dJ3_checkIndex_8e157_17 : decode cJ3_checkIndex_8e157 17 = .ok (.ireturn, 1) := by decide +kernel
theorem dL_law_0 : decode cL_law 0 = .ok (.new 7, 3) := by decide +kernel
theorem dL_law_3 : decode cL_law 3 = .ok (.dup, 1) := by decide +kernel
theorem dL_law_4 : decode cL_law 4 = .ok (.invokespecial 9, 3) := by decide +kernel
theorem dL_law_7 : decode cL_law 7 = .ok (.astore_n 1, 1) := by decide +kernel
theorem dL_law_8 : decode cL_law 8 = .ok (.new 10, 3) := by decide +kernel
theorem dL_law_11 : decode cL_law 11 = .ok (.dup, 1) := by decide +kernel
theorem dL_law_12 : decode cL_law 12 = .ok (.invokespecial 12, 3) := by decide +kernel
theorem dL_law_15 : decode cL_law 15 = .ok (.astore_n 2, 1) := by decide +kernel
theorem dL_law_16 : decode cL_law 16 = .ok (.iconst 0, 1) := by decide +kernel
theorem dL_law_17 : decode cL_law 17 = .ok (.istore_n 3, 1) := by decide +kernel
theorem dL_law_18 : decode cL_law 18 = .ok (.iload_n 3, 1) := by decide +kernel
theorem dL_law_19 : decode cL_law 19 = .ok (.aload_n 0, 1) := by decide +kernel
theorem dL_law_20 : decode cL_law 20 = .ok (.arraylength, 1) := by decide +kernel
theorem dL_law_21 : decode cL_law 21 = .ok (.bipush 6, 2) := by decide +kernel
theorem dL_law_23 : decode cL_law 23 = .ok (.isub, 1) := by decide +kernel
theorem dL_law_24 : decode cL_law 24 = .ok (.if_icmp .gt 548, 3) := by decide +kernel
theorem dL_law_27 : decode cL_law 27 = .ok (.aload_n 0, 1) := by decide +kernel
theorem dL_law_28 : decode cL_law 28 = .ok (.iload_n 3, 1) := by decide +kernel
theorem dL_law_29 : decode cL_law 29 = .ok (.iaload, 1) := by decide +kernel
theorem dL_law_30 : decode cL_law 30 = .ok (.bipush 15, 2) := by decide +kernel
theorem dL_law_32 : decode cL_law 32 = .ok (.iand, 1) := by decide +kernel
theorem dL_law_33 : decode cL_law 33 = .ok (.tableswitch 533 0 13 #[71, 134, 157, 180, 203, 246, 283, 296, 319, 352, 385, 408, 467, 510], 71) := by decide +kernel
theorem dL_law_104 : decode cL_law 104 = .ok (.aload_n 1, 1) := by decide +kernel
theorem dL_law_105 : decode cL_law 105 = .ok (.aload_n 0, 1) := by decide +kernel
theorem dL_law_106 : decode cL_law 106 = .ok (.iload_n 3, 1) := by decide +kernel
theorem dL_law_107 : decode cL_law 107 = .ok (.iconst 1, 1) := by decide +kernel
theorem dL_law_108 : decode cL_law 108 = .ok (.iadd, 1) := by decide +kernel
theorem dL_law_109 : decode cL_law 109 = .ok (.iaload, 1) := by decide +kernel
theorem dL_law_110 : decode cL_law 110 = .ok (.aload_n 0, 1) := by decide +kernel
theorem dL_law_111 : decode cL_law 111 = .ok (.iload_n 3, 1) := by decide +kernel
theorem dL_law_112 : decode cL_law 112 = .ok (.iconst 2, 1) := by decide +kernel
theorem dL_law_113 : decode cL_law 113 = .ok (.iadd, 1) := by decide +kernel
theorem dL_law_114 : decode cL_law 114 = .ok (.iaload, 1) := by decide +kernel
theorem dL_law_115 : decode cL_law 115 = .ok (.aload_n 0, 1) := by decide +kernel
theorem dL_law_116 : decode cL_law 116 = .ok (.iload_n 3, 1) := by decide +kernel
theorem dL_law_117 : decode cL_law 117 = .ok (.iconst 3, 1) := by decide +kernel
theorem dL_law_118 : decode cL_law 118 = .ok (.iadd, 1) := by decide +kernel
theorem dL_law_119 : decode cL_law 119 = .ok (.iaload, 1) := by decide +kernel
theorem dL_law_120 : decode cL_law 120 = .ok (.aload_n 0, 1) := by decide +kernel
theorem dL_law_121 : decode cL_law 121 = .ok (.iload_n 3, 1) := by decide +kernel
theorem dL_law_122 : decode cL_law 122 = .ok (.iconst 4, 1) := by decide +kernel
theorem dL_law_123 : decode cL_law 123 = .ok (.iadd, 1) := by decide +kernel
theorem dL_law_124 : decode cL_law 124 = .ok (.iaload, 1) := by decide +kernel
theorem dL_law_125 : decode cL_law 125 = .ok (.aload_n 0, 1) := by decide +kernel
theorem dL_law_126 : decode cL_law 126 = .ok (.iload_n 3, 1) := by decide +kernel
theorem dL_law_127 : decode cL_law 127 = .ok (.iconst 5, 1) := by decide +kernel
theorem dL_law_128 : decode cL_law 128 = .ok (.iadd, 1) := by decide +kernel
theorem dL_law_129 : decode cL_law 129 = .ok (.iaload, 1) := by decide +kernel
theorem dL_law_130 : decode cL_law 130 = .ok (.invokevirtual 13, 3) := by decide +kernel
theorem dL_law_133 : decode cL_law 133 = .ok (.aload_n 2, 1) := by decide +kernel
theorem dL_law_134 : decode cL_law 134 = .ok (.aload_n 0, 1) := by decide +kernel
theorem dL_law_135 : decode cL_law 135 = .ok (.iload_n 3, 1) := by decide +kernel
theorem dL_law_136 : decode cL_law 136 = .ok (.iconst 1, 1) := by decide +kernel
theorem dL_law_137 : decode cL_law 137 = .ok (.iadd, 1) := by decide +kernel
theorem dL_law_138 : decode cL_law 138 = .ok (.iaload, 1) := by decide +kernel
theorem dL_law_139 : decode cL_law 139 = .ok (.aload_n 0, 1) := by decide +kernel
theorem dL_law_140 : decode cL_law 140 = .ok (.iload_n 3, 1) := by decide +kernel
theorem dL_law_141 : decode cL_law 141 = .ok (.iconst 2, 1) := by decide +kernel
theorem dL_law_142 : decode cL_law 142 = .ok (.iadd, 1) := by decide +kernel
theorem dL_law_143 : decode cL_law 143 = .ok (.iaload, 1) := by decide +kernel
theorem dL_law_144 : decode cL_law 144 = .ok (.aload_n 0, 1) := by decide +kernel
theorem dL_law_145 : decode cL_law 145 = .ok (.iload_n 3, 1) := by decide +kernel
theorem dL_law_146 : decode cL_law 146 = .ok (.iconst 3, 1) := by decide +kernel
theorem dL_law_147 : decode cL_law 147 = .ok (.iadd, 1) := by decide +kernel
theorem dL_law_148 : decode cL_law 148 = .ok (.iaload, 1) := by decide +kernel
theorem dL_law_149 : decode cL_law 149 = .ok (.aload_n 0, 1) := by decide +kernel
theorem dL_law_150 : decode cL_law 150 = .ok (.iload_n 3, 1) := by decide +kernel
theorem dL_law_151 : decode cL_law 151 = .ok (.iconst 4, 1) := by decide +kernel
theorem dL_law_152 : decode cL_law 152 = .ok (.iadd, 1) := by decide +kernel
theorem dL_law_153 : decode cL_law 153 = .ok (.iaload, 1) := by decide +kernel
theorem dL_law_154 : decode cL_law 154 = .ok (.aload_n 0, 1) := by decide +kernel
theorem dL_law_155 : decode cL_law 155 = .ok (.iload_n 3, 1) := by decide +kernel
theorem dL_law_156 : decode cL_law 156 = .ok (.iconst 5, 1) := by decide +kernel
theorem dL_law_157 : decode cL_law 157 = .ok (.iadd, 1) := by decide +kernel
theorem dL_law_158 : decode cL_law 158 = .ok (.iaload, 1) := by decide +kernel
theorem dL_law_159 : decode cL_law 159 = .ok (.invokevirtual 17, 3) := by decide +kernel
theorem dL_law_162 : decode cL_law 162 = .ok (.if_icmp .eq 404, 3) := by decide +kernel
theorem dL_law_165 : decode cL_law 165 = .ok (.iconst 0, 1) := by decide +kernel
theorem dL_law_166 : decode cL_law 166 = .ok (.ireturn, 1) := by decide +kernel
theorem dL_law_167 : decode cL_law 167 = .ok (.aload_n 1, 1) := by decide +kernel
theorem dL_law_168 : decode cL_law 168 = .ok (.aload_n 0, 1) := by decide +kernel
theorem dL_law_169 : decode cL_law 169 = .ok (.iload_n 3, 1) := by decide +kernel
theorem dL_law_170 : decode cL_law 170 = .ok (.iconst 1, 1) := by decide +kernel
theorem dL_law_171 : decode cL_law 171 = .ok (.iadd, 1) := by decide +kernel
theorem dL_law_172 : decode cL_law 172 = .ok (.iaload, 1) := by decide +kernel
theorem dL_law_173 : decode cL_law 173 = .ok (.invokevirtual 18, 3) := by decide +kernel
theorem dL_law_176 : decode cL_law 176 = .ok (.aload_n 2, 1) := by decide +kernel
theorem dL_law_177 : decode cL_law 177 = .ok (.aload_n 0, 1) := by decide +kernel
theorem dL_law_178 : decode cL_law 178 = .ok (.iload_n 3, 1) := by decide +kernel
theorem dL_law_179 : decode cL_law 179 = .ok (.iconst 1, 1) := by decide +kernel
theorem dL_law_180 : decode cL_law 180 = .ok (.iadd, 1) := by decide +kernel
theorem dL_law_181 : decode cL_law 181 = .ok (.iaload, 1) := by decide +kernel
theorem dL_law_182 : decode cL_law 182 = .ok (.invokevirtual 22, 3) := by decide +kernel
theorem dL_law_185 : decode cL_law 185 = .ok (.if_icmp .eq 381, 3) := by decide +kernel
theorem dL_law_188 : decode cL_law 188 = .ok (.iconst 0, 1) := by decide +kernel
theorem dL_law_189 : decode cL_law 189 = .ok (.ireturn, 1) := by decide +kernel
theorem dL_law_190 : decode cL_law 190 = .ok (.aload_n 1, 1) := by decide +kernel
theorem dL_law_191 : decode cL_law 191 = .ok (.aload_n 0, 1) := by decide +kernel
theorem dL_law_192 : decode cL_law 192 = .ok (.iload_n 3, 1) := by decide +kernel
theorem dL_law_193 : decode cL_law 193 = .ok (.iconst 1, 1) := by decide +kernel
theorem dL_law_194 : decode cL_law 194 = .ok (.iadd, 1) := by decide +kernel
theorem dL_law_195 : decode cL_law 195 = .ok (.iaload, 1) := by decide +kernel
theorem dL_law_196 : decode cL_law 196 = .ok (.invokevirtual 23, 3) := by decide +kernel
theorem dL_law_199 : decode cL_law 199 = .ok (.aload_n 2, 1) := by decide +kernel
theorem dL_law_200 : decode cL_law 200 = .ok (.aload_n 0, 1) := by decide +kernel
theorem dL_law_201 : decode cL_law 201 = .ok (.iload_n 3, 1) := by decide +kernel
theorem dL_law_202 : decode cL_law 202 = .ok (.iconst 1, 1) := by decide +kernel
theorem dL_law_203 : decode cL_law 203 = .ok (.iadd, 1) := by decide +kernel
theorem dL_law_204 : decode cL_law 204 = .ok (.iaload, 1) := by decide +kernel
theorem dL_law_205 : decode cL_law 205 = .ok (.invokevirtual 26, 3) := by decide +kernel
theorem dL_law_208 : decode cL_law 208 = .ok (.if_icmp .eq 358, 3) := by decide +kernel
theorem dL_law_211 : decode cL_law 211 = .ok (.iconst 0, 1) := by decide +kernel
theorem dL_law_212 : decode cL_law 212 = .ok (.ireturn, 1) := by decide +kernel
theorem dL_law_213 : decode cL_law 213 = .ok (.aload_n 1, 1) := by decide +kernel
theorem dL_law_214 : decode cL_law 214 = .ok (.aload_n 0, 1) := by decide +kernel
theorem dL_law_215 : decode cL_law 215 = .ok (.iload_n 3, 1) := by decide +kernel
theorem dL_law_216 : decode cL_law 216 = .ok (.iconst 1, 1) := by decide +kernel
theorem dL_law_217 : decode cL_law 217 = .ok (.iadd, 1) := by decide +kernel
theorem dL_law_218 : decode cL_law 218 = .ok (.iaload, 1) := by decide +kernel
theorem dL_law_219 : decode cL_law 219 = .ok (.invokevirtual 27, 3) := by decide +kernel
theorem dL_law_222 : decode cL_law 222 = .ok (.aload_n 2, 1) := by decide +kernel
theorem dL_law_223 : decode cL_law 223 = .ok (.aload_n 0, 1) := by decide +kernel
theorem dL_law_224 : decode cL_law 224 = .ok (.iload_n 3, 1) := by decide +kernel
theorem dL_law_225 : decode cL_law 225 = .ok (.iconst 1, 1) := by decide +kernel
theorem dL_law_226 : decode cL_law 226 = .ok (.iadd, 1) := by decide +kernel
theorem dL_law_227 : decode cL_law 227 = .ok (.iaload, 1) := by decide +kernel
theorem dL_law_228 : decode cL_law 228 = .ok (.invokevirtual 30, 3) := by decide +kernel
theorem dL_law_231 : decode cL_law 231 = .ok (.if_icmp .eq 335, 3) := by decide +kernel
theorem dL_law_234 : decode cL_law 234 = .ok (.iconst 0, 1) := by decide +kernel
theorem dL_law_235 : decode cL_law 235 = .ok (.ireturn, 1) := by decide +kernel
theorem dL_law_236 : decode cL_law 236 = .ok (.aload_n 1, 1) := by decide +kernel
theorem dL_law_237 : decode cL_law 237 = .ok (.aload_n 0, 1) := by decide +kernel
theorem dL_law_238 : decode cL_law 238 = .ok (.iload_n 3, 1) := by decide +kernel
theorem dL_law_239 : decode cL_law 239 = .ok (.iconst 1, 1) := by decide +kernel
theorem dL_law_240 : decode cL_law 240 = .ok (.iadd, 1) := by decide +kernel
theorem dL_law_241 : decode cL_law 241 = .ok (.iaload, 1) := by decide +kernel
theorem dL_law_242 : decode cL_law 242 = .ok (.aload_n 0, 1) := by decide +kernel
theorem dL_law_243 : decode cL_law 243 = .ok (.iload_n 3, 1) := by decide +kernel
theorem dL_law_244 : decode cL_law 244 = .ok (.iconst 2, 1) := by decide +kernel
theorem dL_law_245 : decode cL_law 245 = .ok (.iadd, 1) := by decide +kernel
theorem dL_law_246 : decode cL_law 246 = .ok (.iaload, 1) := by decide +kernel
theorem dL_law_247 : decode cL_law 247 = .ok (.aload_n 0, 1) := by decide +kernel
theorem dL_law_248 : decode cL_law 248 = .ok (.iload_n 3, 1) := by decide +kernel
theorem dL_law_249 : decode cL_law 249 = .ok (.iconst 3, 1) := by decide +kernel
theorem dL_law_250 : decode cL_law 250 = .ok (.iadd, 1) := by decide +kernel
theorem dL_law_251 : decode cL_law 251 = .ok (.iaload, 1) := by decide +kernel
theorem dL_law_252 : decode cL_law 252 = .ok (.invokevirtual 31, 3) := by decide +kernel
theorem dL_law_255 : decode cL_law 255 = .ok (.aload_n 2, 1) := by decide +kernel
theorem dL_law_256 : decode cL_law 256 = .ok (.aload_n 0, 1) := by decide +kernel
theorem dL_law_257 : decode cL_law 257 = .ok (.iload_n 3, 1) := by decide +kernel
theorem dL_law_258 : decode cL_law 258 = .ok (.iconst 1, 1) := by decide +kernel
theorem dL_law_259 : decode cL_law 259 = .ok (.iadd, 1) := by decide +kernel
theorem dL_law_260 : decode cL_law 260 = .ok (.iaload, 1) := by decide +kernel
theorem dL_law_261 : decode cL_law 261 = .ok (.aload_n 0, 1) := by decide +kernel
theorem dL_law_262 : decode cL_law 262 = .ok (.iload_n 3, 1) := by decide +kernel
theorem dL_law_263 : decode cL_law 263 = .ok (.iconst 2, 1) := by decide +kernel
theorem dL_law_264 : decode cL_law 264 = .ok (.iadd, 1) := by decide +kernel
theorem dL_law_265 : decode cL_law 265 = .ok (.iaload, 1) := by decide +kernel
theorem dL_law_266 : decode cL_law 266 = .ok (.aload_n 0, 1) := by decide +kernel
theorem dL_law_267 : decode cL_law 267 = .ok (.iload_n 3, 1) := by decide +kernel
theorem dL_law_268 : decode cL_law 268 = .ok (.iconst 3, 1) := by decide +kernel
theorem dL_law_269 : decode cL_law 269 = .ok (.iadd, 1) := by decide +kernel
theorem dL_law_270 : decode cL_law 270 = .ok (.iaload, 1) := by decide +kernel
theorem dL_law_271 : decode cL_law 271 = .ok (.invokevirtual 35, 3) := by decide +kernel
theorem dL_law_274 : decode cL_law 274 = .ok (.if_icmp .eq 292, 3) := by decide +kernel
theorem dL_law_277 : decode cL_law 277 = .ok (.iconst 0, 1) := by decide +kernel
theorem dL_law_278 : decode cL_law 278 = .ok (.ireturn, 1) := by decide +kernel
theorem dL_law_279 : decode cL_law 279 = .ok (.aload_n 1, 1) := by decide +kernel
theorem dL_law_280 : decode cL_law 280 = .ok (.aload_n 0, 1) := by decide +kernel
theorem dL_law_281 : decode cL_law 281 = .ok (.iload_n 3, 1) := by decide +kernel
theorem dL_law_282 : decode cL_law 282 = .ok (.iconst 1, 1) := by decide +kernel
theorem dL_law_283 : decode cL_law 283 = .ok (.iadd, 1) := by decide +kernel
theorem dL_law_284 : decode cL_law 284 = .ok (.iaload, 1) := by decide +kernel
theorem dL_law_285 : decode cL_law 285 = .ok (.ifCond .eq 7, 3) := by decide +kernel
theorem dL_law_288 : decode cL_law 288 = .ok (.iconst 1, 1) := by decide +kernel
theorem dL_law_289 : decode cL_law 289 = .ok (.goto 4, 3) := by decide +kernel
theorem dL_law_292 : decode cL_law 292 = .ok (.iconst 0, 1) := by decide +kernel
theorem dL_law_293 : decode cL_law 293 = .ok (.invokevirtual 36, 3) := by decide +kernel
theorem dL_law_296 : decode cL_law 296 = .ok (.aload_n 2, 1) := by decide +kernel
theorem dL_law_297 : decode cL_law 297 = .ok (.aload_n 0, 1) := by decide +kernel
theorem dL_law_298 : decode cL_law 298 = .ok (.iload_n 3, 1) := by decide +kernel
theorem dL_law_299 : decode cL_law 299 = .ok (.iconst 1, 1) := by decide +kernel
theorem dL_law_300 : decode cL_law 300 = .ok (.iadd, 1) := by decide +kernel
theorem dL_law_301 : decode cL_law 301 = .ok (.iaload, 1) := by decide +kernel
theorem dL_law_302 : decode cL_law 302 = .ok (.ifCond .eq 7, 3) := by decide +kernel
theorem dL_law_305 : decode cL_law 305 = .ok (.iconst 1, 1) := by decide +kernel
theorem dL_law_306 : decode cL_law 306 = .ok (.goto 4, 3) := by decide +kernel
theorem dL_law_309 : decode cL_law 309 = .ok (.iconst 0, 1) := by decide +kernel
theorem dL_law_310 : decode cL_law 310 = .ok (.invokevirtual 40, 3) := by decide +kernel
theorem dL_law_313 : decode cL_law 313 = .ok (.goto 253, 3) := by decide +kernel
theorem dL_law_316 : decode cL_law 316 = .ok (.aload_n 1, 1) := by decide +kernel
theorem dL_law_317 : decode cL_law 317 = .ok (.invokevirtual 41, 3) := by decide +kernel
theorem dL_law_320 : decode cL_law 320 = .ok (.aload_n 2, 1) := by decide +kernel
theorem dL_law_321 : decode cL_law 321 = .ok (.invokevirtual 45, 3) := by decide +kernel
theorem dL_law_324 : decode cL_law 324 = .ok (.if_icmp .eq 242, 3) := by decide +kernel
theorem dL_law_327 : decode cL_law 327 = .ok (.iconst 0, 1) := by decide +kernel
theorem dL_law_328 : decode cL_law 328 = .ok (.ireturn, 1) := by decide +kernel
theorem dL_law_329 : decode cL_law 329 = .ok (.aload_n 1, 1) := by decide +kernel
theorem dL_law_330 : decode cL_law 330 = .ok (.aload_n 0, 1) := by decide +kernel
theorem dL_law_331 : decode cL_law 331 = .ok (.iload_n 3, 1) := by decide +kernel
theorem dL_law_332 : decode cL_law 332 = .ok (.iconst 1, 1) := by decide +kernel
theorem dL_law_333 : decode cL_law 333 = .ok (.iadd, 1) := by decide +kernel
theorem dL_law_334 : decode cL_law 334 = .ok (.iaload, 1) := by decide +kernel
theorem dL_law_335 : decode cL_law 335 = .ok (.invokevirtual 46, 3) := by decide +kernel
theorem dL_law_338 : decode cL_law 338 = .ok (.aload_n 2, 1) := by decide +kernel
theorem dL_law_339 : decode cL_law 339 = .ok (.aload_n 0, 1) := by decide +kernel
theorem dL_law_340 : decode cL_law 340 = .ok (.iload_n 3, 1) := by decide +kernel
theorem dL_law_341 : decode cL_law 341 = .ok (.iconst 1, 1) := by decide +kernel
theorem dL_law_342 : decode cL_law 342 = .ok (.iadd, 1) := by decide +kernel
theorem dL_law_343 : decode cL_law 343 = .ok (.iaload, 1) := by decide +kernel
theorem dL_law_344 : decode cL_law 344 = .ok (.invokevirtual 49, 3) := by decide +kernel
theorem dL_law_347 : decode cL_law 347 = .ok (.if_icmp .eq 219, 3) := by decide +kernel
theorem dL_law_350 : decode cL_law 350 = .ok (.iconst 0, 1) := by decide +kernel
theorem dL_law_351 : decode cL_law 351 = .ok (.ireturn, 1) := by decide +kernel
theorem dL_law_352 : decode cL_law 352 = .ok (.aload_n 1, 1) := by decide +kernel
theorem dL_law_353 : decode cL_law 353 = .ok (.aload_n 0, 1) := by decide +kernel
theorem dL_law_354 : decode cL_law 354 = .ok (.iload_n 3, 1) := by decide +kernel
theorem dL_law_355 : decode cL_law 355 = .ok (.iconst 1, 1) := by decide +kernel
theorem dL_law_356 : decode cL_law 356 = .ok (.iadd, 1) := by decide +kernel
theorem dL_law_357 : decode cL_law 357 = .ok (.iaload, 1) := by decide +kernel
theorem dL_law_358 : decode cL_law 358 = .ok (.aload_n 0, 1) := by decide +kernel
theorem dL_law_359 : decode cL_law 359 = .ok (.iload_n 3, 1) := by decide +kernel
theorem dL_law_360 : decode cL_law 360 = .ok (.iconst 2, 1) := by decide +kernel
theorem dL_law_361 : decode cL_law 361 = .ok (.iadd, 1) := by decide +kernel
