theorem d_Law_law_0 : decode b_Law_law 0 = .ok (.new 8, 3) := by decide +kernel
theorem d_Law_law_3 : decode b_Law_law 3 = .ok (.dup, 1) := by decide +kernel
theorem d_Law_law_4 : decode b_Law_law 4 = .ok (.invokespecial 42, 3) := by decide +kernel
theorem d_Law_law_7 : decode b_Law_law 7 = .ok (.astore_n 1, 1) := by decide +kernel
theorem d_Law_law_8 : decode b_Law_law 8 = .ok (.new 43, 3) := by decide +kernel
theorem d_Law_law_11 : decode b_Law_law 11 = .ok (.dup, 1) := by decide +kernel
theorem d_Law_law_12 : decode b_Law_law 12 = .ok (.invokespecial 45, 3) := by decide +kernel
theorem d_Law_law_15 : decode b_Law_law 15 = .ok (.astore_n 2, 1) := by decide +kernel
theorem d_Law_law_16 : decode b_Law_law 16 = .ok (.iconst 1, 1) := by decide +kernel
theorem d_Law_law_17 : decode b_Law_law 17 = .ok (.newarray .long, 2) := by decide +kernel
theorem d_Law_law_19 : decode b_Law_law 19 = .ok (.astore_n 3, 1) := by decide +kernel
theorem d_Law_law_20 : decode b_Law_law 20 = .ok (.iconst 0, 1) := by decide +kernel
theorem d_Law_law_21 : decode b_Law_law 21 = .ok (.istore 4, 2) := by decide +kernel
theorem d_Law_law_23 : decode b_Law_law 23 = .ok (.iload 4, 2) := by decide +kernel
theorem d_Law_law_25 : decode b_Law_law 25 = .ok (.aload_n 0, 1) := by decide +kernel
theorem d_Law_law_26 : decode b_Law_law 26 = .ok (.arraylength, 1) := by decide +kernel
theorem d_Law_law_27 : decode b_Law_law 27 = .ok (.bipush 6, 2) := by decide +kernel
theorem d_Law_law_29 : decode b_Law_law 29 = .ok (.isub, 1) := by decide +kernel
theorem d_Law_law_30 : decode b_Law_law 30 = .ok (.if_icmp .gt 1146, 3) := by decide +kernel
theorem d_Law_law_33 : decode b_Law_law 33 = .ok (.aload_n 0, 1) := by decide +kernel
theorem d_Law_law_34 : decode b_Law_law 34 = .ok (.iload 4, 2) := by decide +kernel
theorem d_Law_law_36 : decode b_Law_law 36 = .ok (.iaload, 1) := by decide +kernel
theorem d_Law_law_37 : decode b_Law_law 37 = .ok (.bipush 15, 2) := by decide +kernel
theorem d_Law_law_39 : decode b_Law_law 39 = .ok (.iand, 1) := by decide +kernel
theorem d_Law_law_40 : decode b_Law_law 40 = .ok (.tableswitch 1130 0 10 #[60, 176, 292, 432, 572, 585, 611, 726, 842, 985, 1043], 60) := by decide +kernel
theorem d_Law_law_100 : decode b_Law_law 100 = .ok (.aload_n 1, 1) := by decide +kernel
theorem d_Law_law_101 : decode b_Law_law 101 = .ok (.aload_n 0, 1) := by decide +kernel
theorem d_Law_law_102 : decode b_Law_law 102 = .ok (.iload 4, 2) := by decide +kernel
theorem d_Law_law_104 : decode b_Law_law 104 = .ok (.iconst 1, 1) := by decide +kernel
theorem d_Law_law_105 : decode b_Law_law 105 = .ok (.iadd, 1) := by decide +kernel
theorem d_Law_law_106 : decode b_Law_law 106 = .ok (.iaload, 1) := by decide +kernel
theorem d_Law_law_107 : decode b_Law_law 107 = .ok (.i2l, 1) := by decide +kernel
theorem d_Law_law_108 : decode b_Law_law 108 = .ok (.bipush 32, 2) := by decide +kernel
theorem d_Law_law_110 : decode b_Law_law 110 = .ok (.lshl, 1) := by decide +kernel
theorem d_Law_law_111 : decode b_Law_law 111 = .ok (.aload_n 0, 1) := by decide +kernel
theorem d_Law_law_112 : decode b_Law_law 112 = .ok (.iload 4, 2) := by decide +kernel
theorem d_Law_law_114 : decode b_Law_law 114 = .ok (.iconst 2, 1) := by decide +kernel
theorem d_Law_law_115 : decode b_Law_law 115 = .ok (.iadd, 1) := by decide +kernel
theorem d_Law_law_116 : decode b_Law_law 116 = .ok (.iaload, 1) := by decide +kernel
theorem d_Law_law_117 : decode b_Law_law 117 = .ok (.i2l, 1) := by decide +kernel
theorem d_Law_law_118 : decode b_Law_law 118 = .ok (.ldc2_w 46, 3) := by decide +kernel
theorem d_Law_law_121 : decode b_Law_law 121 = .ok (.land, 1) := by decide +kernel
theorem d_Law_law_122 : decode b_Law_law 122 = .ok (.lor, 1) := by decide +kernel
theorem d_Law_law_123 : decode b_Law_law 123 = .ok (.aload_n 0, 1) := by decide +kernel
theorem d_Law_law_124 : decode b_Law_law 124 = .ok (.iload 4, 2) := by decide +kernel
theorem d_Law_law_126 : decode b_Law_law 126 = .ok (.iconst 3, 1) := by decide +kernel
theorem d_Law_law_127 : decode b_Law_law 127 = .ok (.iadd, 1) := by decide +kernel
theorem d_Law_law_128 : decode b_Law_law 128 = .ok (.iaload, 1) := by decide +kernel
theorem d_Law_law_129 : decode b_Law_law 129 = .ok (.ifCond .eq 7, 3) := by decide +kernel
theorem d_Law_law_132 : decode b_Law_law 132 = .ok (.iconst 1, 1) := by decide +kernel
theorem d_Law_law_133 : decode b_Law_law 133 = .ok (.goto 4, 3) := by decide +kernel
theorem d_Law_law_136 : decode b_Law_law 136 = .ok (.iconst 0, 1) := by decide +kernel
theorem d_Law_law_137 : decode b_Law_law 137 = .ok (.aload_n 3, 1) := by decide +kernel
theorem d_Law_law_138 : decode b_Law_law 138 = .ok (.invokestatic 48, 3) := by decide +kernel
theorem d_Law_law_141 : decode b_Law_law 141 = .ok (.istore 5, 2) := by decide +kernel
theorem d_Law_law_143 : decode b_Law_law 143 = .ok (.aload_n 2, 1) := by decide +kernel
theorem d_Law_law_144 : decode b_Law_law 144 = .ok (.aload_n 0, 1) := by decide +kernel
theorem d_Law_law_145 : decode b_Law_law 145 = .ok (.iload 4, 2) := by decide +kernel
theorem d_Law_law_147 : decode b_Law_law 147 = .ok (.iconst 1, 1) := by decide +kernel
theorem d_Law_law_148 : decode b_Law_law 148 = .ok (.iadd, 1) := by decide +kernel
theorem d_Law_law_149 : decode b_Law_law 149 = .ok (.iaload, 1) := by decide +kernel
theorem d_Law_law_150 : decode b_Law_law 150 = .ok (.i2l, 1) := by decide +kernel
theorem d_Law_law_151 : decode b_Law_law 151 = .ok (.bipush 32, 2) := by decide +kernel
theorem d_Law_law_153 : decode b_Law_law 153 = .ok (.lshl, 1) := by decide +kernel
theorem d_Law_law_154 : decode b_Law_law 154 = .ok (.aload_n 0, 1) := by decide +kernel
theorem d_Law_law_155 : decode b_Law_law 155 = .ok (.iload 4, 2) := by decide +kernel
theorem d_Law_law_157 : decode b_Law_law 157 = .ok (.iconst 2, 1) := by decide +kernel
theorem d_Law_law_158 : decode b_Law_law 158 = .ok (.iadd, 1) := by decide +kernel
theorem d_Law_law_159 : decode b_Law_law 159 = .ok (.iaload, 1) := by decide +kernel
theorem d_Law_law_160 : decode b_Law_law 160 = .ok (.i2l, 1) := by decide +kernel
theorem d_Law_law_161 : decode b_Law_law 161 = .ok (.ldc2_w 46, 3) := by decide +kernel
theorem d_Law_law_164 : decode b_Law_law 164 = .ok (.land, 1) := by decide +kernel
theorem d_Law_law_165 : decode b_Law_law 165 = .ok (.lor, 1) := by decide +kernel
theorem d_Law_law_166 : decode b_Law_law 166 = .ok (.aload_n 0, 1) := by decide +kernel
theorem d_Law_law_167 : decode b_Law_law 167 = .ok (.iload 4, 2) := by decide +kernel
theorem d_Law_law_169 : decode b_Law_law 169 = .ok (.iconst 3, 1) := by decide +kernel
theorem d_Law_law_170 : decode b_Law_law 170 = .ok (.iadd, 1) := by decide +kernel
theorem d_Law_law_171 : decode b_Law_law 171 = .ok (.iaload, 1) := by decide +kernel
theorem d_Law_law_172 : decode b_Law_law 172 = .ok (.ifCond .eq 7, 3) := by decide +kernel
theorem d_Law_law_175 : decode b_Law_law 175 = .ok (.iconst 1, 1) := by decide +kernel
theorem d_Law_law_176 : decode b_Law_law 176 = .ok (.goto 4, 3) := by decide +kernel
theorem d_Law_law_179 : decode b_Law_law 179 = .ok (.iconst 0, 1) := by decide +kernel
theorem d_Law_law_180 : decode b_Law_law 180 = .ok (.invokevirtual 53, 3) := by decide +kernel
theorem d_Law_law_183 : decode b_Law_law 183 = .ok (.istore 6, 2) := by decide +kernel
theorem d_Law_law_185 : decode b_Law_law 185 = .ok (.aload_n 2, 1) := by decide +kernel
theorem d_Law_law_186 : decode b_Law_law 186 = .ok (.invokevirtual 54, 3) := by decide +kernel
theorem d_Law_law_189 : decode b_Law_law 189 = .ok (.iload 5, 2) := by decide +kernel
theorem d_Law_law_191 : decode b_Law_law 191 = .ok (.if_icmp .eq 5, 3) := by decide +kernel
theorem d_Law_law_194 : decode b_Law_law 194 = .ok (.iconst 0, 1) := by decide +kernel
theorem d_Law_law_195 : decode b_Law_law 195 = .ok (.ireturn, 1) := by decide +kernel
theorem d_Law_law_196 : decode b_Law_law 196 = .ok (.iload 5, 2) := by decide +kernel
theorem d_Law_law_198 : decode b_Law_law 198 = .ok (.ifCond .ne 15, 3) := by decide +kernel
theorem d_Law_law_201 : decode b_Law_law 201 = .ok (.aload_n 3, 1) := by decide +kernel
theorem d_Law_law_202 : decode b_Law_law 202 = .ok (.iconst 0, 1) := by decide +kernel
theorem d_Law_law_203 : decode b_Law_law 203 = .ok (.laload, 1) := by decide +kernel
theorem d_Law_law_204 : decode b_Law_law 204 = .ok (.iload 6, 2) := by decide +kernel
theorem d_Law_law_206 : decode b_Law_law 206 = .ok (.i2l, 1) := by decide +kernel
theorem d_Law_law_207 : decode b_Law_law 207 = .ok (.lcmp, 1) := by decide +kernel
theorem d_Law_law_208 : decode b_Law_law 208 = .ok (.ifCond .eq 5, 3) := by decide +kernel
theorem d_Law_law_211 : decode b_Law_law 211 = .ok (.iconst 0, 1) := by decide +kernel
theorem d_Law_law_212 : decode b_Law_law 212 = .ok (.ireturn, 1) := by decide +kernel
theorem d_Law_law_213 : decode b_Law_law 213 = .ok (.goto 957, 3) := by decide +kernel
theorem d_Law_law_216 : decode b_Law_law 216 = .ok (.aload_n 1, 1) := by decide +kernel
theorem d_Law_law_217 : decode b_Law_law 217 = .ok (.aload_n 0, 1) := by decide +kernel
theorem d_Law_law_218 : decode b_Law_law 218 = .ok (.iload 4, 2) := by decide +kernel
theorem d_Law_law_220 : decode b_Law_law 220 = .ok (.iconst 1, 1) := by decide +kernel
theorem d_Law_law_221 : decode b_Law_law 221 = .ok (.iadd, 1) := by decide +kernel
theorem d_Law_law_222 : decode b_Law_law 222 = .ok (.iaload, 1) := by decide +kernel
theorem d_Law_law_223 : decode b_Law_law 223 = .ok (.i2l, 1) := by decide +kernel
theorem d_Law_law_224 : decode b_Law_law 224 = .ok (.bipush 32, 2) := by decide +kernel
theorem d_Law_law_226 : decode b_Law_law 226 = .ok (.lshl, 1) := by decide +kernel
theorem d_Law_law_227 : decode b_Law_law 227 = .ok (.aload_n 0, 1) := by decide +kernel
theorem d_Law_law_228 : decode b_Law_law 228 = .ok (.iload 4, 2) := by decide +kernel
theorem d_Law_law_230 : decode b_Law_law 230 = .ok (.iconst 2, 1) := by decide +kernel
theorem d_Law_law_231 : decode b_Law_law 231 = .ok (.iadd, 1) := by decide +kernel
theorem d_Law_law_232 : decode b_Law_law 232 = .ok (.iaload, 1) := by decide +kernel
theorem d_Law_law_233 : decode b_Law_law 233 = .ok (.i2l, 1) := by decide +kernel
theorem d_Law_law_234 : decode b_Law_law 234 = .ok (.ldc2_w 46, 3) := by decide +kernel
theorem d_Law_law_237 : decode b_Law_law 237 = .ok (.land, 1) := by decide +kernel
theorem d_Law_law_238 : decode b_Law_law 238 = .ok (.lor, 1) := by decide +kernel
theorem d_Law_law_239 : decode b_Law_law 239 = .ok (.aload_n 0, 1) := by decide +kernel
theorem d_Law_law_240 : decode b_Law_law 240 = .ok (.iload 4, 2) := by decide +kernel
theorem d_Law_law_242 : decode b_Law_law 242 = .ok (.iconst 3, 1) := by decide +kernel
theorem d_Law_law_243 : decode b_Law_law 243 = .ok (.iadd, 1) := by decide +kernel
theorem d_Law_law_244 : decode b_Law_law 244 = .ok (.iaload, 1) := by decide +kernel
theorem d_Law_law_245 : decode b_Law_law 245 = .ok (.ifCond .eq 7, 3) := by decide +kernel
theorem d_Law_law_248 : decode b_Law_law 248 = .ok (.iconst 1, 1) := by decide +kernel
theorem d_Law_law_249 : decode b_Law_law 249 = .ok (.goto 4, 3) := by decide +kernel
theorem d_Law_law_252 : decode b_Law_law 252 = .ok (.iconst 0, 1) := by decide +kernel
theorem d_Law_law_253 : decode b_Law_law 253 = .ok (.aload_n 3, 1) := by decide +kernel
theorem d_Law_law_254 : decode b_Law_law 254 = .ok (.invokestatic 58, 3) := by decide +kernel
theorem d_Law_law_257 : decode b_Law_law 257 = .ok (.istore 5, 2) := by decide +kernel
theorem d_Law_law_259 : decode b_Law_law 259 = .ok (.aload_n 2, 1) := by decide +kernel
theorem d_Law_law_260 : decode b_Law_law 260 = .ok (.aload_n 0, 1) := by decide +kernel
theorem d_Law_law_261 : decode b_Law_law 261 = .ok (.iload 4, 2) := by decide +kernel
theorem d_Law_law_263 : decode b_Law_law 263 = .ok (.iconst 1, 1) := by decide +kernel
theorem d_Law_law_264 : decode b_Law_law 264 = .ok (.iadd, 1) := by decide +kernel
theorem d_Law_law_265 : decode b_Law_law 265 = .ok (.iaload, 1) := by decide +kernel
theorem d_Law_law_266 : decode b_Law_law 266 = .ok (.i2l, 1) := by decide +kernel
theorem d_Law_law_267 : decode b_Law_law 267 = .ok (.bipush 32, 2) := by decide +kernel
theorem d_Law_law_269 : decode b_Law_law 269 = .ok (.lshl, 1) := by decide +kernel
theorem d_Law_law_270 : decode b_Law_law 270 = .ok (.aload_n 0, 1) := by decide +kernel
theorem d_Law_law_271 : decode b_Law_law 271 = .ok (.iload 4, 2) := by decide +kernel
theorem d_Law_law_273 : decode b_Law_law 273 = .ok (.iconst 2, 1) := by decide +kernel
theorem d_Law_law_274 : decode b_Law_law 274 = .ok (.iadd, 1) := by decide +kernel
theorem d_Law_law_275 : decode b_Law_law 275 = .ok (.iaload, 1) := by decide +kernel
theorem d_Law_law_276 : decode b_Law_law 276 = .ok (.i2l, 1) := by decide +kernel
theorem d_Law_law_277 : decode b_Law_law 277 = .ok (.ldc2_w 46, 3) := by decide +kernel
theorem d_Law_law_280 : decode b_Law_law 280 = .ok (.land, 1) := by decide +kernel
theorem d_Law_law_281 : decode b_Law_law 281 = .ok (.lor, 1) := by decide +kernel
theorem d_Law_law_282 : decode b_Law_law 282 = .ok (.aload_n 0, 1) := by decide +kernel
theorem d_Law_law_283 : decode b_Law_law 283 = .ok (.iload 4, 2) := by decide +kernel
theorem d_Law_law_285 : decode b_Law_law 285 = .ok (.iconst 3, 1) := by decide +kernel
theorem d_Law_law_286 : decode b_Law_law 286 = .ok (.iadd, 1) := by decide +kernel
theorem d_Law_law_287 : decode b_Law_law 287 = .ok (.iaload, 1) := by decide +kernel
theorem d_Law_law_288 : decode b_Law_law 288 = .ok (.ifCond .eq 7, 3) := by decide +kernel
theorem d_Law_law_291 : decode b_Law_law 291 = .ok (.iconst 1, 1) := by decide +kernel
theorem d_Law_law_292 : decode b_Law_law 292 = .ok (.goto 4, 3) := by decide +kernel
theorem d_Law_law_295 : decode b_Law_law 295 = .ok (.iconst 0, 1) := by decide +kernel
theorem d_Law_law_296 : decode b_Law_law 296 = .ok (.invokevirtual 60, 3) := by decide +kernel
theorem d_Law_law_299 : decode b_Law_law 299 = .ok (.istore 6, 2) := by decide +kernel
theorem d_Law_law_301 : decode b_Law_law 301 = .ok (.aload_n 2, 1) := by decide +kernel
theorem d_Law_law_302 : decode b_Law_law 302 = .ok (.invokevirtual 54, 3) := by decide +kernel
theorem d_Law_law_305 : decode b_Law_law 305 = .ok (.iload 5, 2) := by decide +kernel
theorem d_Law_law_307 : decode b_Law_law 307 = .ok (.if_icmp .eq 5, 3) := by decide +kernel
theorem d_Law_law_310 : decode b_Law_law 310 = .ok (.iconst 0, 1) := by decide +kernel
theorem d_Law_law_311 : decode b_Law_law 311 = .ok (.ireturn, 1) := by decide +kernel
theorem d_Law_law_312 : decode b_Law_law 312 = .ok (.iload 5, 2) := by decide +kernel
theorem d_Law_law_314 : decode b_Law_law 314 = .ok (.ifCond .ne 15, 3) := by decide +kernel
theorem d_Law_law_317 : decode b_Law_law 317 = .ok (.aload_n 3, 1) := by decide +kernel
theorem d_Law_law_318 : decode b_Law_law 318 = .ok (.iconst 0, 1) := by decide +kernel
theorem d_Law_law_319 : decode b_Law_law 319 = .ok (.laload, 1) := by decide +kernel
theorem d_Law_law_320 : decode b_Law_law 320 = .ok (.iload 6, 2) := by decide +kernel
theorem d_Law_law_322 : decode b_Law_law 322 = .ok (.i2l, 1) := by decide +kernel
theorem d_Law_law_323 : decode b_Law_law 323 = .ok (.lcmp, 1) := by decide +kernel
theorem d_Law_law_324 : decode b_Law_law 324 = .ok (.ifCond .eq 5, 3) := by decide +kernel
theorem d_Law_law_327 : decode b_Law_law 327 = .ok (.iconst 0, 1) := by decide +kernel
theorem d_Law_law_328 : decode b_Law_law 328 = .ok (.ireturn, 1) := by decide +kernel
theorem d_Law_law_329 : decode b_Law_law 329 = .ok (.goto 841, 3) := by decide +kernel
theorem d_Law_law_332 : decode b_Law_law 332 = .ok (.aload_n 1, 1) := by decide +kernel
theorem d_Law_law_333 : decode b_Law_law 333 = .ok (.aload_n 0, 1) := by decide +kernel
theorem d_Law_law_334 : decode b_Law_law 334 = .ok (.iload 4, 2) := by decide +kernel
theorem d_Law_law_336 : decode b_Law_law 336 = .ok (.iconst 1, 1) := by decide +kernel
theorem d_Law_law_337 : decode b_Law_law 337 = .ok (.iadd, 1) := by decide +kernel
theorem d_Law_law_338 : decode b_Law_law 338 = .ok (.iaload, 1) := by decide +kernel
theorem d_Law_law_339 : decode b_Law_law 339 = .ok (.i2l, 1) := by decide +kernel
theorem d_Law_law_340 : decode b_Law_law 340 = .ok (.bipush 32, 2) := by decide +kernel
theorem d_Law_law_342 : decode b_Law_law 342 = .ok (.lshl, 1) := by decide +kernel
theorem d_Law_law_343 : decode b_Law_law 343 = .ok (.aload_n 0, 1) := by decide +kernel
theorem d_Law_law_344 : decode b_Law_law 344 = .ok (.iload 4, 2) := by decide +kernel
theorem d_Law_law_346 : decode b_Law_law 346 = .ok (.iconst 2, 1) := by decide +kernel
theorem d_Law_law_347 : decode b_Law_law 347 = .ok (.iadd, 1) := by decide +kernel
theorem d_Law_law_348 : decode b_Law_law 348 = .ok (.iaload, 1) := by decide +kernel
theorem d_Law_law_349 : decode b_Law_law 349 = .ok (.i2l, 1) := by decide +kernel
theorem d_Law_law_350 : decode b_Law_law 350 = .ok (.ldc2_w 46, 3) := by decide +kernel
theorem d_Law_law_353 : decode b_Law_law 353 = .ok (.land, 1) := by decide +kernel
theorem d_Law_law_354 : decode b_Law_law 354 = .ok (.lor, 1) := by decide +kernel
theorem d_Law_law_355 : decode b_Law_law 355 = .ok (.aload_n 0, 1) := by decide +kernel
theorem d_Law_law_356 : decode b_Law_law 356 = .ok (.iload 4, 2) := by decide +kernel
theorem d_Law_law_358 : decode b_Law_law 358 = .ok (.iconst 3, 1) := by decide +kernel
theorem d_Law_law_359 : decode b_Law_law 359 = .ok (.iadd, 1) := by decide +kernel
theorem d_Law_law_360 : decode b_Law_law 360 = .ok (.iaload, 1) := by decide +kernel
theorem d_Law_law_361 : decode b_Law_law 361 = .ok (.ifCond .eq 7, 3) := by decide +kernel
theorem d_Law_law_364 : decode b_Law_law 364 = .ok (.iconst 1, 1) := by decide +kernel
theorem d_Law_law_365 : decode b_Law_law 365 = .ok (.goto 4, 3) := by decide +kernel
theorem d_Law_law_368 : decode b_Law_law 368 = .ok (.iconst 0, 1) := by decide +kernel
theorem d_Law_law_369 : decode b_Law_law 369 = .ok (.aload_n 0, 1) := by decide +kernel
theorem d_Law_law_370 : decode b_Law_law 370 = .ok (.iload 4, 2) := by decide +kernel
theorem d_Law_law_372 : decode b_Law_law 372 = .ok (.iconst 4, 1) := by decide +kernel
theorem d_Law_law_373 : decode b_Law_law 373 = .ok (.iadd, 1) := by decide +kernel
theorem d_Law_law_374 : decode b_Law_law 374 = .ok (.iaload, 1) := by decide +kernel
theorem d_Law_law_375 : decode b_Law_law 375 = .ok (.aload_n 0, 1) := by decide +kernel
theorem d_Law_law_376 : decode b_Law_law 376 = .ok (.iload 4, 2) := by decide +kernel
theorem d_Law_law_378 : decode b_Law_law 378 = .ok (.iconst 5, 1) := by decide +kernel
theorem d_Law_law_379 : decode b_Law_law 379 = .ok (.iadd, 1) := by decide +kernel
theorem d_Law_law_380 : decode b_Law_law 380 = .ok (.iaload, 1) := by decide +kernel
theorem d_Law_law_381 : decode b_Law_law 381 = .ok (.aload_n 3, 1) := by decide +kernel
theorem d_Law_law_382 : decode b_Law_law 382 = .ok (.invokestatic 61, 3) := by decide +kernel
theorem d_Law_law_385 : decode b_Law_law 385 = .ok (.istore 5, 2) := by decide +kernel
theorem d_Law_law_387 : decode b_Law_law 387 = .ok (.aload_n 2, 1) := by decide +kernel
theorem d_Law_law_388 : decode b_Law_law 388 = .ok (.aload_n 0, 1) := by decide +kernel
theorem d_Law_law_389 : decode b_Law_law 389 = .ok (.iload 4, 2) := by decide +kernel
theorem d_Law_law_391 : decode b_Law_law 391 = .ok (.iconst 1, 1) := by decide +kernel
theorem d_Law_law_392 : decode b_Law_law 392 = .ok (.iadd, 1) := by decide +kernel
theorem d_Law_law_393 : decode b_Law_law 393 = .ok (.iaload, 1) := by decide +kernel
theorem d_Law_law_394 : decode b_Law_law 394 = .ok (.i2l, 1) := by decide +kernel
theorem d_Law_law_395 : decode b_Law_law 395 = .ok (.bipush 32, 2) := by decide +kernel
theorem d_Law_law_397 : decode b_Law_law 397 = .ok (.lshl, 1) := by decide +kernel
theorem d_Law_law_398 : decode b_Law_law 398 = .ok (.aload_n 0, 1) := by decide +kernel
theorem d_Law_law_399 : decode b_Law_law 399 = .ok (.iload 4, 2) := by decide +kernel
theorem d_Law_law_401 : decode b_Law_law 401 = .ok (.iconst 2, 1) := by decide +kernel
theorem d_Law_law_402 : decode b_Law_law 402 = .ok (.iadd, 1) := by decide +kernel
theorem d_Law_law_403 : decode b_Law_law 403 = .ok (.iaload, 1) := by decide +kernel
theorem d_Law_law_404 : decode b_Law_law 404 = .ok (.i2l, 1) := by decide +kernel
theorem d_Law_law_405 : decode b_Law_law 405 = .ok (.ldc2_w 46, 3) := by decide +kernel
theorem d_Law_law_408 : decode b_Law_law 408 = .ok (.land, 1) := by decide +kernel
theorem d_Law_law_409 : decode b_Law_law 409 = .ok (.lor, 1) := by decide +kernel
theorem d_Law_law_410 : decode b_Law_law 410 = .ok (.aload_n 0, 1) := by decide +kernel
theorem d_Law_law_411 : decode b_Law_law 411 = .ok (.iload 4, 2) := by decide +kernel
theorem d_Law_law_413 : decode b_Law_law 413 = .ok (.iconst 3, 1) := by decide +kernel
theorem d_Law_law_414 : decode b_Law_law 414 = .ok (.iadd, 1) := by decide +kernel
theorem d_Law_law_415 : decode b_Law_law 415 = .ok (.iaload, 1) := by decide +kernel
theorem d_Law_law_416 : decode b_Law_law 416 = .ok (.ifCond .eq 7, 3) := by decide +kernel
theorem d_Law_law_419 : decode b_Law_law 419 = .ok (.iconst 1, 1) := by decide +kernel
theorem d_Law_law_420 : decode b_Law_law 420 = .ok (.goto 4, 3) := by decide +kernel
theorem d_Law_law_423 : decode b_Law_law 423 = .ok (.iconst 0, 1) := by decide +kernel
theorem d_Law_law_424 : decode b_Law_law 424 = .ok (.aload_n 0, 1) := by decide +kernel
theorem d_Law_law_425 : decode b_Law_law 425 = .ok (.iload 4, 2) := by decide +kernel
theorem d_Law_law_427 : decode b_Law_law 427 = .ok (.iconst 4, 1) := by decide +kernel
theorem d_Law_law_428 : decode b_Law_law 428 = .ok (.iadd, 1) := by decide +kernel
