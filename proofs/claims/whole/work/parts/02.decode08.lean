/-! decode rows, by a program of mine. -/
theorem dLa_law_0 : decode code 0 = .ok (.new 8, 3) := by decide +kernel
theorem dLa_law_3 : decode code 3 = .ok (.dup, 1) := by decide +kernel
theorem dLa_law_4 : decode code 4 = .ok (.invokespecial 43, 3) := by decide +kernel
theorem dLa_law_7 : decode code 7 = .ok (.astore_n 1, 1) := by decide +kernel
theorem dLa_law_8 : decode code 8 = .ok (.new 44, 3) := by decide +kernel
theorem dLa_law_11 : decode code 11 = .ok (.dup, 1) := by decide +kernel
theorem dLa_law_12 : decode code 12 = .ok (.invokespecial 46, 3) := by decide +kernel
theorem dLa_law_15 : decode code 15 = .ok (.astore_n 2, 1) := by decide +kernel
theorem dLa_law_16 : decode code 16 = .ok (.iconst 1, 1) := by decide +kernel
theorem dLa_law_17 : decode code 17 = .ok (.newarray .long, 2) := by decide +kernel
theorem dLa_law_19 : decode code 19 = .ok (.astore_n 3, 1) := by decide +kernel
theorem dLa_law_20 : decode code 20 = .ok (.iconst 0, 1) := by decide +kernel
theorem dLa_law_21 : decode code 21 = .ok (.istore 4, 2) := by decide +kernel
theorem dLa_law_23 : decode code 23 = .ok (.iload 4, 2) := by decide +kernel
theorem dLa_law_25 : decode code 25 = .ok (.aload_n 0, 1) := by decide +kernel
theorem dLa_law_26 : decode code 26 = .ok (.arraylength, 1) := by decide +kernel
theorem dLa_law_27 : decode code 27 = .ok (.bipush 6, 2) := by decide +kernel
theorem dLa_law_29 : decode code 29 = .ok (.isub, 1) := by decide +kernel
theorem dLa_law_30 : decode code 30 = .ok (.if_icmp .gt 584, 3) := by decide +kernel
theorem dLa_law_33 : decode code 33 = .ok (.aload_n 0, 1) := by decide +kernel
theorem dLa_law_34 : decode code 34 = .ok (.iload 4, 2) := by decide +kernel
theorem dLa_law_36 : decode code 36 = .ok (.iaload, 1) := by decide +kernel
theorem dLa_law_37 : decode code 37 = .ok (.bipush 15, 2) := by decide +kernel
theorem dLa_law_39 : decode code 39 = .ok (.iand, 1) := by decide +kernel
theorem dLa_law_40 : decode code 40 = .ok (.tableswitch 568 0 9 #[56, 160, 215, 295, 351, 362, 417, 431, 499, 555], 56) := by decide +kernel
theorem dLa_law_96 : decode code 96 = .ok (.aload_n 1, 1) := by decide +kernel
theorem dLa_law_97 : decode code 97 = .ok (.aload_n 0, 1) := by decide +kernel
theorem dLa_law_98 : decode code 98 = .ok (.iload 4, 2) := by decide +kernel
theorem dLa_law_100 : decode code 100 = .ok (.iconst 1, 1) := by decide +kernel
theorem dLa_law_101 : decode code 101 = .ok (.iadd, 1) := by decide +kernel
theorem dLa_law_102 : decode code 102 = .ok (.iaload, 1) := by decide +kernel
theorem dLa_law_103 : decode code 103 = .ok (.aload_n 0, 1) := by decide +kernel
theorem dLa_law_104 : decode code 104 = .ok (.iload 4, 2) := by decide +kernel
theorem dLa_law_106 : decode code 106 = .ok (.iconst 2, 1) := by decide +kernel
theorem dLa_law_107 : decode code 107 = .ok (.iadd, 1) := by decide +kernel
theorem dLa_law_108 : decode code 108 = .ok (.iaload, 1) := by decide +kernel
theorem dLa_law_109 : decode code 109 = .ok (.aload_n 0, 1) := by decide +kernel
theorem dLa_law_110 : decode code 110 = .ok (.iload 4, 2) := by decide +kernel
theorem dLa_law_112 : decode code 112 = .ok (.iconst 3, 1) := by decide +kernel
theorem dLa_law_113 : decode code 113 = .ok (.iadd, 1) := by decide +kernel
theorem dLa_law_114 : decode code 114 = .ok (.iaload, 1) := by decide +kernel
theorem dLa_law_115 : decode code 115 = .ok (.aload_n 0, 1) := by decide +kernel
theorem dLa_law_116 : decode code 116 = .ok (.iload 4, 2) := by decide +kernel
theorem dLa_law_118 : decode code 118 = .ok (.iconst 4, 1) := by decide +kernel
theorem dLa_law_119 : decode code 119 = .ok (.iadd, 1) := by decide +kernel
theorem dLa_law_120 : decode code 120 = .ok (.iaload, 1) := by decide +kernel
theorem dLa_law_121 : decode code 121 = .ok (.aload_n 0, 1) := by decide +kernel
theorem dLa_law_122 : decode code 122 = .ok (.iload 4, 2) := by decide +kernel
theorem dLa_law_124 : decode code 124 = .ok (.iconst 5, 1) := by decide +kernel
theorem dLa_law_125 : decode code 125 = .ok (.iadd, 1) := by decide +kernel
theorem dLa_law_126 : decode code 126 = .ok (.iaload, 1) := by decide +kernel
theorem dLa_law_127 : decode code 127 = .ok (.aload_n 3, 1) := by decide +kernel
theorem dLa_law_128 : decode code 128 = .ok (.invokestatic 47, 3) := by decide +kernel
theorem dLa_law_131 : decode code 131 = .ok (.istore 5, 2) := by decide +kernel
theorem dLa_law_133 : decode code 133 = .ok (.aload_n 2, 1) := by decide +kernel
theorem dLa_law_134 : decode code 134 = .ok (.aload_n 0, 1) := by decide +kernel
theorem dLa_law_135 : decode code 135 = .ok (.iload 4, 2) := by decide +kernel
theorem dLa_law_137 : decode code 137 = .ok (.iconst 1, 1) := by decide +kernel
theorem dLa_law_138 : decode code 138 = .ok (.iadd, 1) := by decide +kernel
theorem dLa_law_139 : decode code 139 = .ok (.iaload, 1) := by decide +kernel
theorem dLa_law_140 : decode code 140 = .ok (.aload_n 0, 1) := by decide +kernel
theorem dLa_law_141 : decode code 141 = .ok (.iload 4, 2) := by decide +kernel
theorem dLa_law_143 : decode code 143 = .ok (.iconst 2, 1) := by decide +kernel
theorem dLa_law_144 : decode code 144 = .ok (.iadd, 1) := by decide +kernel
theorem dLa_law_145 : decode code 145 = .ok (.iaload, 1) := by decide +kernel
theorem dLa_law_146 : decode code 146 = .ok (.aload_n 0, 1) := by decide +kernel
theorem dLa_law_147 : decode code 147 = .ok (.iload 4, 2) := by decide +kernel
theorem dLa_law_149 : decode code 149 = .ok (.iconst 3, 1) := by decide +kernel
theorem dLa_law_150 : decode code 150 = .ok (.iadd, 1) := by decide +kernel
theorem dLa_law_151 : decode code 151 = .ok (.iaload, 1) := by decide +kernel
theorem dLa_law_152 : decode code 152 = .ok (.aload_n 0, 1) := by decide +kernel
theorem dLa_law_153 : decode code 153 = .ok (.iload 4, 2) := by decide +kernel
theorem dLa_law_155 : decode code 155 = .ok (.iconst 4, 1) := by decide +kernel
theorem dLa_law_156 : decode code 156 = .ok (.iadd, 1) := by decide +kernel
theorem dLa_law_157 : decode code 157 = .ok (.iaload, 1) := by decide +kernel
theorem dLa_law_158 : decode code 158 = .ok (.aload_n 0, 1) := by decide +kernel
theorem dLa_law_159 : decode code 159 = .ok (.iload 4, 2) := by decide +kernel
theorem dLa_law_161 : decode code 161 = .ok (.iconst 5, 1) := by decide +kernel
theorem dLa_law_162 : decode code 162 = .ok (.iadd, 1) := by decide +kernel
theorem dLa_law_163 : decode code 163 = .ok (.iaload, 1) := by decide +kernel
theorem dLa_law_164 : decode code 164 = .ok (.invokevirtual 52, 3) := by decide +kernel
theorem dLa_law_167 : decode code 167 = .ok (.istore 6, 2) := by decide +kernel
theorem dLa_law_169 : decode code 169 = .ok (.aload_n 2, 1) := by decide +kernel
theorem dLa_law_170 : decode code 170 = .ok (.invokevirtual 53, 3) := by decide +kernel
theorem dLa_law_173 : decode code 173 = .ok (.iload 5, 2) := by decide +kernel
theorem dLa_law_175 : decode code 175 = .ok (.if_icmp .eq 5, 3) := by decide +kernel
theorem dLa_law_178 : decode code 178 = .ok (.iconst 0, 1) := by decide +kernel
theorem dLa_law_179 : decode code 179 = .ok (.ireturn, 1) := by decide +kernel
theorem dLa_law_180 : decode code 180 = .ok (.iload 5, 2) := by decide +kernel
theorem dLa_law_182 : decode code 182 = .ok (.ifCond .ne 15, 3) := by decide +kernel
theorem dLa_law_185 : decode code 185 = .ok (.aload_n 3, 1) := by decide +kernel
theorem dLa_law_186 : decode code 186 = .ok (.iconst 0, 1) := by decide +kernel
theorem dLa_law_187 : decode code 187 = .ok (.laload, 1) := by decide +kernel
theorem dLa_law_188 : decode code 188 = .ok (.iload 6, 2) := by decide +kernel
theorem dLa_law_190 : decode code 190 = .ok (.i2l, 1) := by decide +kernel
theorem dLa_law_191 : decode code 191 = .ok (.lcmp, 1) := by decide +kernel
theorem dLa_law_192 : decode code 192 = .ok (.ifCond .eq 5, 3) := by decide +kernel
theorem dLa_law_195 : decode code 195 = .ok (.iconst 0, 1) := by decide +kernel
theorem dLa_law_196 : decode code 196 = .ok (.ireturn, 1) := by decide +kernel
theorem dLa_law_197 : decode code 197 = .ok (.goto 411, 3) := by decide +kernel
theorem dLa_law_200 : decode code 200 = .ok (.aload_n 1, 1) := by decide +kernel
theorem dLa_law_201 : decode code 201 = .ok (.aload_n 0, 1) := by decide +kernel
theorem dLa_law_202 : decode code 202 = .ok (.iload 4, 2) := by decide +kernel
theorem dLa_law_204 : decode code 204 = .ok (.iconst 1, 1) := by decide +kernel
theorem dLa_law_205 : decode code 205 = .ok (.iadd, 1) := by decide +kernel
theorem dLa_law_206 : decode code 206 = .ok (.iaload, 1) := by decide +kernel
theorem dLa_law_207 : decode code 207 = .ok (.aload_n 3, 1) := by decide +kernel
theorem dLa_law_208 : decode code 208 = .ok (.invokestatic 57, 3) := by decide +kernel
theorem dLa_law_211 : decode code 211 = .ok (.istore 5, 2) := by decide +kernel
theorem dLa_law_213 : decode code 213 = .ok (.aload_n 2, 1) := by decide +kernel
theorem dLa_law_214 : decode code 214 = .ok (.aload_n 0, 1) := by decide +kernel
theorem dLa_law_215 : decode code 215 = .ok (.iload 4, 2) := by decide +kernel
theorem dLa_law_217 : decode code 217 = .ok (.iconst 1, 1) := by decide +kernel
theorem dLa_law_218 : decode code 218 = .ok (.iadd, 1) := by decide +kernel
theorem dLa_law_219 : decode code 219 = .ok (.iaload, 1) := by decide +kernel
theorem dLa_law_220 : decode code 220 = .ok (.invokevirtual 60, 3) := by decide +kernel
theorem dLa_law_223 : decode code 223 = .ok (.lstore 6, 2) := by decide +kernel
theorem dLa_law_225 : decode code 225 = .ok (.aload_n 2, 1) := by decide +kernel
theorem dLa_law_226 : decode code 226 = .ok (.invokevirtual 53, 3) := by decide +kernel
theorem dLa_law_229 : decode code 229 = .ok (.iload 5, 2) := by decide +kernel
theorem dLa_law_231 : decode code 231 = .ok (.if_icmp .eq 5, 3) := by decide +kernel
theorem dLa_law_234 : decode code 234 = .ok (.iconst 0, 1) := by decide +kernel
theorem dLa_law_235 : decode code 235 = .ok (.ireturn, 1) := by decide +kernel
theorem dLa_law_236 : decode code 236 = .ok (.iload 5, 2) := by decide +kernel
theorem dLa_law_238 : decode code 238 = .ok (.ifCond .ne 14, 3) := by decide +kernel
theorem dLa_law_241 : decode code 241 = .ok (.aload_n 3, 1) := by decide +kernel
theorem dLa_law_242 : decode code 242 = .ok (.iconst 0, 1) := by decide +kernel
theorem dLa_law_243 : decode code 243 = .ok (.laload, 1) := by decide +kernel
theorem dLa_law_244 : decode code 244 = .ok (.lload 6, 2) := by decide +kernel
theorem dLa_law_246 : decode code 246 = .ok (.lcmp, 1) := by decide +kernel
theorem dLa_law_247 : decode code 247 = .ok (.ifCond .eq 5, 3) := by decide +kernel
theorem dLa_law_250 : decode code 250 = .ok (.iconst 0, 1) := by decide +kernel
theorem dLa_law_251 : decode code 251 = .ok (.ireturn, 1) := by decide +kernel
theorem dLa_law_252 : decode code 252 = .ok (.goto 356, 3) := by decide +kernel
theorem dLa_law_255 : decode code 255 = .ok (.aload_n 1, 1) := by decide +kernel
theorem dLa_law_256 : decode code 256 = .ok (.aload_n 0, 1) := by decide +kernel
theorem dLa_law_257 : decode code 257 = .ok (.iload 4, 2) := by decide +kernel
theorem dLa_law_259 : decode code 259 = .ok (.iconst 1, 1) := by decide +kernel
theorem dLa_law_260 : decode code 260 = .ok (.iadd, 1) := by decide +kernel
theorem dLa_law_261 : decode code 261 = .ok (.iaload, 1) := by decide +kernel
theorem dLa_law_262 : decode code 262 = .ok (.aload_n 0, 1) := by decide +kernel
theorem dLa_law_263 : decode code 263 = .ok (.iload 4, 2) := by decide +kernel
theorem dLa_law_265 : decode code 265 = .ok (.iconst 2, 1) := by decide +kernel
theorem dLa_law_266 : decode code 266 = .ok (.iadd, 1) := by decide +kernel
theorem dLa_law_267 : decode code 267 = .ok (.iaload, 1) := by decide +kernel
theorem dLa_law_268 : decode code 268 = .ok (.aload_n 0, 1) := by decide +kernel
theorem dLa_law_269 : decode code 269 = .ok (.iload 4, 2) := by decide +kernel
theorem dLa_law_271 : decode code 271 = .ok (.iconst 3, 1) := by decide +kernel
theorem dLa_law_272 : decode code 272 = .ok (.iadd, 1) := by decide +kernel
theorem dLa_law_273 : decode code 273 = .ok (.iaload, 1) := by decide +kernel
theorem dLa_law_274 : decode code 274 = .ok (.aload_n 3, 1) := by decide +kernel
theorem dLa_law_275 : decode code 275 = .ok (.invokestatic 61, 3) := by decide +kernel
theorem dLa_law_278 : decode code 278 = .ok (.istore 5, 2) := by decide +kernel
theorem dLa_law_280 : decode code 280 = .ok (.aload_n 2, 1) := by decide +kernel
theorem dLa_law_281 : decode code 281 = .ok (.aload_n 0, 1) := by decide +kernel
theorem dLa_law_282 : decode code 282 = .ok (.iload 4, 2) := by decide +kernel
theorem dLa_law_284 : decode code 284 = .ok (.iconst 1, 1) := by decide +kernel
theorem dLa_law_285 : decode code 285 = .ok (.iadd, 1) := by decide +kernel
theorem dLa_law_286 : decode code 286 = .ok (.iaload, 1) := by decide +kernel
theorem dLa_law_287 : decode code 287 = .ok (.aload_n 0, 1) := by decide +kernel
theorem dLa_law_288 : decode code 288 = .ok (.iload 4, 2) := by decide +kernel
theorem dLa_law_290 : decode code 290 = .ok (.iconst 2, 1) := by decide +kernel
theorem dLa_law_291 : decode code 291 = .ok (.iadd, 1) := by decide +kernel
theorem dLa_law_292 : decode code 292 = .ok (.iaload, 1) := by decide +kernel
theorem dLa_law_293 : decode code 293 = .ok (.aload_n 0, 1) := by decide +kernel
theorem dLa_law_294 : decode code 294 = .ok (.iload 4, 2) := by decide +kernel
theorem dLa_law_296 : decode code 296 = .ok (.iconst 3, 1) := by decide +kernel
theorem dLa_law_297 : decode code 297 = .ok (.iadd, 1) := by decide +kernel
theorem dLa_law_298 : decode code 298 = .ok (.iaload, 1) := by decide +kernel
theorem dLa_law_299 : decode code 299 = .ok (.invokevirtual 64, 3) := by decide +kernel
theorem dLa_law_302 : decode code 302 = .ok (.istore 6, 2) := by decide +kernel
theorem dLa_law_304 : decode code 304 = .ok (.aload_n 2, 1) := by decide +kernel
theorem dLa_law_305 : decode code 305 = .ok (.invokevirtual 53, 3) := by decide +kernel
theorem dLa_law_308 : decode code 308 = .ok (.iload 5, 2) := by decide +kernel
theorem dLa_law_310 : decode code 310 = .ok (.if_icmp .eq 5, 3) := by decide +kernel
theorem dLa_law_313 : decode code 313 = .ok (.iconst 0, 1) := by decide +kernel
theorem dLa_law_314 : decode code 314 = .ok (.ireturn, 1) := by decide +kernel
theorem dLa_law_315 : decode code 315 = .ok (.iload 5, 2) := by decide +kernel
theorem dLa_law_317 : decode code 317 = .ok (.ifCond .ne 15, 3) := by decide +kernel
theorem dLa_law_320 : decode code 320 = .ok (.aload_n 3, 1) := by decide +kernel
theorem dLa_law_321 : decode code 321 = .ok (.iconst 0, 1) := by decide +kernel
theorem dLa_law_322 : decode code 322 = .ok (.laload, 1) := by decide +kernel
theorem dLa_law_323 : decode code 323 = .ok (.iload 6, 2) := by decide +kernel
theorem dLa_law_325 : decode code 325 = .ok (.i2l, 1) := by decide +kernel
theorem dLa_law_326 : decode code 326 = .ok (.lcmp, 1) := by decide +kernel
theorem dLa_law_327 : decode code 327 = .ok (.ifCond .eq 5, 3) := by decide +kernel
theorem dLa_law_330 : decode code 330 = .ok (.iconst 0, 1) := by decide +kernel
theorem dLa_law_331 : decode code 331 = .ok (.ireturn, 1) := by decide +kernel
theorem dLa_law_332 : decode code 332 = .ok (.goto 276, 3) := by decide +kernel
theorem dLa_law_335 : decode code 335 = .ok (.aload_n 1, 1) := by decide +kernel
theorem dLa_law_336 : decode code 336 = .ok (.aload_n 0, 1) := by decide +kernel
theorem dLa_law_337 : decode code 337 = .ok (.iload 4, 2) := by decide +kernel
theorem dLa_law_339 : decode code 339 = .ok (.iconst 1, 1) := by decide +kernel
theorem dLa_law_340 : decode code 340 = .ok (.iadd, 1) := by decide +kernel
theorem dLa_law_341 : decode code 341 = .ok (.iaload, 1) := by decide +kernel
theorem dLa_law_342 : decode code 342 = .ok (.aload_n 3, 1) := by decide +kernel
theorem dLa_law_343 : decode code 343 = .ok (.invokestatic 65, 3) := by decide +kernel
theorem dLa_law_346 : decode code 346 = .ok (.istore 5, 2) := by decide +kernel
theorem dLa_law_348 : decode code 348 = .ok (.aload_n 2, 1) := by decide +kernel
theorem dLa_law_349 : decode code 349 = .ok (.aload_n 0, 1) := by decide +kernel
theorem dLa_law_350 : decode code 350 = .ok (.iload 4, 2) := by decide +kernel
theorem dLa_law_352 : decode code 352 = .ok (.iconst 1, 1) := by decide +kernel
theorem dLa_law_353 : decode code 353 = .ok (.iadd, 1) := by decide +kernel
theorem dLa_law_354 : decode code 354 = .ok (.iaload, 1) := by decide +kernel
theorem dLa_law_355 : decode code 355 = .ok (.invokevirtual 67, 3) := by decide +kernel
theorem dLa_law_358 : decode code 358 = .ok (.istore 6, 2) := by decide +kernel
theorem dLa_law_360 : decode code 360 = .ok (.aload_n 2, 1) := by decide +kernel
theorem dLa_law_361 : decode code 361 = .ok (.invokevirtual 53, 3) := by decide +kernel
theorem dLa_law_364 : decode code 364 = .ok (.iload 5, 2) := by decide +kernel
theorem dLa_law_366 : decode code 366 = .ok (.if_icmp .eq 5, 3) := by decide +kernel
theorem dLa_law_369 : decode code 369 = .ok (.iconst 0, 1) := by decide +kernel
theorem dLa_law_370 : decode code 370 = .ok (.ireturn, 1) := by decide +kernel
theorem dLa_law_371 : decode code 371 = .ok (.iload 5, 2) := by decide +kernel
theorem dLa_law_373 : decode code 373 = .ok (.ifCond .ne 15, 3) := by decide +kernel
theorem dLa_law_376 : decode code 376 = .ok (.aload_n 3, 1) := by decide +kernel
theorem dLa_law_377 : decode code 377 = .ok (.iconst 0, 1) := by decide +kernel
theorem dLa_law_378 : decode code 378 = .ok (.laload, 1) := by decide +kernel
theorem dLa_law_379 : decode code 379 = .ok (.iload 6, 2) := by decide +kernel
theorem dLa_law_381 : decode code 381 = .ok (.i2l, 1) := by decide +kernel
theorem dLa_law_382 : decode code 382 = .ok (.lcmp, 1) := by decide +kernel
theorem dLa_law_383 : decode code 383 = .ok (.ifCond .eq 5, 3) := by decide +kernel
theorem dLa_law_386 : decode code 386 = .ok (.iconst 0, 1) := by decide +kernel
theorem dLa_law_387 : decode code 387 = .ok (.ireturn, 1) := by decide +kernel
theorem dLa_law_388 : decode code 388 = .ok (.goto 220, 3) := by decide +kernel
theorem dLa_law_391 : decode code 391 = .ok (.aload_n 1, 1) := by decide +kernel
theorem dLa_law_392 : decode code 392 = .ok (.invokevirtual 68, 3) := by decide +kernel
theorem dLa_law_395 : decode code 395 = .ok (.aload_n 2, 1) := by decide +kernel
theorem dLa_law_396 : decode code 396 = .ok (.invokevirtual 71, 3) := by decide +kernel
theorem dLa_law_399 : decode code 399 = .ok (.goto 209, 3) := by decide +kernel
theorem dLa_law_402 : decode code 402 = .ok (.aload_n 1, 1) := by decide +kernel
theorem dLa_law_403 : decode code 403 = .ok (.aload_n 0, 1) := by decide +kernel
theorem dLa_law_404 : decode code 404 = .ok (.iload 4, 2) := by decide +kernel
theorem dLa_law_406 : decode code 406 = .ok (.iconst 1, 1) := by decide +kernel
theorem dLa_law_407 : decode code 407 = .ok (.iadd, 1) := by decide +kernel
theorem dLa_law_408 : decode code 408 = .ok (.iaload, 1) := by decide +kernel
theorem dLa_law_409 : decode code 409 = .ok (.aload_n 3, 1) := by decide +kernel
theorem dLa_law_410 : decode code 410 = .ok (.invokestatic 72, 3) := by decide +kernel
theorem dLa_law_413 : decode code 413 = .ok (.istore 5, 2) := by decide +kernel
theorem dLa_law_415 : decode code 415 = .ok (.aload_n 2, 1) := by decide +kernel
theorem dLa_law_416 : decode code 416 = .ok (.aload_n 0, 1) := by decide +kernel
theorem dLa_law_417 : decode code 417 = .ok (.iload 4, 2) := by decide +kernel
theorem dLa_law_419 : decode code 419 = .ok (.iconst 1, 1) := by decide +kernel
theorem dLa_law_420 : decode code 420 = .ok (.iadd, 1) := by decide +kernel
theorem dLa_law_421 : decode code 421 = .ok (.iaload, 1) := by decide +kernel
theorem dLa_law_422 : decode code 422 = .ok (.invokevirtual 74, 3) := by decide +kernel
theorem dLa_law_425 : decode code 425 = .ok (.lstore 6, 2) := by decide +kernel
theorem dLa_law_427 : decode code 427 = .ok (.aload_n 2, 1) := by decide +kernel
theorem dLa_law_428 : decode code 428 = .ok (.invokevirtual 53, 3) := by decide +kernel
theorem dLa_law_431 : decode code 431 = .ok (.iload 5, 2) := by decide +kernel
theorem dLa_law_433 : decode code 433 = .ok (.if_icmp .eq 5, 3) := by decide +kernel
theorem dLa_law_436 : decode code 436 = .ok (.iconst 0, 1) := by decide +kernel
theorem dLa_law_437 : decode code 437 = .ok (.ireturn, 1) := by decide +kernel
theorem dLa_law_438 : decode code 438 = .ok (.iload 5, 2) := by decide +kernel
theorem dLa_law_440 : decode code 440 = .ok (.ifCond .ne 14, 3) := by decide +kernel
theorem dLa_law_443 : decode code 443 = .ok (.aload_n 3, 1) := by decide +kernel
theorem dLa_law_444 : decode code 444 = .ok (.iconst 0, 1) := by decide +kernel
theorem dLa_law_445 : decode code 445 = .ok (.laload, 1) := by decide +kernel
theorem dLa_law_446 : decode code 446 = .ok (.lload 6, 2) := by decide +kernel
theorem dLa_law_448 : decode code 448 = .ok (.lcmp, 1) := by decide +kernel
theorem dLa_law_449 : decode code 449 = .ok (.ifCond .eq 5, 3) := by decide +kernel
theorem dLa_law_452 : decode code 452 = .ok (.iconst 0, 1) := by decide +kernel
theorem dLa_law_453 : decode code 453 = .ok (.ireturn, 1) := by decide +kernel
theorem dLa_law_454 : decode code 454 = .ok (.goto 154, 3) := by decide +kernel
theorem dLa_law_457 : decode code 457 = .ok (.aload_n 1, 1) := by decide +kernel
theorem dLa_law_458 : decode code 458 = .ok (.invokevirtual 75, 3) := by decide +kernel
theorem dLa_law_461 : decode code 461 = .ok (.aload_n 2, 1) := by decide +kernel
theorem dLa_law_462 : decode code 462 = .ok (.invokevirtual 79, 3) := by decide +kernel
theorem dLa_law_465 : decode code 465 = .ok (.lcmp, 1) := by decide +kernel
theorem dLa_law_466 : decode code 466 = .ok (.ifCond .eq 142, 3) := by decide +kernel
theorem dLa_law_469 : decode code 469 = .ok (.iconst 0, 1) := by decide +kernel
theorem dLa_law_470 : decode code 470 = .ok (.ireturn, 1) := by decide +kernel
theorem dLa_law_471 : decode code 471 = .ok (.aload_n 1, 1) := by decide +kernel
theorem dLa_law_472 : decode code 472 = .ok (.aload_n 0, 1) := by decide +kernel
theorem dLa_law_473 : decode code 473 = .ok (.iload 4, 2) := by decide +kernel
theorem dLa_law_475 : decode code 475 = .ok (.iconst 1, 1) := by decide +kernel
theorem dLa_law_476 : decode code 476 = .ok (.iadd, 1) := by decide +kernel
theorem dLa_law_477 : decode code 477 = .ok (.iaload, 1) := by decide +kernel
theorem dLa_law_478 : decode code 478 = .ok (.aload_n 0, 1) := by decide +kernel
theorem dLa_law_479 : decode code 479 = .ok (.iload 4, 2) := by decide +kernel
theorem dLa_law_481 : decode code 481 = .ok (.iconst 2, 1) := by decide +kernel
theorem dLa_law_482 : decode code 482 = .ok (.iadd, 1) := by decide +kernel
theorem dLa_law_483 : decode code 483 = .ok (.iaload, 1) := by decide +kernel
theorem dLa_law_484 : decode code 484 = .ok (.aload_n 3, 1) := by decide +kernel
theorem dLa_law_485 : decode code 485 = .ok (.invokestatic 80, 3) := by decide +kernel
theorem dLa_law_488 : decode code 488 = .ok (.istore 5, 2) := by decide +kernel
theorem dLa_law_490 : decode code 490 = .ok (.aload_n 2, 1) := by decide +kernel
theorem dLa_law_491 : decode code 491 = .ok (.aload_n 0, 1) := by decide +kernel
theorem dLa_law_492 : decode code 492 = .ok (.iload 4, 2) := by decide +kernel
theorem dLa_law_494 : decode code 494 = .ok (.iconst 1, 1) := by decide +kernel
theorem dLa_law_495 : decode code 495 = .ok (.iadd, 1) := by decide +kernel
theorem dLa_law_496 : decode code 496 = .ok (.iaload, 1) := by decide +kernel
theorem dLa_law_497 : decode code 497 = .ok (.aload_n 0, 1) := by decide +kernel
theorem dLa_law_498 : decode code 498 = .ok (.iload 4, 2) := by decide +kernel
theorem dLa_law_500 : decode code 500 = .ok (.iconst 2, 1) := by decide +kernel
theorem dLa_law_501 : decode code 501 = .ok (.iadd, 1) := by decide +kernel
theorem dLa_law_502 : decode code 502 = .ok (.iaload, 1) := by decide +kernel
theorem dLa_law_503 : decode code 503 = .ok (.invokevirtual 83, 3) := by decide +kernel
theorem dLa_law_506 : decode code 506 = .ok (.istore 6, 2) := by decide +kernel
theorem dLa_law_508 : decode code 508 = .ok (.aload_n 2, 1) := by decide +kernel
theorem dLa_law_509 : decode code 509 = .ok (.invokevirtual 53, 3) := by decide +kernel
theorem dLa_law_512 : decode code 512 = .ok (.iload 5, 2) := by decide +kernel
theorem dLa_law_514 : decode code 514 = .ok (.if_icmp .eq 5, 3) := by decide +kernel
theorem dLa_law_517 : decode code 517 = .ok (.iconst 0, 1) := by decide +kernel
theorem dLa_law_518 : decode code 518 = .ok (.ireturn, 1) := by decide +kernel
theorem dLa_law_519 : decode code 519 = .ok (.iload 5, 2) := by decide +kernel
theorem dLa_law_521 : decode code 521 = .ok (.ifCond .ne 15, 3) := by decide +kernel
theorem dLa_law_524 : decode code 524 = .ok (.aload_n 3, 1) := by decide +kernel
theorem dLa_law_525 : decode code 525 = .ok (.iconst 0, 1) := by decide +kernel
theorem dLa_law_526 : decode code 526 = .ok (.laload, 1) := by decide +kernel
theorem dLa_law_527 : decode code 527 = .ok (.iload 6, 2) := by decide +kernel
theorem dLa_law_529 : decode code 529 = .ok (.i2l, 1) := by decide +kernel
theorem dLa_law_530 : decode code 530 = .ok (.lcmp, 1) := by decide +kernel
theorem dLa_law_531 : decode code 531 = .ok (.ifCond .eq 5, 3) := by decide +kernel
theorem dLa_law_534 : decode code 534 = .ok (.iconst 0, 1) := by decide +kernel
theorem dLa_law_535 : decode code 535 = .ok (.ireturn, 1) := by decide +kernel
theorem dLa_law_536 : decode code 536 = .ok (.goto 72, 3) := by decide +kernel
theorem dLa_law_539 : decode code 539 = .ok (.aload_n 1, 1) := by decide +kernel
theorem dLa_law_540 : decode code 540 = .ok (.aload_n 0, 1) := by decide +kernel
theorem dLa_law_541 : decode code 541 = .ok (.iload 4, 2) := by decide +kernel
theorem dLa_law_543 : decode code 543 = .ok (.iconst 1, 1) := by decide +kernel
theorem dLa_law_544 : decode code 544 = .ok (.iadd, 1) := by decide +kernel
theorem dLa_law_545 : decode code 545 = .ok (.iaload, 1) := by decide +kernel
theorem dLa_law_546 : decode code 546 = .ok (.aload_n 3, 1) := by decide +kernel
theorem dLa_law_547 : decode code 547 = .ok (.invokestatic 84, 3) := by decide +kernel
theorem dLa_law_550 : decode code 550 = .ok (.istore 5, 2) := by decide +kernel
theorem dLa_law_552 : decode code 552 = .ok (.aload_n 2, 1) := by decide +kernel
theorem dLa_law_553 : decode code 553 = .ok (.aload_n 0, 1) := by decide +kernel
theorem dLa_law_554 : decode code 554 = .ok (.iload 4, 2) := by decide +kernel
theorem dLa_law_556 : decode code 556 = .ok (.iconst 1, 1) := by decide +kernel
theorem dLa_law_557 : decode code 557 = .ok (.iadd, 1) := by decide +kernel
theorem dLa_law_558 : decode code 558 = .ok (.iaload, 1) := by decide +kernel
theorem dLa_law_559 : decode code 559 = .ok (.invokevirtual 86, 3) := by decide +kernel
theorem dLa_law_562 : decode code 562 = .ok (.istore 6, 2) := by decide +kernel
theorem dLa_law_564 : decode code 564 = .ok (.aload_n 2, 1) := by decide +kernel
theorem dLa_law_565 : decode code 565 = .ok (.invokevirtual 53, 3) := by decide +kernel
theorem dLa_law_568 : decode code 568 = .ok (.iload 5, 2) := by decide +kernel
theorem dLa_law_570 : decode code 570 = .ok (.if_icmp .eq 5, 3) := by decide +kernel
theorem dLa_law_573 : decode code 573 = .ok (.iconst 0, 1) := by decide +kernel
theorem dLa_law_574 : decode code 574 = .ok (.ireturn, 1) := by decide +kernel
theorem dLa_law_575 : decode code 575 = .ok (.iload 5, 2) := by decide +kernel
theorem dLa_law_577 : decode code 577 = .ok (.ifCond .ne 15, 3) := by decide +kernel
theorem dLa_law_580 : decode code 580 = .ok (.aload_n 3, 1) := by decide +kernel
theorem dLa_law_581 : decode code 581 = .ok (.iconst 0, 1) := by decide +kernel
theorem dLa_law_582 : decode code 582 = .ok (.laload, 1) := by decide +kernel
theorem dLa_law_583 : decode code 583 = .ok (.iload 6, 2) := by decide +kernel
theorem dLa_law_585 : decode code 585 = .ok (.i2l, 1) := by decide +kernel
theorem dLa_law_586 : decode code 586 = .ok (.lcmp, 1) := by decide +kernel
theorem dLa_law_587 : decode code 587 = .ok (.ifCond .eq 5, 3) := by decide +kernel
theorem dLa_law_590 : decode code 590 = .ok (.iconst 0, 1) := by decide +kernel
theorem dLa_law_591 : decode code 591 = .ok (.ireturn, 1) := by decide +kernel
theorem dLa_law_592 : decode code 592 = .ok (.goto 16, 3) := by decide +kernel
theorem dLa_law_595 : decode code 595 = .ok (.aload_n 1, 1) := by decide +kernel
theorem dLa_law_596 : decode code 596 = .ok (.invokevirtual 87, 3) := by decide +kernel
theorem dLa_law_599 : decode code 599 = .ok (.aload_n 2, 1) := by decide +kernel
theorem dLa_law_600 : decode code 600 = .ok (.invokevirtual 90, 3) := by decide +kernel
theorem dLa_law_603 : decode code 603 = .ok (.if_icmp .eq 5, 3) := by decide +kernel
theorem dLa_law_606 : decode code 606 = .ok (.iconst 0, 1) := by decide +kernel
theorem dLa_law_607 : decode code 607 = .ok (.ireturn, 1) := by decide +kernel
theorem dLa_law_608 : decode code 608 = .ok (.iinc 4 6, 3) := by decide +kernel
theorem dLa_law_611 : decode code 611 = .ok (.goto (-588), 3) := by decide +kernel
theorem dLa_law_614 : decode code 614 = .ok (.iconst 1, 1) := by decide +kernel
theorem dLa_law_615 : decode code 615 = .ok (.ireturn, 1) := by decide +kernel
