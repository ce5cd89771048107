/-! decode rows, by a program of mine. -/
theorem dMo_workOut_0 : decode cMo_workOut 0 = .ok (.iconst 0, 1) := by decide +kernel
theorem dMo_workOut_1 : decode cMo_workOut 1 = .ok (.istore_n 2, 1) := by decide +kernel
theorem dMo_workOut_2 : decode cMo_workOut 2 = .ok (.iload_n 2, 1) := by decide +kernel
theorem dMo_workOut_3 : decode cMo_workOut 3 = .ok (.bipush 64, 2) := by decide +kernel
theorem dMo_workOut_5 : decode cMo_workOut 5 = .ok (.if_icmp .ge 20, 3) := by decide +kernel
theorem dMo_workOut_8 : decode cMo_workOut 8 = .ok (.aload_n 0, 1) := by decide +kernel
theorem dMo_workOut_9 : decode cMo_workOut 9 = .ok (.getfield 13, 3) := by decide +kernel
theorem dMo_workOut_12 : decode cMo_workOut 12 = .ok (.iload_n 2, 1) := by decide +kernel
theorem dMo_workOut_13 : decode cMo_workOut 13 = .ok (.aload_n 0, 1) := by decide +kernel
theorem dMo_workOut_14 : decode cMo_workOut 14 = .ok (.iload_n 2, 1) := by decide +kernel
theorem dMo_workOut_15 : decode cMo_workOut 15 = .ok (.invokevirtual 64, 3) := by decide +kernel
theorem dMo_workOut_18 : decode cMo_workOut 18 = .ok (.lastore, 1) := by decide +kernel
theorem dMo_workOut_19 : decode cMo_workOut 19 = .ok (.iinc 2 1, 3) := by decide +kernel
theorem dMo_workOut_22 : decode cMo_workOut 22 = .ok (.goto (-20), 3) := by decide +kernel
theorem dMo_workOut_25 : decode cMo_workOut 25 = .ok (.iconst 0, 1) := by decide +kernel
theorem dMo_workOut_26 : decode cMo_workOut 26 = .ok (.istore_n 2, 1) := by decide +kernel
theorem dMo_workOut_27 : decode cMo_workOut 27 = .ok (.iload_n 2, 1) := by decide +kernel
theorem dMo_workOut_28 : decode cMo_workOut 28 = .ok (.aload_n 0, 1) := by decide +kernel
theorem dMo_workOut_29 : decode cMo_workOut 29 = .ok (.getfield 68, 3) := by decide +kernel
theorem dMo_workOut_32 : decode cMo_workOut 32 = .ok (.if_icmp .ge 96, 3) := by decide +kernel
theorem dMo_workOut_35 : decode cMo_workOut 35 = .ok (.aload_n 0, 1) := by decide +kernel
theorem dMo_workOut_36 : decode cMo_workOut 36 = .ok (.getfield 17, 3) := by decide +kernel
theorem dMo_workOut_39 : decode cMo_workOut 39 = .ok (.iload_n 2, 1) := by decide +kernel
theorem dMo_workOut_40 : decode cMo_workOut 40 = .ok (.iaload, 1) := by decide +kernel
theorem dMo_workOut_41 : decode cMo_workOut 41 = .ok (.iconst 4, 1) := by decide +kernel
theorem dMo_workOut_42 : decode cMo_workOut 42 = .ok (.if_icmp .gt 80, 3) := by decide +kernel
theorem dMo_workOut_45 : decode cMo_workOut 45 = .ok (.aload_n 0, 1) := by decide +kernel
theorem dMo_workOut_46 : decode cMo_workOut 46 = .ok (.aload_n 0, 1) := by decide +kernel
theorem dMo_workOut_47 : decode cMo_workOut 47 = .ok (.getfield 17, 3) := by decide +kernel
theorem dMo_workOut_50 : decode cMo_workOut 50 = .ok (.iload_n 2, 1) := by decide +kernel
theorem dMo_workOut_51 : decode cMo_workOut 51 = .ok (.iaload, 1) := by decide +kernel
theorem dMo_workOut_52 : decode cMo_workOut 52 = .ok (.invokevirtual 74, 3) := by decide +kernel
theorem dMo_workOut_55 : decode cMo_workOut 55 = .ok (.istore_n 3, 1) := by decide +kernel
theorem dMo_workOut_56 : decode cMo_workOut 56 = .ok (.aload_n 0, 1) := by decide +kernel
theorem dMo_workOut_57 : decode cMo_workOut 57 = .ok (.getfield 26, 3) := by decide +kernel
theorem dMo_workOut_60 : decode cMo_workOut 60 = .ok (.iload_n 2, 1) := by decide +kernel
theorem dMo_workOut_61 : decode cMo_workOut 61 = .ok (.aload_n 0, 1) := by decide +kernel
theorem dMo_workOut_62 : decode cMo_workOut 62 = .ok (.aload_n 0, 1) := by decide +kernel
theorem dMo_workOut_63 : decode cMo_workOut 63 = .ok (.getfield 17, 3) := by decide +kernel
theorem dMo_workOut_66 : decode cMo_workOut 66 = .ok (.iload_n 2, 1) := by decide +kernel
theorem dMo_workOut_67 : decode cMo_workOut 67 = .ok (.iaload, 1) := by decide +kernel
theorem dMo_workOut_68 : decode cMo_workOut 68 = .ok (.aload_n 0, 1) := by decide +kernel
theorem dMo_workOut_69 : decode cMo_workOut 69 = .ok (.getfield 17, 3) := by decide +kernel
theorem dMo_workOut_72 : decode cMo_workOut 72 = .ok (.iload_n 2, 1) := by decide +kernel
theorem dMo_workOut_73 : decode cMo_workOut 73 = .ok (.iaload, 1) := by decide +kernel
theorem dMo_workOut_74 : decode cMo_workOut 74 = .ok (.iconst 1, 1) := by decide +kernel
theorem dMo_workOut_75 : decode cMo_workOut 75 = .ok (.if_icmp .le 17, 3) := by decide +kernel
theorem dMo_workOut_78 : decode cMo_workOut 78 = .ok (.aload_n 0, 1) := by decide +kernel
theorem dMo_workOut_79 : decode cMo_workOut 79 = .ok (.getfield 26, 3) := by decide +kernel
theorem dMo_workOut_82 : decode cMo_workOut 82 = .ok (.aload_n 0, 1) := by decide +kernel
theorem dMo_workOut_83 : decode cMo_workOut 83 = .ok (.getfield 20, 3) := by decide +kernel
theorem dMo_workOut_86 : decode cMo_workOut 86 = .ok (.iload_n 2, 1) := by decide +kernel
theorem dMo_workOut_87 : decode cMo_workOut 87 = .ok (.iaload, 1) := by decide +kernel
theorem dMo_workOut_88 : decode cMo_workOut 88 = .ok (.laload, 1) := by decide +kernel
theorem dMo_workOut_89 : decode cMo_workOut 89 = .ok (.goto 4, 3) := by decide +kernel
theorem dMo_workOut_92 : decode cMo_workOut 92 = .ok (.lconst 0, 1) := by decide +kernel
theorem dMo_workOut_93 : decode cMo_workOut 93 = .ok (.iload_n 3, 1) := by decide +kernel
theorem dMo_workOut_94 : decode cMo_workOut 94 = .ok (.ifCond .eq 17, 3) := by decide +kernel
theorem dMo_workOut_97 : decode cMo_workOut 97 = .ok (.aload_n 0, 1) := by decide +kernel
theorem dMo_workOut_98 : decode cMo_workOut 98 = .ok (.getfield 26, 3) := by decide +kernel
theorem dMo_workOut_101 : decode cMo_workOut 101 = .ok (.aload_n 0, 1) := by decide +kernel
theorem dMo_workOut_102 : decode cMo_workOut 102 = .ok (.getfield 23, 3) := by decide +kernel
theorem dMo_workOut_105 : decode cMo_workOut 105 = .ok (.iload_n 2, 1) := by decide +kernel
theorem dMo_workOut_106 : decode cMo_workOut 106 = .ok (.iaload, 1) := by decide +kernel
theorem dMo_workOut_107 : decode cMo_workOut 107 = .ok (.laload, 1) := by decide +kernel
theorem dMo_workOut_108 : decode cMo_workOut 108 = .ok (.goto 4, 3) := by decide +kernel
theorem dMo_workOut_111 : decode cMo_workOut 111 = .ok (.lconst 0, 1) := by decide +kernel
theorem dMo_workOut_112 : decode cMo_workOut 112 = .ok (.aload_n 0, 1) := by decide +kernel
theorem dMo_workOut_113 : decode cMo_workOut 113 = .ok (.getfield 20, 3) := by decide +kernel
theorem dMo_workOut_116 : decode cMo_workOut 116 = .ok (.iload_n 2, 1) := by decide +kernel
theorem dMo_workOut_117 : decode cMo_workOut 117 = .ok (.iaload, 1) := by decide +kernel
theorem dMo_workOut_118 : decode cMo_workOut 118 = .ok (.invokevirtual 111, 3) := by decide +kernel
theorem dMo_workOut_121 : decode cMo_workOut 121 = .ok (.lastore, 1) := by decide +kernel
theorem dMo_workOut_122 : decode cMo_workOut 122 = .ok (.iinc 2 1, 3) := by decide +kernel
theorem dMo_workOut_125 : decode cMo_workOut 125 = .ok (.goto (-98), 3) := by decide +kernel
theorem dMo_workOut_128 : decode cMo_workOut 128 = .ok (.iconst 0, 1) := by decide +kernel
theorem dMo_workOut_129 : decode cMo_workOut 129 = .ok (.istore_n 2, 1) := by decide +kernel
theorem dMo_workOut_130 : decode cMo_workOut 130 = .ok (.iload_n 2, 1) := by decide +kernel
theorem dMo_workOut_131 : decode cMo_workOut 131 = .ok (.aload_n 0, 1) := by decide +kernel
theorem dMo_workOut_132 : decode cMo_workOut 132 = .ok (.getfield 80, 3) := by decide +kernel
theorem dMo_workOut_135 : decode cMo_workOut 135 = .ok (.if_icmp .ge 26, 3) := by decide +kernel
theorem dMo_workOut_138 : decode cMo_workOut 138 = .ok (.aload_n 0, 1) := by decide +kernel
theorem dMo_workOut_139 : decode cMo_workOut 139 = .ok (.getfield 32, 3) := by decide +kernel
theorem dMo_workOut_142 : decode cMo_workOut 142 = .ok (.iload_n 2, 1) := by decide +kernel
theorem dMo_workOut_143 : decode cMo_workOut 143 = .ok (.aload_n 0, 1) := by decide +kernel
theorem dMo_workOut_144 : decode cMo_workOut 144 = .ok (.getfield 26, 3) := by decide +kernel
theorem dMo_workOut_147 : decode cMo_workOut 147 = .ok (.aload_n 0, 1) := by decide +kernel
theorem dMo_workOut_148 : decode cMo_workOut 148 = .ok (.getfield 29, 3) := by decide +kernel
theorem dMo_workOut_151 : decode cMo_workOut 151 = .ok (.iload_n 2, 1) := by decide +kernel
theorem dMo_workOut_152 : decode cMo_workOut 152 = .ok (.iaload, 1) := by decide +kernel
theorem dMo_workOut_153 : decode cMo_workOut 153 = .ok (.laload, 1) := by decide +kernel
theorem dMo_workOut_154 : decode cMo_workOut 154 = .ok (.lastore, 1) := by decide +kernel
theorem dMo_workOut_155 : decode cMo_workOut 155 = .ok (.iinc 2 1, 3) := by decide +kernel
theorem dMo_workOut_158 : decode cMo_workOut 158 = .ok (.goto (-28), 3) := by decide +kernel
theorem dMo_workOut_161 : decode cMo_workOut 161 = .ok (.aload_n 0, 1) := by decide +kernel
theorem dMo_workOut_162 : decode cMo_workOut 162 = .ok (.ldc2_w 102, 3) := by decide +kernel
theorem dMo_workOut_165 : decode cMo_workOut 165 = .ok (.invokevirtual 104, 3) := by decide +kernel
theorem dMo_workOut_168 : decode cMo_workOut 168 = .ok (.lstore_n 2, 1) := by decide +kernel
theorem dMo_workOut_169 : decode cMo_workOut 169 = .ok (.iconst 0, 1) := by decide +kernel
theorem dMo_workOut_170 : decode cMo_workOut 170 = .ok (.istore 4, 2) := by decide +kernel
theorem dMo_workOut_172 : decode cMo_workOut 172 = .ok (.iload 4, 2) := by decide +kernel
theorem dMo_workOut_174 : decode cMo_workOut 174 = .ok (.iload_n 1, 1) := by decide +kernel
theorem dMo_workOut_175 : decode cMo_workOut 175 = .ok (.if_icmp .gt 160, 3) := by decide +kernel
theorem dMo_workOut_178 : decode cMo_workOut 178 = .ok (.aload_n 0, 1) := by decide +kernel
theorem dMo_workOut_179 : decode cMo_workOut 179 = .ok (.getfield 17, 3) := by decide +kernel
theorem dMo_workOut_182 : decode cMo_workOut 182 = .ok (.iload 4, 2) := by decide +kernel
theorem dMo_workOut_184 : decode cMo_workOut 184 = .ok (.iaload, 1) := by decide +kernel
theorem dMo_workOut_185 : decode cMo_workOut 185 = .ok (.iconst 1, 1) := by decide +kernel
theorem dMo_workOut_186 : decode cMo_workOut 186 = .ok (.if_icmp .le 18, 3) := by decide +kernel
theorem dMo_workOut_189 : decode cMo_workOut 189 = .ok (.aload_n 0, 1) := by decide +kernel
theorem dMo_workOut_190 : decode cMo_workOut 190 = .ok (.getfield 26, 3) := by decide +kernel
theorem dMo_workOut_193 : decode cMo_workOut 193 = .ok (.aload_n 0, 1) := by decide +kernel
theorem dMo_workOut_194 : decode cMo_workOut 194 = .ok (.getfield 20, 3) := by decide +kernel
theorem dMo_workOut_197 : decode cMo_workOut 197 = .ok (.iload 4, 2) := by decide +kernel
theorem dMo_workOut_199 : decode cMo_workOut 199 = .ok (.iaload, 1) := by decide +kernel
theorem dMo_workOut_200 : decode cMo_workOut 200 = .ok (.laload, 1) := by decide +kernel
theorem dMo_workOut_201 : decode cMo_workOut 201 = .ok (.goto 4, 3) := by decide +kernel
theorem dMo_workOut_204 : decode cMo_workOut 204 = .ok (.lconst 0, 1) := by decide +kernel
theorem dMo_workOut_205 : decode cMo_workOut 205 = .ok (.lstore 5, 2) := by decide +kernel
theorem dMo_workOut_207 : decode cMo_workOut 207 = .ok (.aload_n 0, 1) := by decide +kernel
theorem dMo_workOut_208 : decode cMo_workOut 208 = .ok (.aload_n 0, 1) := by decide +kernel
theorem dMo_workOut_209 : decode cMo_workOut 209 = .ok (.getfield 17, 3) := by decide +kernel
theorem dMo_workOut_212 : decode cMo_workOut 212 = .ok (.iload 4, 2) := by decide +kernel
theorem dMo_workOut_214 : decode cMo_workOut 214 = .ok (.iaload, 1) := by decide +kernel
theorem dMo_workOut_215 : decode cMo_workOut 215 = .ok (.invokevirtual 74, 3) := by decide +kernel
theorem dMo_workOut_218 : decode cMo_workOut 218 = .ok (.ifCond .eq 18, 3) := by decide +kernel
theorem dMo_workOut_221 : decode cMo_workOut 221 = .ok (.aload_n 0, 1) := by decide +kernel
theorem dMo_workOut_222 : decode cMo_workOut 222 = .ok (.getfield 26, 3) := by decide +kernel
theorem dMo_workOut_225 : decode cMo_workOut 225 = .ok (.aload_n 0, 1) := by decide +kernel
theorem dMo_workOut_226 : decode cMo_workOut 226 = .ok (.getfield 23, 3) := by decide +kernel
theorem dMo_workOut_229 : decode cMo_workOut 229 = .ok (.iload 4, 2) := by decide +kernel
theorem dMo_workOut_231 : decode cMo_workOut 231 = .ok (.iaload, 1) := by decide +kernel
theorem dMo_workOut_232 : decode cMo_workOut 232 = .ok (.laload, 1) := by decide +kernel
theorem dMo_workOut_233 : decode cMo_workOut 233 = .ok (.goto 4, 3) := by decide +kernel
theorem dMo_workOut_236 : decode cMo_workOut 236 = .ok (.lconst 0, 1) := by decide +kernel
theorem dMo_workOut_237 : decode cMo_workOut 237 = .ok (.lstore 7, 2) := by decide +kernel
theorem dMo_workOut_239 : decode cMo_workOut 239 = .ok (.aload_n 0, 1) := by decide +kernel
theorem dMo_workOut_240 : decode cMo_workOut 240 = .ok (.getfield 26, 3) := by decide +kernel
theorem dMo_workOut_243 : decode cMo_workOut 243 = .ok (.iload 4, 2) := by decide +kernel
theorem dMo_workOut_245 : decode cMo_workOut 245 = .ok (.aload_n 0, 1) := by decide +kernel
theorem dMo_workOut_246 : decode cMo_workOut 246 = .ok (.getfield 17, 3) := by decide +kernel
theorem dMo_workOut_249 : decode cMo_workOut 249 = .ok (.iload 4, 2) := by decide +kernel
theorem dMo_workOut_251 : decode cMo_workOut 251 = .ok (.iaload, 1) := by decide +kernel
theorem dMo_workOut_252 : decode cMo_workOut 252 = .ok (.iconst 4, 1) := by decide +kernel
theorem dMo_workOut_253 : decode cMo_workOut 253 = .ok (.if_icmp .gt 28, 3) := by decide +kernel
theorem dMo_workOut_256 : decode cMo_workOut 256 = .ok (.aload_n 0, 1) := by decide +kernel
theorem dMo_workOut_257 : decode cMo_workOut 257 = .ok (.aload_n 0, 1) := by decide +kernel
theorem dMo_workOut_258 : decode cMo_workOut 258 = .ok (.getfield 17, 3) := by decide +kernel
theorem dMo_workOut_261 : decode cMo_workOut 261 = .ok (.iload 4, 2) := by decide +kernel
theorem dMo_workOut_263 : decode cMo_workOut 263 = .ok (.iaload, 1) := by decide +kernel
theorem dMo_workOut_264 : decode cMo_workOut 264 = .ok (.lload 5, 2) := by decide +kernel
theorem dMo_workOut_266 : decode cMo_workOut 266 = .ok (.lload 7, 2) := by decide +kernel
theorem dMo_workOut_268 : decode cMo_workOut 268 = .ok (.aload_n 0, 1) := by decide +kernel
theorem dMo_workOut_269 : decode cMo_workOut 269 = .ok (.getfield 20, 3) := by decide +kernel
theorem dMo_workOut_272 : decode cMo_workOut 272 = .ok (.iload 4, 2) := by decide +kernel
theorem dMo_workOut_274 : decode cMo_workOut 274 = .ok (.iaload, 1) := by decide +kernel
theorem dMo_workOut_275 : decode cMo_workOut 275 = .ok (.invokevirtual 111, 3) := by decide +kernel
theorem dMo_workOut_278 : decode cMo_workOut 278 = .ok (.goto 50, 3) := by decide +kernel
theorem dMo_workOut_281 : decode cMo_workOut 281 = .ok (.aload_n 0, 1) := by decide +kernel
theorem dMo_workOut_282 : decode cMo_workOut 282 = .ok (.getfield 17, 3) := by decide +kernel
theorem dMo_workOut_285 : decode cMo_workOut 285 = .ok (.iload 4, 2) := by decide +kernel
theorem dMo_workOut_287 : decode cMo_workOut 287 = .ok (.iaload, 1) := by decide +kernel
theorem dMo_workOut_288 : decode cMo_workOut 288 = .ok (.bipush 9, 2) := by decide +kernel
theorem dMo_workOut_290 : decode cMo_workOut 290 = .ok (.if_icmp .ge 22, 3) := by decide +kernel
theorem dMo_workOut_293 : decode cMo_workOut 293 = .ok (.aload_n 0, 1) := by decide +kernel
theorem dMo_workOut_294 : decode cMo_workOut 294 = .ok (.aload_n 0, 1) := by decide +kernel
theorem dMo_workOut_295 : decode cMo_workOut 295 = .ok (.getfield 17, 3) := by decide +kernel
theorem dMo_workOut_298 : decode cMo_workOut 298 = .ok (.iload 4, 2) := by decide +kernel
theorem dMo_workOut_300 : decode cMo_workOut 300 = .ok (.iaload, 1) := by decide +kernel
theorem dMo_workOut_301 : decode cMo_workOut 301 = .ok (.lload 5, 2) := by decide +kernel
theorem dMo_workOut_303 : decode cMo_workOut 303 = .ok (.lload 7, 2) := by decide +kernel
theorem dMo_workOut_305 : decode cMo_workOut 305 = .ok (.lload_n 2, 1) := by decide +kernel
theorem dMo_workOut_306 : decode cMo_workOut 306 = .ok (.invokevirtual 107, 3) := by decide +kernel
theorem dMo_workOut_309 : decode cMo_workOut 309 = .ok (.goto 19, 3) := by decide +kernel
theorem dMo_workOut_312 : decode cMo_workOut 312 = .ok (.aload_n 0, 1) := by decide +kernel
theorem dMo_workOut_313 : decode cMo_workOut 313 = .ok (.aload_n 0, 1) := by decide +kernel
theorem dMo_workOut_314 : decode cMo_workOut 314 = .ok (.getfield 17, 3) := by decide +kernel
theorem dMo_workOut_317 : decode cMo_workOut 317 = .ok (.iload 4, 2) := by decide +kernel
theorem dMo_workOut_319 : decode cMo_workOut 319 = .ok (.iaload, 1) := by decide +kernel
theorem dMo_workOut_320 : decode cMo_workOut 320 = .ok (.lload 5, 2) := by decide +kernel
theorem dMo_workOut_322 : decode cMo_workOut 322 = .ok (.lload 7, 2) := by decide +kernel
theorem dMo_workOut_324 : decode cMo_workOut 324 = .ok (.lload_n 2, 1) := by decide +kernel
theorem dMo_workOut_325 : decode cMo_workOut 325 = .ok (.invokevirtual 115, 3) := by decide +kernel
theorem dMo_workOut_328 : decode cMo_workOut 328 = .ok (.lastore, 1) := by decide +kernel
theorem dMo_workOut_329 : decode cMo_workOut 329 = .ok (.iinc 4 1, 3) := by decide +kernel
theorem dMo_workOut_332 : decode cMo_workOut 332 = .ok (.goto (-160), 3) := by decide +kernel
theorem dMo_workOut_335 : decode cMo_workOut 335 = .ok (.lload_n 2, 1) := by decide +kernel
theorem dMo_workOut_336 : decode cMo_workOut 336 = .ok (.lreturn, 1) := by decide +kernel
theorem dMo_plain_0 : decode cMo_plain 0 = .ok (.iload_n 1, 1) := by decide +kernel
theorem dMo_plain_1 : decode cMo_plain 1 = .ok (.ifCond .ne 50, 3) := by decide +kernel
theorem dMo_plain_4 : decode cMo_plain 4 = .ok (.lconst 0, 1) := by decide +kernel
theorem dMo_plain_5 : decode cMo_plain 5 = .ok (.lstore 7, 2) := by decide +kernel
theorem dMo_plain_7 : decode cMo_plain 7 = .ok (.iconst 0, 1) := by decide +kernel
theorem dMo_plain_8 : decode cMo_plain 8 = .ok (.istore 9, 2) := by decide +kernel
theorem dMo_plain_10 : decode cMo_plain 10 = .ok (.iload 9, 2) := by decide +kernel
theorem dMo_plain_12 : decode cMo_plain 12 = .ok (.bipush 64, 2) := by decide +kernel
theorem dMo_plain_14 : decode cMo_plain 14 = .ok (.if_icmp .ge 34, 3) := by decide +kernel
theorem dMo_plain_17 : decode cMo_plain 17 = .ok (.iload 9, 2) := by decide +kernel
theorem dMo_plain_19 : decode cMo_plain 19 = .ok (.iload 6, 2) := by decide +kernel
theorem dMo_plain_21 : decode cMo_plain 21 = .ok (.ishr, 1) := by decide +kernel
theorem dMo_plain_22 : decode cMo_plain 22 = .ok (.iconst 1, 1) := by decide +kernel
theorem dMo_plain_23 : decode cMo_plain 23 = .ok (.iand, 1) := by decide +kernel
theorem dMo_plain_24 : decode cMo_plain 24 = .ok (.iconst 1, 1) := by decide +kernel
theorem dMo_plain_25 : decode cMo_plain 25 = .ok (.if_icmp .ne 13, 3) := by decide +kernel
theorem dMo_plain_28 : decode cMo_plain 28 = .ok (.lload 7, 2) := by decide +kernel
theorem dMo_plain_30 : decode cMo_plain 30 = .ok (.lconst 1, 1) := by decide +kernel
theorem dMo_plain_31 : decode cMo_plain 31 = .ok (.iload 9, 2) := by decide +kernel
theorem dMo_plain_33 : decode cMo_plain 33 = .ok (.lshl, 1) := by decide +kernel
theorem dMo_plain_34 : decode cMo_plain 34 = .ok (.lor, 1) := by decide +kernel
theorem dMo_plain_35 : decode cMo_plain 35 = .ok (.goto 5, 3) := by decide +kernel
theorem dMo_plain_38 : decode cMo_plain 38 = .ok (.lload 7, 2) := by decide +kernel
theorem dMo_plain_40 : decode cMo_plain 40 = .ok (.lstore 7, 2) := by decide +kernel
theorem dMo_plain_42 : decode cMo_plain 42 = .ok (.iinc 9 1, 3) := by decide +kernel
theorem dMo_plain_45 : decode cMo_plain 45 = .ok (.goto (-35), 3) := by decide +kernel
theorem dMo_plain_48 : decode cMo_plain 48 = .ok (.lload 7, 2) := by decide +kernel
theorem dMo_plain_50 : decode cMo_plain 50 = .ok (.lreturn, 1) := by decide +kernel
theorem dMo_plain_51 : decode cMo_plain 51 = .ok (.iload_n 1, 1) := by decide +kernel
theorem dMo_plain_52 : decode cMo_plain 52 = .ok (.iconst 1, 1) := by decide +kernel
theorem dMo_plain_53 : decode cMo_plain 53 = .ok (.if_icmp .ne 9, 3) := by decide +kernel
theorem dMo_plain_56 : decode cMo_plain 56 = .ok (.ldc2_w 102, 3) := by decide +kernel
theorem dMo_plain_59 : decode cMo_plain 59 = .ok (.goto 32, 3) := by decide +kernel
theorem dMo_plain_62 : decode cMo_plain 62 = .ok (.iload_n 1, 1) := by decide +kernel
theorem dMo_plain_63 : decode cMo_plain 63 = .ok (.iconst 2, 1) := by decide +kernel
theorem dMo_plain_64 : decode cMo_plain 64 = .ok (.if_icmp .ne 11, 3) := by decide +kernel
theorem dMo_plain_67 : decode cMo_plain 67 = .ok (.lload_n 2, 1) := by decide +kernel
theorem dMo_plain_68 : decode cMo_plain 68 = .ok (.ldc2_w 102, 3) := by decide +kernel
theorem dMo_plain_71 : decode cMo_plain 71 = .ok (.lxor, 1) := by decide +kernel
theorem dMo_plain_72 : decode cMo_plain 72 = .ok (.goto 19, 3) := by decide +kernel
theorem dMo_plain_75 : decode cMo_plain 75 = .ok (.iload_n 1, 1) := by decide +kernel
theorem dMo_plain_76 : decode cMo_plain 76 = .ok (.iconst 3, 1) := by decide +kernel
theorem dMo_plain_77 : decode cMo_plain 77 = .ok (.if_icmp .ne 10, 3) := by decide +kernel
theorem dMo_plain_80 : decode cMo_plain 80 = .ok (.lload_n 2, 1) := by decide +kernel
theorem dMo_plain_81 : decode cMo_plain 81 = .ok (.lload 4, 2) := by decide +kernel
theorem dMo_plain_83 : decode cMo_plain 83 = .ok (.land, 1) := by decide +kernel
theorem dMo_plain_84 : decode cMo_plain 84 = .ok (.goto 7, 3) := by decide +kernel
theorem dMo_plain_87 : decode cMo_plain 87 = .ok (.lload_n 2, 1) := by decide +kernel
theorem dMo_plain_88 : decode cMo_plain 88 = .ok (.lload 4, 2) := by decide +kernel
theorem dMo_plain_90 : decode cMo_plain 90 = .ok (.lor, 1) := by decide +kernel
theorem dMo_plain_91 : decode cMo_plain 91 = .ok (.lreturn, 1) := by decide +kernel
theorem dMo_staying_0 : decode cMo_staying 0 = .ok (.aload_n 0, 1) := by decide +kernel
theorem dMo_staying_1 : decode cMo_staying 1 = .ok (.lload_n 1, 1) := by decide +kernel
theorem dMo_staying_2 : decode cMo_staying 2 = .ok (.invokevirtual 91, 3) := by decide +kernel
theorem dMo_staying_5 : decode cMo_staying 5 = .ok (.lconst 0, 1) := by decide +kernel
theorem dMo_staying_6 : decode cMo_staying 6 = .ok (.lstore_n 3, 1) := by decide +kernel
theorem dMo_staying_7 : decode cMo_staying 7 = .ok (.iconst 0, 1) := by decide +kernel
theorem dMo_staying_8 : decode cMo_staying 8 = .ok (.istore 5, 2) := by decide +kernel
theorem dMo_staying_10 : decode cMo_staying 10 = .ok (.iload 5, 2) := by decide +kernel
theorem dMo_staying_12 : decode cMo_staying 12 = .ok (.bipush 64, 2) := by decide +kernel
theorem dMo_staying_14 : decode cMo_staying 14 = .ok (.if_icmp .ge 29, 3) := by decide +kernel
theorem dMo_staying_17 : decode cMo_staying 17 = .ok (.aload_n 0, 1) := by decide +kernel
theorem dMo_staying_18 : decode cMo_staying 18 = .ok (.iload 5, 2) := by decide +kernel
theorem dMo_staying_20 : decode cMo_staying 20 = .ok (.invokevirtual 95, 3) := by decide +kernel
theorem dMo_staying_23 : decode cMo_staying 23 = .ok (.ifCond .eq 12, 3) := by decide +kernel
theorem dMo_staying_26 : decode cMo_staying 26 = .ok (.lload_n 3, 1) := by decide +kernel
theorem dMo_staying_27 : decode cMo_staying 27 = .ok (.lconst 1, 1) := by decide +kernel
theorem dMo_staying_28 : decode cMo_staying 28 = .ok (.iload 5, 2) := by decide +kernel
theorem dMo_staying_30 : decode cMo_staying 30 = .ok (.lshl, 1) := by decide +kernel
theorem dMo_staying_31 : decode cMo_staying 31 = .ok (.lor, 1) := by decide +kernel
theorem dMo_staying_32 : decode cMo_staying 32 = .ok (.goto 4, 3) := by decide +kernel
theorem dMo_staying_35 : decode cMo_staying 35 = .ok (.lload_n 3, 1) := by decide +kernel
theorem dMo_staying_36 : decode cMo_staying 36 = .ok (.lstore_n 3, 1) := by decide +kernel
theorem dMo_staying_37 : decode cMo_staying 37 = .ok (.iinc 5 1, 3) := by decide +kernel
theorem dMo_staying_40 : decode cMo_staying 40 = .ok (.goto (-30), 3) := by decide +kernel
theorem dMo_staying_43 : decode cMo_staying 43 = .ok (.aload_n 0, 1) := by decide +kernel
theorem dMo_staying_44 : decode cMo_staying 44 = .ok (.lload_n 3, 1) := by decide +kernel
theorem dMo_staying_45 : decode cMo_staying 45 = .ok (.lload_n 1, 1) := by decide +kernel
theorem dMo_staying_46 : decode cMo_staying 46 = .ok (.invokevirtual 98, 3) := by decide +kernel
theorem dMo_staying_49 : decode cMo_staying 49 = .ok (.lreturn, 1) := by decide +kernel
theorem dMo_findLeads_0 : decode cMo_findLeads 0 = .ok (.iconst 0, 1) := by decide +kernel
theorem dMo_findLeads_1 : decode cMo_findLeads 1 = .ok (.istore_n 3, 1) := by decide +kernel
theorem dMo_findLeads_2 : decode cMo_findLeads 2 = .ok (.iload_n 3, 1) := by decide +kernel
theorem dMo_findLeads_3 : decode cMo_findLeads 3 = .ok (.bipush 64, 2) := by decide +kernel
theorem dMo_findLeads_5 : decode cMo_findLeads 5 = .ok (.if_icmp .ge 36, 3) := by decide +kernel
theorem dMo_findLeads_8 : decode cMo_findLeads 8 = .ok (.aload_n 0, 1) := by decide +kernel
theorem dMo_findLeads_9 : decode cMo_findLeads 9 = .ok (.getfield 35, 3) := by decide +kernel
theorem dMo_findLeads_12 : decode cMo_findLeads 12 = .ok (.iload_n 3, 1) := by decide +kernel
theorem dMo_findLeads_13 : decode cMo_findLeads 13 = .ok (.aload_n 0, 1) := by decide +kernel
theorem dMo_findLeads_14 : decode cMo_findLeads 14 = .ok (.lload_n 1, 1) := by decide +kernel
theorem dMo_findLeads_15 : decode cMo_findLeads 15 = .ok (.iload_n 3, 1) := by decide +kernel
theorem dMo_findLeads_16 : decode cMo_findLeads 16 = .ok (.invokevirtual 87, 3) := by decide +kernel
theorem dMo_findLeads_19 : decode cMo_findLeads 19 = .ok (.ifCond .eq 14, 3) := by decide +kernel
theorem dMo_findLeads_22 : decode cMo_findLeads 22 = .ok (.aload_n 0, 1) := by decide +kernel
theorem dMo_findLeads_23 : decode cMo_findLeads 23 = .ok (.getfield 13, 3) := by decide +kernel
theorem dMo_findLeads_26 : decode cMo_findLeads 26 = .ok (.iload_n 3, 1) := by decide +kernel
theorem dMo_findLeads_27 : decode cMo_findLeads 27 = .ok (.laload, 1) := by decide +kernel
theorem dMo_findLeads_28 : decode cMo_findLeads 28 = .ok (.lload_n 1, 1) := by decide +kernel
theorem dMo_findLeads_29 : decode cMo_findLeads 29 = .ok (.land, 1) := by decide +kernel
theorem dMo_findLeads_30 : decode cMo_findLeads 30 = .ok (.goto 4, 3) := by decide +kernel
theorem dMo_findLeads_33 : decode cMo_findLeads 33 = .ok (.lconst 0, 1) := by decide +kernel
theorem dMo_findLeads_34 : decode cMo_findLeads 34 = .ok (.lastore, 1) := by decide +kernel
theorem dMo_findLeads_35 : decode cMo_findLeads 35 = .ok (.iinc 3 1, 3) := by decide +kernel
theorem dMo_findLeads_38 : decode cMo_findLeads 38 = .ok (.goto (-36), 3) := by decide +kernel
theorem dMo_findLeads_41 : decode cMo_findLeads 41 = .ok (.iconst 0, 1) := by decide +kernel
theorem dMo_findLeads_42 : decode cMo_findLeads 42 = .ok (.istore_n 3, 1) := by decide +kernel
theorem dMo_findLeads_43 : decode cMo_findLeads 43 = .ok (.iload_n 3, 1) := by decide +kernel
theorem dMo_findLeads_44 : decode cMo_findLeads 44 = .ok (.bipush 64, 2) := by decide +kernel
theorem dMo_findLeads_46 : decode cMo_findLeads 46 = .ok (.if_icmp .ge 71, 3) := by decide +kernel
theorem dMo_findLeads_49 : decode cMo_findLeads 49 = .ok (.iconst 0, 1) := by decide +kernel
theorem dMo_findLeads_50 : decode cMo_findLeads 50 = .ok (.istore 4, 2) := by decide +kernel
theorem dMo_findLeads_52 : decode cMo_findLeads 52 = .ok (.iload 4, 2) := by decide +kernel
theorem dMo_findLeads_54 : decode cMo_findLeads 54 = .ok (.bipush 64, 2) := by decide +kernel
theorem dMo_findLeads_56 : decode cMo_findLeads 56 = .ok (.if_icmp .ge 55, 3) := by decide +kernel
theorem dMo_findLeads_59 : decode cMo_findLeads 59 = .ok (.aload_n 0, 1) := by decide +kernel
theorem dMo_findLeads_60 : decode cMo_findLeads 60 = .ok (.getfield 35, 3) := by decide +kernel
theorem dMo_findLeads_63 : decode cMo_findLeads 63 = .ok (.iload 4, 2) := by decide +kernel
theorem dMo_findLeads_65 : decode cMo_findLeads 65 = .ok (.aload_n 0, 1) := by decide +kernel
theorem dMo_findLeads_66 : decode cMo_findLeads 66 = .ok (.aload_n 0, 1) := by decide +kernel
theorem dMo_findLeads_67 : decode cMo_findLeads 67 = .ok (.getfield 35, 3) := by decide +kernel
theorem dMo_findLeads_70 : decode cMo_findLeads 70 = .ok (.iload 4, 2) := by decide +kernel
theorem dMo_findLeads_72 : decode cMo_findLeads 72 = .ok (.laload, 1) := by decide +kernel
theorem dMo_findLeads_73 : decode cMo_findLeads 73 = .ok (.iload_n 3, 1) := by decide +kernel
theorem dMo_findLeads_74 : decode cMo_findLeads 74 = .ok (.invokevirtual 87, 3) := by decide +kernel
theorem dMo_findLeads_77 : decode cMo_findLeads 77 = .ok (.ifCond .eq 20, 3) := by decide +kernel
theorem dMo_findLeads_80 : decode cMo_findLeads 80 = .ok (.aload_n 0, 1) := by decide +kernel
theorem dMo_findLeads_81 : decode cMo_findLeads 81 = .ok (.getfield 35, 3) := by decide +kernel
theorem dMo_findLeads_84 : decode cMo_findLeads 84 = .ok (.iload 4, 2) := by decide +kernel
theorem dMo_findLeads_86 : decode cMo_findLeads 86 = .ok (.laload, 1) := by decide +kernel
theorem dMo_findLeads_87 : decode cMo_findLeads 87 = .ok (.aload_n 0, 1) := by decide +kernel
theorem dMo_findLeads_88 : decode cMo_findLeads 88 = .ok (.getfield 35, 3) := by decide +kernel
theorem dMo_findLeads_91 : decode cMo_findLeads 91 = .ok (.iload_n 3, 1) := by decide +kernel
theorem dMo_findLeads_92 : decode cMo_findLeads 92 = .ok (.laload, 1) := by decide +kernel
theorem dMo_findLeads_93 : decode cMo_findLeads 93 = .ok (.lor, 1) := by decide +kernel
theorem dMo_findLeads_94 : decode cMo_findLeads 94 = .ok (.goto 10, 3) := by decide +kernel
theorem dMo_findLeads_97 : decode cMo_findLeads 97 = .ok (.aload_n 0, 1) := by decide +kernel
theorem dMo_findLeads_98 : decode cMo_findLeads 98 = .ok (.getfield 35, 3) := by decide +kernel
theorem dMo_findLeads_101 : decode cMo_findLeads 101 = .ok (.iload 4, 2) := by decide +kernel
theorem dMo_findLeads_103 : decode cMo_findLeads 103 = .ok (.laload, 1) := by decide +kernel
theorem dMo_findLeads_104 : decode cMo_findLeads 104 = .ok (.lastore, 1) := by decide +kernel
theorem dMo_findLeads_105 : decode cMo_findLeads 105 = .ok (.iinc 4 1, 3) := by decide +kernel
theorem dMo_findLeads_108 : decode cMo_findLeads 108 = .ok (.goto (-56), 3) := by decide +kernel
theorem dMo_findLeads_111 : decode cMo_findLeads 111 = .ok (.iinc 3 1, 3) := by decide +kernel
theorem dMo_findLeads_114 : decode cMo_findLeads 114 = .ok (.goto (-71), 3) := by decide +kernel
theorem dMo_findLeads_117 : decode cMo_findLeads 117 = .ok (.return_, 1) := by decide +kernel
theorem dMo_in_0 : decode cMo_in 0 = .ok (.lload_n 1, 1) := by decide +kernel
theorem dMo_in_1 : decode cMo_in 1 = .ok (.iload_n 3, 1) := by decide +kernel
theorem dMo_in_2 : decode cMo_in 2 = .ok (.lshr, 1) := by decide +kernel
theorem dMo_in_3 : decode cMo_in 3 = .ok (.lconst 1, 1) := by decide +kernel
theorem dMo_in_4 : decode cMo_in 4 = .ok (.land, 1) := by decide +kernel
theorem dMo_in_5 : decode cMo_in 5 = .ok (.lconst 1, 1) := by decide +kernel
theorem dMo_in_6 : decode cMo_in 6 = .ok (.lcmp, 1) := by decide +kernel
theorem dMo_in_7 : decode cMo_in 7 = .ok (.ifCond .ne 7, 3) := by decide +kernel
theorem dMo_in_10 : decode cMo_in 10 = .ok (.iconst 1, 1) := by decide +kernel
theorem dMo_in_11 : decode cMo_in 11 = .ok (.goto 4, 3) := by decide +kernel
theorem dMo_in_14 : decode cMo_in 14 = .ok (.iconst 0, 1) := by decide +kernel
theorem dMo_in_15 : decode cMo_in 15 = .ok (.ireturn, 1) := by decide +kernel
theorem dMo_rounds_0 : decode cMo_rounds 0 = .ok (.aload_n 0, 1) := by decide +kernel
theorem dMo_rounds_1 : decode cMo_rounds 1 = .ok (.aload_n 0, 1) := by decide +kernel
theorem dMo_rounds_2 : decode cMo_rounds 2 = .ok (.getfield 35, 3) := by decide +kernel
theorem dMo_rounds_5 : decode cMo_rounds 5 = .ok (.iload_n 1, 1) := by decide +kernel
theorem dMo_rounds_6 : decode cMo_rounds 6 = .ok (.laload, 1) := by decide +kernel
theorem dMo_rounds_7 : decode cMo_rounds 7 = .ok (.iload_n 1, 1) := by decide +kernel
theorem dMo_rounds_8 : decode cMo_rounds 8 = .ok (.invokevirtual 87, 3) := by decide +kernel
theorem dMo_rounds_11 : decode cMo_rounds 11 = .ok (.ifCond .ne 5, 3) := by decide +kernel
theorem dMo_rounds_14 : decode cMo_rounds 14 = .ok (.iconst 0, 1) := by decide +kernel
theorem dMo_rounds_15 : decode cMo_rounds 15 = .ok (.ireturn, 1) := by decide +kernel
theorem dMo_rounds_16 : decode cMo_rounds 16 = .ok (.lconst 0, 1) := by decide +kernel
theorem dMo_rounds_17 : decode cMo_rounds 17 = .ok (.lstore_n 2, 1) := by decide +kernel
theorem dMo_rounds_18 : decode cMo_rounds 18 = .ok (.iconst 0, 1) := by decide +kernel
theorem dMo_rounds_19 : decode cMo_rounds 19 = .ok (.istore 4, 2) := by decide +kernel
theorem dMo_rounds_21 : decode cMo_rounds 21 = .ok (.iload 4, 2) := by decide +kernel
theorem dMo_rounds_23 : decode cMo_rounds 23 = .ok (.bipush 64, 2) := by decide +kernel
theorem dMo_rounds_25 : decode cMo_rounds 25 = .ok (.if_icmp .ge 50, 3) := by decide +kernel
theorem dMo_rounds_28 : decode cMo_rounds 28 = .ok (.aload_n 0, 1) := by decide +kernel
theorem dMo_rounds_29 : decode cMo_rounds 29 = .ok (.aload_n 0, 1) := by decide +kernel
theorem dMo_rounds_30 : decode cMo_rounds 30 = .ok (.getfield 35, 3) := by decide +kernel
theorem dMo_rounds_33 : decode cMo_rounds 33 = .ok (.iload_n 1, 1) := by decide +kernel
theorem dMo_rounds_34 : decode cMo_rounds 34 = .ok (.laload, 1) := by decide +kernel
theorem dMo_rounds_35 : decode cMo_rounds 35 = .ok (.iload 4, 2) := by decide +kernel
theorem dMo_rounds_37 : decode cMo_rounds 37 = .ok (.invokevirtual 87, 3) := by decide +kernel
theorem dMo_rounds_40 : decode cMo_rounds 40 = .ok (.ifCond .eq 27, 3) := by decide +kernel
theorem dMo_rounds_43 : decode cMo_rounds 43 = .ok (.aload_n 0, 1) := by decide +kernel
theorem dMo_rounds_44 : decode cMo_rounds 44 = .ok (.aload_n 0, 1) := by decide +kernel
theorem dMo_rounds_45 : decode cMo_rounds 45 = .ok (.getfield 35, 3) := by decide +kernel
theorem dMo_rounds_48 : decode cMo_rounds 48 = .ok (.iload 4, 2) := by decide +kernel
theorem dMo_rounds_50 : decode cMo_rounds 50 = .ok (.laload, 1) := by decide +kernel
theorem dMo_rounds_51 : decode cMo_rounds 51 = .ok (.iload_n 1, 1) := by decide +kernel
theorem dMo_rounds_52 : decode cMo_rounds 52 = .ok (.invokevirtual 87, 3) := by decide +kernel
theorem dMo_rounds_55 : decode cMo_rounds 55 = .ok (.ifCond .eq 12, 3) := by decide +kernel
theorem dMo_rounds_58 : decode cMo_rounds 58 = .ok (.lload_n 2, 1) := by decide +kernel
theorem dMo_rounds_59 : decode cMo_rounds 59 = .ok (.lconst 1, 1) := by decide +kernel
theorem dMo_rounds_60 : decode cMo_rounds 60 = .ok (.iload 4, 2) := by decide +kernel
theorem dMo_rounds_62 : decode cMo_rounds 62 = .ok (.lshl, 1) := by decide +kernel
theorem dMo_rounds_63 : decode cMo_rounds 63 = .ok (.lor, 1) := by decide +kernel
theorem dMo_rounds_64 : decode cMo_rounds 64 = .ok (.goto 4, 3) := by decide +kernel
theorem dMo_rounds_67 : decode cMo_rounds 67 = .ok (.lload_n 2, 1) := by decide +kernel
theorem dMo_rounds_68 : decode cMo_rounds 68 = .ok (.lstore_n 2, 1) := by decide +kernel
theorem dMo_rounds_69 : decode cMo_rounds 69 = .ok (.iinc 4 1, 3) := by decide +kernel
theorem dMo_rounds_72 : decode cMo_rounds 72 = .ok (.goto (-51), 3) := by decide +kernel
theorem dMo_rounds_75 : decode cMo_rounds 75 = .ok (.iconst 1, 1) := by decide +kernel
theorem dMo_rounds_76 : decode cMo_rounds 76 = .ok (.istore 4, 2) := by decide +kernel
theorem dMo_rounds_78 : decode cMo_rounds 78 = .ok (.iconst 0, 1) := by decide +kernel
theorem dMo_rounds_79 : decode cMo_rounds 79 = .ok (.istore 5, 2) := by decide +kernel
theorem dMo_rounds_81 : decode cMo_rounds 81 = .ok (.iload 5, 2) := by decide +kernel
theorem dMo_rounds_83 : decode cMo_rounds 83 = .ok (.aload_n 0, 1) := by decide +kernel
theorem dMo_rounds_84 : decode cMo_rounds 84 = .ok (.getfield 80, 3) := by decide +kernel
theorem dMo_rounds_87 : decode cMo_rounds 87 = .ok (.if_icmp .ge 35, 3) := by decide +kernel
theorem dMo_rounds_90 : decode cMo_rounds 90 = .ok (.iload 4, 2) := by decide +kernel
theorem dMo_rounds_92 : decode cMo_rounds 92 = .ok (.ifCond .eq 21, 3) := by decide +kernel
theorem dMo_rounds_95 : decode cMo_rounds 95 = .ok (.lload_n 2, 1) := by decide +kernel
theorem dMo_rounds_96 : decode cMo_rounds 96 = .ok (.aload_n 0, 1) := by decide +kernel
theorem dMo_rounds_97 : decode cMo_rounds 97 = .ok (.getfield 32, 3) := by decide +kernel
theorem dMo_rounds_100 : decode cMo_rounds 100 = .ok (.iload 5, 2) := by decide +kernel
theorem dMo_rounds_102 : decode cMo_rounds 102 = .ok (.laload, 1) := by decide +kernel
theorem dMo_rounds_103 : decode cMo_rounds 103 = .ok (.land, 1) := by decide +kernel
theorem dMo_rounds_104 : decode cMo_rounds 104 = .ok (.lconst 0, 1) := by decide +kernel
theorem dMo_rounds_105 : decode cMo_rounds 105 = .ok (.lcmp, 1) := by decide +kernel
theorem dMo_rounds_106 : decode cMo_rounds 106 = .ok (.ifCond .eq 7, 3) := by decide +kernel
theorem dMo_rounds_109 : decode cMo_rounds 109 = .ok (.iconst 1, 1) := by decide +kernel
theorem dMo_rounds_110 : decode cMo_rounds 110 = .ok (.goto 4, 3) := by decide +kernel
theorem dMo_rounds_113 : decode cMo_rounds 113 = .ok (.iconst 0, 1) := by decide +kernel
theorem dMo_rounds_114 : decode cMo_rounds 114 = .ok (.istore 4, 2) := by decide +kernel
theorem dMo_rounds_116 : decode cMo_rounds 116 = .ok (.iinc 5 1, 3) := by decide +kernel
theorem dMo_rounds_119 : decode cMo_rounds 119 = .ok (.goto (-38), 3) := by decide +kernel
theorem dMo_rounds_122 : decode cMo_rounds 122 = .ok (.iload 4, 2) := by decide +kernel
theorem dMo_rounds_124 : decode cMo_rounds 124 = .ok (.ireturn, 1) := by decide +kernel
theorem dMo_reaching_0 : decode cMo_reaching 0 = .ok (.lload_n 1, 1) := by decide +kernel
theorem dMo_reaching_1 : decode cMo_reaching 1 = .ok (.lstore 5, 2) := by decide +kernel
theorem dMo_reaching_3 : decode cMo_reaching 3 = .ok (.lconst 0, 1) := by decide +kernel
theorem dMo_reaching_4 : decode cMo_reaching 4 = .ok (.lstore 7, 2) := by decide +kernel
theorem dMo_reaching_6 : decode cMo_reaching 6 = .ok (.lload 5, 2) := by decide +kernel
theorem dMo_reaching_8 : decode cMo_reaching 8 = .ok (.lload 7, 2) := by decide +kernel
theorem dMo_reaching_10 : decode cMo_reaching 10 = .ok (.lcmp, 1) := by decide +kernel
theorem dMo_reaching_11 : decode cMo_reaching 11 = .ok (.ifCond .eq 23, 3) := by decide +kernel
theorem dMo_reaching_14 : decode cMo_reaching 14 = .ok (.lload 5, 2) := by decide +kernel
theorem dMo_reaching_16 : decode cMo_reaching 16 = .ok (.lstore 7, 2) := by decide +kernel
theorem dMo_reaching_18 : decode cMo_reaching 18 = .ok (.lload 5, 2) := by decide +kernel
theorem dMo_reaching_20 : decode cMo_reaching 20 = .ok (.aload_n 0, 1) := by decide +kernel
theorem dMo_reaching_21 : decode cMo_reaching 21 = .ok (.lload 5, 2) := by decide +kernel
theorem dMo_reaching_23 : decode cMo_reaching 23 = .ok (.invokevirtual 83, 3) := by decide +kernel
theorem dMo_reaching_26 : decode cMo_reaching 26 = .ok (.lload_n 3, 1) := by decide +kernel
theorem dMo_reaching_27 : decode cMo_reaching 27 = .ok (.land, 1) := by decide +kernel
theorem dMo_reaching_28 : decode cMo_reaching 28 = .ok (.lor, 1) := by decide +kernel
theorem dMo_reaching_29 : decode cMo_reaching 29 = .ok (.lstore 5, 2) := by decide +kernel
theorem dMo_reaching_31 : decode cMo_reaching 31 = .ok (.goto (-25), 3) := by decide +kernel
theorem dMo_reaching_34 : decode cMo_reaching 34 = .ok (.lload 5, 2) := by decide +kernel
theorem dMo_reaching_36 : decode cMo_reaching 36 = .ok (.lreturn, 1) := by decide +kernel
