/-! decode rows, by a program of mine. -/
theorem dMo_goRound_0 : decode cMo_goRound 0 = .ok (.iconst 0, 1) := by decide +kernel
theorem dMo_goRound_1 : decode cMo_goRound 1 = .ok (.istore 4, 2) := by decide +kernel
theorem dMo_goRound_3 : decode cMo_goRound 3 = .ok (.iload 4, 2) := by decide +kernel
theorem dMo_goRound_5 : decode cMo_goRound 5 = .ok (.bipush 64, 2) := by decide +kernel
theorem dMo_goRound_7 : decode cMo_goRound 7 = .ok (.if_icmp .ge 17, 3) := by decide +kernel
theorem dMo_goRound_10 : decode cMo_goRound 10 = .ok (.aload_n 0, 1) := by decide +kernel
theorem dMo_goRound_11 : decode cMo_goRound 11 = .ok (.getfield 48, 3) := by decide +kernel
theorem dMo_goRound_14 : decode cMo_goRound 14 = .ok (.iload 4, 2) := by decide +kernel
theorem dMo_goRound_16 : decode cMo_goRound 16 = .ok (.iconst 0, 1) := by decide +kernel
theorem dMo_goRound_17 : decode cMo_goRound 17 = .ok (.iastore, 1) := by decide +kernel
theorem dMo_goRound_18 : decode cMo_goRound 18 = .ok (.iinc 4 1, 3) := by decide +kernel
theorem dMo_goRound_21 : decode cMo_goRound 21 = .ok (.goto (-18), 3) := by decide +kernel
theorem dMo_goRound_24 : decode cMo_goRound 24 = .ok (.iload_n 1, 1) := by decide +kernel
theorem dMo_goRound_25 : decode cMo_goRound 25 = .ok (.istore 4, 2) := by decide +kernel
theorem dMo_goRound_27 : decode cMo_goRound 27 = .ok (.aload_n 0, 1) := by decide +kernel
theorem dMo_goRound_28 : decode cMo_goRound 28 = .ok (.getfield 48, 3) := by decide +kernel
theorem dMo_goRound_31 : decode cMo_goRound 31 = .ok (.iload 4, 2) := by decide +kernel
theorem dMo_goRound_33 : decode cMo_goRound 33 = .ok (.iaload, 1) := by decide +kernel
theorem dMo_goRound_34 : decode cMo_goRound 34 = .ok (.ifCond .ne 79, 3) := by decide +kernel
theorem dMo_goRound_37 : decode cMo_goRound 37 = .ok (.aload_n 0, 1) := by decide +kernel
theorem dMo_goRound_38 : decode cMo_goRound 38 = .ok (.getfield 124, 3) := by decide +kernel
theorem dMo_goRound_41 : decode cMo_goRound 41 = .ok (.ifCond .ne 72, 3) := by decide +kernel
theorem dMo_goRound_44 : decode cMo_goRound 44 = .ok (.aload_n 0, 1) := by decide +kernel
theorem dMo_goRound_45 : decode cMo_goRound 45 = .ok (.getfield 48, 3) := by decide +kernel
theorem dMo_goRound_48 : decode cMo_goRound 48 = .ok (.iload 4, 2) := by decide +kernel
theorem dMo_goRound_50 : decode cMo_goRound 50 = .ok (.aload_n 0, 1) := by decide +kernel
theorem dMo_goRound_51 : decode cMo_goRound 51 = .ok (.getfield 121, 3) := by decide +kernel
theorem dMo_goRound_54 : decode cMo_goRound 54 = .ok (.iastore, 1) := by decide +kernel
theorem dMo_goRound_55 : decode cMo_goRound 55 = .ok (.aload_n 0, 1) := by decide +kernel
theorem dMo_goRound_56 : decode cMo_goRound 56 = .ok (.aload_n 0, 1) := by decide +kernel
theorem dMo_goRound_57 : decode cMo_goRound 57 = .ok (.getfield 13, 3) := by decide +kernel
theorem dMo_goRound_60 : decode cMo_goRound 60 = .ok (.iload 4, 2) := by decide +kernel
theorem dMo_goRound_62 : decode cMo_goRound 62 = .ok (.laload, 1) := by decide +kernel
theorem dMo_goRound_63 : decode cMo_goRound 63 = .ok (.lload_n 2, 1) := by decide +kernel
theorem dMo_goRound_64 : decode cMo_goRound 64 = .ok (.land, 1) := by decide +kernel
theorem dMo_goRound_65 : decode cMo_goRound 65 = .ok (.invokevirtual 128, 3) := by decide +kernel
theorem dMo_goRound_68 : decode cMo_goRound 68 = .ok (.istore 4, 2) := by decide +kernel
theorem dMo_goRound_70 : decode cMo_goRound 70 = .ok (.aload_n 0, 1) := by decide +kernel
theorem dMo_goRound_71 : decode cMo_goRound 71 = .ok (.iload 4, 2) := by decide +kernel
theorem dMo_goRound_73 : decode cMo_goRound 73 = .ok (.invokevirtual 132, 3) := by decide +kernel
theorem dMo_goRound_76 : decode cMo_goRound 76 = .ok (.iconst 0, 1) := by decide +kernel
theorem dMo_goRound_77 : decode cMo_goRound 77 = .ok (.istore 5, 2) := by decide +kernel
theorem dMo_goRound_79 : decode cMo_goRound 79 = .ok (.iload 5, 2) := by decide +kernel
theorem dMo_goRound_81 : decode cMo_goRound 81 = .ok (.aload_n 0, 1) := by decide +kernel
theorem dMo_goRound_82 : decode cMo_goRound 82 = .ok (.getfield 80, 3) := by decide +kernel
theorem dMo_goRound_85 : decode cMo_goRound 85 = .ok (.if_icmp .ge 25, 3) := by decide +kernel
theorem dMo_goRound_88 : decode cMo_goRound 88 = .ok (.aload_n 0, 1) := by decide +kernel
theorem dMo_goRound_89 : decode cMo_goRound 89 = .ok (.iload 4, 2) := by decide +kernel
theorem dMo_goRound_91 : decode cMo_goRound 91 = .ok (.aload_n 0, 1) := by decide +kernel
theorem dMo_goRound_92 : decode cMo_goRound 92 = .ok (.getfield 32, 3) := by decide +kernel
theorem dMo_goRound_95 : decode cMo_goRound 95 = .ok (.iload 5, 2) := by decide +kernel
theorem dMo_goRound_97 : decode cMo_goRound 97 = .ok (.laload, 1) := by decide +kernel
theorem dMo_goRound_98 : decode cMo_goRound 98 = .ok (.lload_n 2, 1) := by decide +kernel
theorem dMo_goRound_99 : decode cMo_goRound 99 = .ok (.invokevirtual 136, 3) := by decide +kernel
theorem dMo_goRound_102 : decode cMo_goRound 102 = .ok (.istore 4, 2) := by decide +kernel
theorem dMo_goRound_104 : decode cMo_goRound 104 = .ok (.iinc 5 1, 3) := by decide +kernel
theorem dMo_goRound_107 : decode cMo_goRound 107 = .ok (.goto (-28), 3) := by decide +kernel
theorem dMo_goRound_110 : decode cMo_goRound 110 = .ok (.goto (-83), 3) := by decide +kernel
theorem dMo_goRound_113 : decode cMo_goRound 113 = .ok (.aload_n 0, 1) := by decide +kernel
theorem dMo_goRound_114 : decode cMo_goRound 114 = .ok (.aload_n 0, 1) := by decide +kernel
theorem dMo_goRound_115 : decode cMo_goRound 115 = .ok (.getfield 48, 3) := by decide +kernel
theorem dMo_goRound_118 : decode cMo_goRound 118 = .ok (.iload 4, 2) := by decide +kernel
theorem dMo_goRound_120 : decode cMo_goRound 120 = .ok (.iaload, 1) := by decide +kernel
theorem dMo_goRound_121 : decode cMo_goRound 121 = .ok (.iconst 1, 1) := by decide +kernel
theorem dMo_goRound_122 : decode cMo_goRound 122 = .ok (.isub, 1) := by decide +kernel
theorem dMo_goRound_123 : decode cMo_goRound 123 = .ok (.putfield 41, 3) := by decide +kernel
theorem dMo_goRound_126 : decode cMo_goRound 126 = .ok (.return_, 1) := by decide +kernel
theorem dMo_least_0 : decode cMo_least 0 = .ok (.iconst 0, 1) := by decide +kernel
theorem dMo_least_1 : decode cMo_least 1 = .ok (.istore_n 3, 1) := by decide +kernel
theorem dMo_least_2 : decode cMo_least 2 = .ok (.aload_n 0, 1) := by decide +kernel
theorem dMo_least_3 : decode cMo_least 3 = .ok (.lload_n 1, 1) := by decide +kernel
theorem dMo_least_4 : decode cMo_least 4 = .ok (.iload_n 3, 1) := by decide +kernel
theorem dMo_least_5 : decode cMo_least 5 = .ok (.invokevirtual 87, 3) := by decide +kernel
theorem dMo_least_8 : decode cMo_least 8 = .ok (.ifCond .ne 9, 3) := by decide +kernel
theorem dMo_least_11 : decode cMo_least 11 = .ok (.iinc 3 1, 3) := by decide +kernel
theorem dMo_least_14 : decode cMo_least 14 = .ok (.goto (-12), 3) := by decide +kernel
theorem dMo_least_17 : decode cMo_least 17 = .ok (.iload_n 3, 1) := by decide +kernel
theorem dMo_least_18 : decode cMo_least 18 = .ok (.ireturn, 1) := by decide +kernel
theorem dMo_go_0 : decode cMo_go 0 = .ok (.iconst 0, 1) := by decide +kernel
theorem dMo_go_1 : decode cMo_go 1 = .ok (.istore 6, 2) := by decide +kernel
theorem dMo_go_3 : decode cMo_go 3 = .ok (.iload 6, 2) := by decide +kernel
theorem dMo_go_5 : decode cMo_go 5 = .ok (.bipush 64, 2) := by decide +kernel
theorem dMo_go_7 : decode cMo_go 7 = .ok (.if_icmp .ge 34, 3) := by decide +kernel
theorem dMo_go_10 : decode cMo_go 10 = .ok (.aload_n 0, 1) := by decide +kernel
theorem dMo_go_11 : decode cMo_go 11 = .ok (.getfield 45, 3) := by decide +kernel
theorem dMo_go_14 : decode cMo_go 14 = .ok (.iload 6, 2) := by decide +kernel
theorem dMo_go_16 : decode cMo_go 16 = .ok (.aload_n 0, 1) := by decide +kernel
theorem dMo_go_17 : decode cMo_go 17 = .ok (.lload_n 2, 1) := by decide +kernel
theorem dMo_go_18 : decode cMo_go 18 = .ok (.lload 4, 2) := by decide +kernel
theorem dMo_go_20 : decode cMo_go 20 = .ok (.land, 1) := by decide +kernel
theorem dMo_go_21 : decode cMo_go 21 = .ok (.iload 6, 2) := by decide +kernel
theorem dMo_go_23 : decode cMo_go 23 = .ok (.invokevirtual 87, 3) := by decide +kernel
theorem dMo_go_26 : decode cMo_go 26 = .ok (.ifCond .eq 7, 3) := by decide +kernel
theorem dMo_go_29 : decode cMo_go 29 = .ok (.iconst 0, 1) := by decide +kernel
theorem dMo_go_30 : decode cMo_go 30 = .ok (.goto 4, 3) := by decide +kernel
theorem dMo_go_33 : decode cMo_go 33 = .ok (.iconst (-1), 1) := by decide +kernel
theorem dMo_go_34 : decode cMo_go 34 = .ok (.iastore, 1) := by decide +kernel
theorem dMo_go_35 : decode cMo_go 35 = .ok (.iinc 6 1, 3) := by decide +kernel
theorem dMo_go_38 : decode cMo_go 38 = .ok (.goto (-35), 3) := by decide +kernel
theorem dMo_go_41 : decode cMo_go 41 = .ok (.lload_n 2, 1) := by decide +kernel
theorem dMo_go_42 : decode cMo_go 42 = .ok (.lload 4, 2) := by decide +kernel
theorem dMo_go_44 : decode cMo_go 44 = .ok (.land, 1) := by decide +kernel
theorem dMo_go_45 : decode cMo_go 45 = .ok (.lstore 6, 2) := by decide +kernel
theorem dMo_go_47 : decode cMo_go 47 = .ok (.iconst 1, 1) := by decide +kernel
theorem dMo_go_48 : decode cMo_go 48 = .ok (.istore 8, 2) := by decide +kernel
theorem dMo_go_50 : decode cMo_go 50 = .ok (.iload 8, 2) := by decide +kernel
theorem dMo_go_52 : decode cMo_go 52 = .ok (.bipush 64, 2) := by decide +kernel
theorem dMo_go_54 : decode cMo_go 54 = .ok (.if_icmp .ge 80, 3) := by decide +kernel
theorem dMo_go_57 : decode cMo_go 57 = .ok (.aload_n 0, 1) := by decide +kernel
theorem dMo_go_58 : decode cMo_go 58 = .ok (.lload 6, 2) := by decide +kernel
theorem dMo_go_60 : decode cMo_go 60 = .ok (.invokevirtual 83, 3) := by decide +kernel
theorem dMo_go_63 : decode cMo_go 63 = .ok (.lload 4, 2) := by decide +kernel
theorem dMo_go_65 : decode cMo_go 65 = .ok (.land, 1) := by decide +kernel
theorem dMo_go_66 : decode cMo_go 66 = .ok (.lload 6, 2) := by decide +kernel
theorem dMo_go_68 : decode cMo_go 68 = .ok (.ldc2_w 102, 3) := by decide +kernel
theorem dMo_go_71 : decode cMo_go 71 = .ok (.lxor, 1) := by decide +kernel
theorem dMo_go_72 : decode cMo_go 72 = .ok (.land, 1) := by decide +kernel
theorem dMo_go_73 : decode cMo_go 73 = .ok (.lstore 9, 2) := by decide +kernel
theorem dMo_go_75 : decode cMo_go 75 = .ok (.iconst 0, 1) := by decide +kernel
theorem dMo_go_76 : decode cMo_go 76 = .ok (.istore 11, 2) := by decide +kernel
theorem dMo_go_78 : decode cMo_go 78 = .ok (.iload 11, 2) := by decide +kernel
theorem dMo_go_80 : decode cMo_go 80 = .ok (.bipush 64, 2) := by decide +kernel
theorem dMo_go_82 : decode cMo_go 82 = .ok (.if_icmp .ge 39, 3) := by decide +kernel
theorem dMo_go_85 : decode cMo_go 85 = .ok (.aload_n 0, 1) := by decide +kernel
theorem dMo_go_86 : decode cMo_go 86 = .ok (.getfield 45, 3) := by decide +kernel
theorem dMo_go_89 : decode cMo_go 89 = .ok (.iload 11, 2) := by decide +kernel
theorem dMo_go_91 : decode cMo_go 91 = .ok (.aload_n 0, 1) := by decide +kernel
theorem dMo_go_92 : decode cMo_go 92 = .ok (.lload 9, 2) := by decide +kernel
theorem dMo_go_94 : decode cMo_go 94 = .ok (.iload 11, 2) := by decide +kernel
theorem dMo_go_96 : decode cMo_go 96 = .ok (.invokevirtual 87, 3) := by decide +kernel
theorem dMo_go_99 : decode cMo_go 99 = .ok (.ifCond .eq 8, 3) := by decide +kernel
theorem dMo_go_102 : decode cMo_go 102 = .ok (.iload 8, 2) := by decide +kernel
theorem dMo_go_104 : decode cMo_go 104 = .ok (.goto 10, 3) := by decide +kernel
theorem dMo_go_107 : decode cMo_go 107 = .ok (.aload_n 0, 1) := by decide +kernel
theorem dMo_go_108 : decode cMo_go 108 = .ok (.getfield 45, 3) := by decide +kernel
theorem dMo_go_111 : decode cMo_go 111 = .ok (.iload 11, 2) := by decide +kernel
theorem dMo_go_113 : decode cMo_go 113 = .ok (.iaload, 1) := by decide +kernel
theorem dMo_go_114 : decode cMo_go 114 = .ok (.iastore, 1) := by decide +kernel
theorem dMo_go_115 : decode cMo_go 115 = .ok (.iinc 11 1, 3) := by decide +kernel
theorem dMo_go_118 : decode cMo_go 118 = .ok (.goto (-40), 3) := by decide +kernel
theorem dMo_go_121 : decode cMo_go 121 = .ok (.lload 6, 2) := by decide +kernel
theorem dMo_go_123 : decode cMo_go 123 = .ok (.lload 9, 2) := by decide +kernel
theorem dMo_go_125 : decode cMo_go 125 = .ok (.lor, 1) := by decide +kernel
theorem dMo_go_126 : decode cMo_go 126 = .ok (.lstore 6, 2) := by decide +kernel
theorem dMo_go_128 : decode cMo_go 128 = .ok (.iinc 8 1, 3) := by decide +kernel
theorem dMo_go_131 : decode cMo_go 131 = .ok (.goto (-81), 3) := by decide +kernel
theorem dMo_go_134 : decode cMo_go 134 = .ok (.iload_n 1, 1) := by decide +kernel
theorem dMo_go_135 : decode cMo_go 135 = .ok (.istore 8, 2) := by decide +kernel
theorem dMo_go_137 : decode cMo_go 137 = .ok (.aload_n 0, 1) := by decide +kernel
theorem dMo_go_138 : decode cMo_go 138 = .ok (.getfield 45, 3) := by decide +kernel
theorem dMo_go_141 : decode cMo_go 141 = .ok (.iload 8, 2) := by decide +kernel
theorem dMo_go_143 : decode cMo_go 143 = .ok (.iaload, 1) := by decide +kernel
theorem dMo_go_144 : decode cMo_go 144 = .ok (.ifCond .eq 106, 3) := by decide +kernel
theorem dMo_go_147 : decode cMo_go 147 = .ok (.aload_n 0, 1) := by decide +kernel
theorem dMo_go_148 : decode cMo_go 148 = .ok (.getfield 124, 3) := by decide +kernel
theorem dMo_go_151 : decode cMo_go 151 = .ok (.ifCond .ne 99, 3) := by decide +kernel
theorem dMo_go_154 : decode cMo_go 154 = .ok (.lconst 0, 1) := by decide +kernel
theorem dMo_go_155 : decode cMo_go 155 = .ok (.lstore 9, 2) := by decide +kernel
theorem dMo_go_157 : decode cMo_go 157 = .ok (.iconst 0, 1) := by decide +kernel
theorem dMo_go_158 : decode cMo_go 158 = .ok (.istore 11, 2) := by decide +kernel
theorem dMo_go_160 : decode cMo_go 160 = .ok (.iload 11, 2) := by decide +kernel
theorem dMo_go_162 : decode cMo_go 162 = .ok (.bipush 64, 2) := by decide +kernel
theorem dMo_go_164 : decode cMo_go 164 = .ok (.if_icmp .ge 69, 3) := by decide +kernel
theorem dMo_go_167 : decode cMo_go 167 = .ok (.aload_n 0, 1) := by decide +kernel
theorem dMo_go_168 : decode cMo_go 168 = .ok (.aload_n 0, 1) := by decide +kernel
theorem dMo_go_169 : decode cMo_go 169 = .ok (.getfield 13, 3) := by decide +kernel
theorem dMo_go_172 : decode cMo_go 172 = .ok (.iload 8, 2) := by decide +kernel
theorem dMo_go_174 : decode cMo_go 174 = .ok (.laload, 1) := by decide +kernel
theorem dMo_go_175 : decode cMo_go 175 = .ok (.lload 4, 2) := by decide +kernel
theorem dMo_go_177 : decode cMo_go 177 = .ok (.land, 1) := by decide +kernel
theorem dMo_go_178 : decode cMo_go 178 = .ok (.iload 11, 2) := by decide +kernel
theorem dMo_go_180 : decode cMo_go 180 = .ok (.invokevirtual 87, 3) := by decide +kernel
theorem dMo_go_183 : decode cMo_go 183 = .ok (.ifCond .eq 40, 3) := by decide +kernel
theorem dMo_go_186 : decode cMo_go 186 = .ok (.aload_n 0, 1) := by decide +kernel
theorem dMo_go_187 : decode cMo_go 187 = .ok (.getfield 45, 3) := by decide +kernel
theorem dMo_go_190 : decode cMo_go 190 = .ok (.iload 11, 2) := by decide +kernel
theorem dMo_go_192 : decode cMo_go 192 = .ok (.iaload, 1) := by decide +kernel
theorem dMo_go_193 : decode cMo_go 193 = .ok (.ifCond .lt 30, 3) := by decide +kernel
theorem dMo_go_196 : decode cMo_go 196 = .ok (.aload_n 0, 1) := by decide +kernel
theorem dMo_go_197 : decode cMo_go 197 = .ok (.getfield 45, 3) := by decide +kernel
theorem dMo_go_200 : decode cMo_go 200 = .ok (.iload 11, 2) := by decide +kernel
theorem dMo_go_202 : decode cMo_go 202 = .ok (.iaload, 1) := by decide +kernel
theorem dMo_go_203 : decode cMo_go 203 = .ok (.aload_n 0, 1) := by decide +kernel
theorem dMo_go_204 : decode cMo_go 204 = .ok (.getfield 45, 3) := by decide +kernel
theorem dMo_go_207 : decode cMo_go 207 = .ok (.iload 8, 2) := by decide +kernel
theorem dMo_go_209 : decode cMo_go 209 = .ok (.iaload, 1) := by decide +kernel
theorem dMo_go_210 : decode cMo_go 210 = .ok (.if_icmp .ge 13, 3) := by decide +kernel
theorem dMo_go_213 : decode cMo_go 213 = .ok (.lload 9, 2) := by decide +kernel
theorem dMo_go_215 : decode cMo_go 215 = .ok (.lconst 1, 1) := by decide +kernel
theorem dMo_go_216 : decode cMo_go 216 = .ok (.iload 11, 2) := by decide +kernel
theorem dMo_go_218 : decode cMo_go 218 = .ok (.lshl, 1) := by decide +kernel
theorem dMo_go_219 : decode cMo_go 219 = .ok (.lor, 1) := by decide +kernel
theorem dMo_go_220 : decode cMo_go 220 = .ok (.goto 5, 3) := by decide +kernel
theorem dMo_go_223 : decode cMo_go 223 = .ok (.lload 9, 2) := by decide +kernel
theorem dMo_go_225 : decode cMo_go 225 = .ok (.lstore 9, 2) := by decide +kernel
theorem dMo_go_227 : decode cMo_go 227 = .ok (.iinc 11 1, 3) := by decide +kernel
theorem dMo_go_230 : decode cMo_go 230 = .ok (.goto (-70), 3) := by decide +kernel
theorem dMo_go_233 : decode cMo_go 233 = .ok (.aload_n 0, 1) := by decide +kernel
theorem dMo_go_234 : decode cMo_go 234 = .ok (.lload 9, 2) := by decide +kernel
theorem dMo_go_236 : decode cMo_go 236 = .ok (.invokevirtual 128, 3) := by decide +kernel
theorem dMo_go_239 : decode cMo_go 239 = .ok (.istore 8, 2) := by decide +kernel
theorem dMo_go_241 : decode cMo_go 241 = .ok (.aload_n 0, 1) := by decide +kernel
theorem dMo_go_242 : decode cMo_go 242 = .ok (.iload 8, 2) := by decide +kernel
theorem dMo_go_244 : decode cMo_go 244 = .ok (.invokevirtual 132, 3) := by decide +kernel
theorem dMo_go_247 : decode cMo_go 247 = .ok (.goto (-110), 3) := by decide +kernel
theorem dMo_go_250 : decode cMo_go 250 = .ok (.iload 8, 2) := by decide +kernel
theorem dMo_go_252 : decode cMo_go 252 = .ok (.ireturn, 1) := by decide +kernel
theorem dMo_shown_0 : decode cMo_shown 0 = .ok (.aload_n 0, 1) := by decide +kernel
theorem dMo_shown_1 : decode cMo_shown 1 = .ok (.iload_n 1, 1) := by decide +kernel
theorem dMo_shown_2 : decode cMo_shown 2 = .ok (.ifCond .lt 11, 3) := by decide +kernel
theorem dMo_shown_5 : decode cMo_shown 5 = .ok (.iload_n 1, 1) := by decide +kernel
theorem dMo_shown_6 : decode cMo_shown 6 = .ok (.aload_n 0, 1) := by decide +kernel
theorem dMo_shown_7 : decode cMo_shown 7 = .ok (.getfield 121, 3) := by decide +kernel
theorem dMo_shown_10 : decode cMo_shown 10 = .ok (.if_icmp .lt 7, 3) := by decide +kernel
theorem dMo_shown_13 : decode cMo_shown 13 = .ok (.iconst 1, 1) := by decide +kernel
theorem dMo_shown_14 : decode cMo_shown 14 = .ok (.goto 4, 3) := by decide +kernel
theorem dMo_shown_17 : decode cMo_shown 17 = .ok (.iconst 0, 1) := by decide +kernel
theorem dMo_shown_18 : decode cMo_shown 18 = .ok (.putfield 51, 3) := by decide +kernel
theorem dMo_shown_21 : decode cMo_shown 21 = .ok (.aload_n 0, 1) := by decide +kernel
theorem dMo_shown_22 : decode cMo_shown 22 = .ok (.getfield 51, 3) := by decide +kernel
theorem dMo_shown_25 : decode cMo_shown 25 = .ok (.ifCond .ne 12, 3) := by decide +kernel
theorem dMo_shown_28 : decode cMo_shown 28 = .ok (.aload_n 0, 1) := by decide +kernel
theorem dMo_shown_29 : decode cMo_shown 29 = .ok (.getfield 38, 3) := by decide +kernel
theorem dMo_shown_32 : decode cMo_shown 32 = .ok (.iload_n 1, 1) := by decide +kernel
theorem dMo_shown_33 : decode cMo_shown 33 = .ok (.iaload, 1) := by decide +kernel
theorem dMo_shown_34 : decode cMo_shown 34 = .ok (.goto 4, 3) := by decide +kernel
theorem dMo_shown_37 : decode cMo_shown 37 = .ok (.iconst 0, 1) := by decide +kernel
theorem dMo_shown_38 : decode cMo_shown 38 = .ok (.ireturn, 1) := by decide +kernel
theorem dMo_loop_0 : decode cMo_loop 0 = .ok (.aload_n 0, 1) := by decide +kernel
theorem dMo_loop_1 : decode cMo_loop 1 = .ok (.iconst 0, 1) := by decide +kernel
theorem dMo_loop_2 : decode cMo_loop 2 = .ok (.putfield 51, 3) := by decide +kernel
theorem dMo_loop_5 : decode cMo_loop 5 = .ok (.aload_n 0, 1) := by decide +kernel
theorem dMo_loop_6 : decode cMo_loop 6 = .ok (.getfield 41, 3) := by decide +kernel
theorem dMo_loop_9 : decode cMo_loop 9 = .ok (.ireturn, 1) := by decide +kernel
