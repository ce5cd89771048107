/-! decode rows, by a program of mine. -/
theorem dFa_isFull_0 : decode cFa_isFull 0 = .ok (.aload_n 0, 1) := by decide +kernel
theorem dFa_isFull_1 : decode cFa_isFull 1 = .ok (.getfield 15, 3) := by decide +kernel
theorem dFa_isFull_4 : decode cFa_isFull 4 = .ok (.iconst 3, 1) := by decide +kernel
theorem dFa_isFull_5 : decode cFa_isFull 5 = .ok (.if_icmp .lt 7, 3) := by decide +kernel
theorem dFa_isFull_8 : decode cFa_isFull 8 = .ok (.iconst 1, 1) := by decide +kernel
theorem dFa_isFull_9 : decode cFa_isFull 9 = .ok (.goto 4, 3) := by decide +kernel
theorem dFa_isFull_12 : decode cFa_isFull 12 = .ok (.iconst 0, 1) := by decide +kernel
theorem dFa_isFull_13 : decode cFa_isFull 13 = .ok (.ireturn, 1) := by decide +kernel
theorem dJu_settle_0 : decode cJu_settle 0 = .ok (.aload_n 0, 1) := by decide +kernel
theorem dJu_settle_1 : decode cJu_settle 1 = .ok (.invokevirtual 45, 3) := by decide +kernel
theorem dJu_settle_4 : decode cJu_settle 4 = .ok (.aload_n 0, 1) := by decide +kernel
theorem dJu_settle_5 : decode cJu_settle 5 = .ok (.getfield 27, 3) := by decide +kernel
theorem dJu_settle_8 : decode cJu_settle 8 = .ok (.istore_n 2, 1) := by decide +kernel
theorem dJu_settle_9 : decode cJu_settle 9 = .ok (.iload_n 2, 1) := by decide +kernel
theorem dJu_settle_10 : decode cJu_settle 10 = .ok (.iload_n 1, 1) := by decide +kernel
theorem dJu_settle_11 : decode cJu_settle 11 = .ok (.if_icmp .gt 20, 3) := by decide +kernel
theorem dJu_settle_14 : decode cJu_settle 14 = .ok (.aload_n 0, 1) := by decide +kernel
theorem dJu_settle_15 : decode cJu_settle 15 = .ok (.getfield 9, 3) := by decide +kernel
theorem dJu_settle_18 : decode cJu_settle 18 = .ok (.iload_n 2, 1) := by decide +kernel
theorem dJu_settle_19 : decode cJu_settle 19 = .ok (.aload_n 0, 1) := by decide +kernel
theorem dJu_settle_20 : decode cJu_settle 20 = .ok (.iload_n 2, 1) := by decide +kernel
theorem dJu_settle_21 : decode cJu_settle 21 = .ok (.invokevirtual 48, 3) := by decide +kernel
theorem dJu_settle_24 : decode cJu_settle 24 = .ok (.lastore, 1) := by decide +kernel
theorem dJu_settle_25 : decode cJu_settle 25 = .ok (.iinc 2 1, 3) := by decide +kernel
theorem dJu_settle_28 : decode cJu_settle 28 = .ok (.goto (-19), 3) := by decide +kernel
theorem dJu_settle_31 : decode cJu_settle 31 = .ok (.aload_n 0, 1) := by decide +kernel
theorem dJu_settle_32 : decode cJu_settle 32 = .ok (.aload_n 0, 1) := by decide +kernel
theorem dJu_settle_33 : decode cJu_settle 33 = .ok (.getfield 27, 3) := by decide +kernel
theorem dJu_settle_36 : decode cJu_settle 36 = .ok (.iload_n 1, 1) := by decide +kernel
theorem dJu_settle_37 : decode cJu_settle 37 = .ok (.iconst 1, 1) := by decide +kernel
theorem dJu_settle_38 : decode cJu_settle 38 = .ok (.iadd, 1) := by decide +kernel
theorem dJu_settle_39 : decode cJu_settle 39 = .ok (.invokestatic 52, 3) := by decide +kernel
theorem dJu_settle_42 : decode cJu_settle 42 = .ok (.putfield 27, 3) := by decide +kernel
theorem dJu_settle_45 : decode cJu_settle 45 = .ok (.return_, 1) := by decide +kernel
theorem dJu_judged_0 : decode cJu_judged 0 = .ok (.aload_n 0, 1) := by decide +kernel
theorem dJu_judged_1 : decode cJu_judged 1 = .ok (.getfield 19, 3) := by decide +kernel
theorem dJu_judged_4 : decode cJu_judged 4 = .ok (.iload_n 1, 1) := by decide +kernel
theorem dJu_judged_5 : decode cJu_judged 5 = .ok (.invokevirtual 58, 3) := by decide +kernel
theorem dJu_judged_8 : decode cJu_judged 8 = .ok (.istore_n 2, 1) := by decide +kernel
theorem dJu_judged_9 : decode cJu_judged 9 = .ok (.aload_n 0, 1) := by decide +kernel
theorem dJu_judged_10 : decode cJu_judged 10 = .ok (.getfield 9, 3) := by decide +kernel
theorem dJu_judged_13 : decode cJu_judged 13 = .ok (.aload_n 0, 1) := by decide +kernel
theorem dJu_judged_14 : decode cJu_judged 14 = .ok (.getfield 19, 3) := by decide +kernel
theorem dJu_judged_17 : decode cJu_judged 17 = .ok (.iload_n 1, 1) := by decide +kernel
theorem dJu_judged_18 : decode cJu_judged 18 = .ok (.invokevirtual 64, 3) := by decide +kernel
theorem dJu_judged_21 : decode cJu_judged 21 = .ok (.laload, 1) := by decide +kernel
theorem dJu_judged_22 : decode cJu_judged 22 = .ok (.lstore_n 3, 1) := by decide +kernel
theorem dJu_judged_23 : decode cJu_judged 23 = .ok (.aload_n 0, 1) := by decide +kernel
theorem dJu_judged_24 : decode cJu_judged 24 = .ok (.getfield 9, 3) := by decide +kernel
theorem dJu_judged_27 : decode cJu_judged 27 = .ok (.aload_n 0, 1) := by decide +kernel
theorem dJu_judged_28 : decode cJu_judged 28 = .ok (.getfield 19, 3) := by decide +kernel
theorem dJu_judged_31 : decode cJu_judged 31 = .ok (.iload_n 1, 1) := by decide +kernel
theorem dJu_judged_32 : decode cJu_judged 32 = .ok (.invokevirtual 67, 3) := by decide +kernel
theorem dJu_judged_35 : decode cJu_judged 35 = .ok (.laload, 1) := by decide +kernel
theorem dJu_judged_36 : decode cJu_judged 36 = .ok (.lstore 5, 2) := by decide +kernel
theorem dJu_judged_38 : decode cJu_judged 38 = .ok (.iload_n 2, 1) := by decide +kernel
theorem dJu_judged_39 : decode cJu_judged 39 = .ok (.tableswitch 192 0 11 #[61, 74, 78, 84, 89, 94, 100, 108, 114, 123, 137, 175], 61) := by decide +kernel
theorem dJu_judged_100 : decode cJu_judged 100 = .ok (.getstatic 70, 3) := by decide +kernel
theorem dJu_judged_103 : decode cJu_judged 103 = .ok (.aload_n 0, 1) := by decide +kernel
theorem dJu_judged_104 : decode cJu_judged 104 = .ok (.getfield 19, 3) := by decide +kernel
theorem dJu_judged_107 : decode cJu_judged 107 = .ok (.iload_n 1, 1) := by decide +kernel
theorem dJu_judged_108 : decode cJu_judged 108 = .ok (.invokevirtual 64, 3) := by decide +kernel
theorem dJu_judged_111 : decode cJu_judged 111 = .ok (.laload, 1) := by decide +kernel
theorem dJu_judged_112 : decode cJu_judged 112 = .ok (.lreturn, 1) := by decide +kernel
theorem dJu_judged_113 : decode cJu_judged 113 = .ok (.ldc2_w 35, 3) := by decide +kernel
theorem dJu_judged_116 : decode cJu_judged 116 = .ok (.lreturn, 1) := by decide +kernel
theorem dJu_judged_117 : decode cJu_judged 117 = .ok (.lload_n 3, 1) := by decide +kernel
theorem dJu_judged_118 : decode cJu_judged 118 = .ok (.ldc2_w 35, 3) := by decide +kernel
theorem dJu_judged_121 : decode cJu_judged 121 = .ok (.lxor, 1) := by decide +kernel
theorem dJu_judged_122 : decode cJu_judged 122 = .ok (.lreturn, 1) := by decide +kernel
theorem dJu_judged_123 : decode cJu_judged 123 = .ok (.lload_n 3, 1) := by decide +kernel
theorem dJu_judged_124 : decode cJu_judged 124 = .ok (.lload 5, 2) := by decide +kernel
theorem dJu_judged_126 : decode cJu_judged 126 = .ok (.land, 1) := by decide +kernel
theorem dJu_judged_127 : decode cJu_judged 127 = .ok (.lreturn, 1) := by decide +kernel
theorem dJu_judged_128 : decode cJu_judged 128 = .ok (.lload_n 3, 1) := by decide +kernel
theorem dJu_judged_129 : decode cJu_judged 129 = .ok (.lload 5, 2) := by decide +kernel
theorem dJu_judged_131 : decode cJu_judged 131 = .ok (.lor, 1) := by decide +kernel
theorem dJu_judged_132 : decode cJu_judged 132 = .ok (.lreturn, 1) := by decide +kernel
theorem dJu_judged_133 : decode cJu_judged 133 = .ok (.aload_n 0, 1) := by decide +kernel
theorem dJu_judged_134 : decode cJu_judged 134 = .ok (.lload_n 3, 1) := by decide +kernel
theorem dJu_judged_135 : decode cJu_judged 135 = .ok (.invokevirtual 73, 3) := by decide +kernel
theorem dJu_judged_138 : decode cJu_judged 138 = .ok (.lreturn, 1) := by decide +kernel
theorem dJu_judged_139 : decode cJu_judged 139 = .ok (.aload_n 0, 1) := by decide +kernel
theorem dJu_judged_140 : decode cJu_judged 140 = .ok (.lload_n 3, 1) := by decide +kernel
theorem dJu_judged_141 : decode cJu_judged 141 = .ok (.lload 5, 2) := by decide +kernel
theorem dJu_judged_143 : decode cJu_judged 143 = .ok (.invokevirtual 76, 3) := by decide +kernel
theorem dJu_judged_146 : decode cJu_judged 146 = .ok (.lreturn, 1) := by decide +kernel
theorem dJu_judged_147 : decode cJu_judged 147 = .ok (.aload_n 0, 1) := by decide +kernel
theorem dJu_judged_148 : decode cJu_judged 148 = .ok (.lload_n 3, 1) := by decide +kernel
theorem dJu_judged_149 : decode cJu_judged 149 = .ok (.invokevirtual 37, 3) := by decide +kernel
theorem dJu_judged_152 : decode cJu_judged 152 = .ok (.lreturn, 1) := by decide +kernel
theorem dJu_judged_153 : decode cJu_judged 153 = .ok (.aload_n 0, 1) := by decide +kernel
theorem dJu_judged_154 : decode cJu_judged 154 = .ok (.ldc2_w 35, 3) := by decide +kernel
theorem dJu_judged_157 : decode cJu_judged 157 = .ok (.lload_n 3, 1) := by decide +kernel
theorem dJu_judged_158 : decode cJu_judged 158 = .ok (.invokevirtual 76, 3) := by decide +kernel
theorem dJu_judged_161 : decode cJu_judged 161 = .ok (.lreturn, 1) := by decide +kernel
theorem dJu_judged_162 : decode cJu_judged 162 = .ok (.aload_n 0, 1) := by decide +kernel
theorem dJu_judged_163 : decode cJu_judged 163 = .ok (.lload_n 3, 1) := by decide +kernel
theorem dJu_judged_164 : decode cJu_judged 164 = .ok (.ldc2_w 35, 3) := by decide +kernel
theorem dJu_judged_167 : decode cJu_judged 167 = .ok (.lxor, 1) := by decide +kernel
theorem dJu_judged_168 : decode cJu_judged 168 = .ok (.invokevirtual 73, 3) := by decide +kernel
theorem dJu_judged_171 : decode cJu_judged 171 = .ok (.ldc2_w 35, 3) := by decide +kernel
theorem dJu_judged_174 : decode cJu_judged 174 = .ok (.lxor, 1) := by decide +kernel
theorem dJu_judged_175 : decode cJu_judged 175 = .ok (.lreturn, 1) := by decide +kernel
theorem dJu_judged_176 : decode cJu_judged 176 = .ok (.aload_n 0, 1) := by decide +kernel
theorem dJu_judged_177 : decode cJu_judged 177 = .ok (.lload 5, 2) := by decide +kernel
theorem dJu_judged_179 : decode cJu_judged 179 = .ok (.ldc2_w 35, 3) := by decide +kernel
theorem dJu_judged_182 : decode cJu_judged 182 = .ok (.lxor, 1) := by decide +kernel
theorem dJu_judged_183 : decode cJu_judged 183 = .ok (.lload_n 3, 1) := by decide +kernel
theorem dJu_judged_184 : decode cJu_judged 184 = .ok (.ldc2_w 35, 3) := by decide +kernel
theorem dJu_judged_187 : decode cJu_judged 187 = .ok (.lxor, 1) := by decide +kernel
theorem dJu_judged_188 : decode cJu_judged 188 = .ok (.lload 5, 2) := by decide +kernel
theorem dJu_judged_190 : decode cJu_judged 190 = .ok (.ldc2_w 35, 3) := by decide +kernel
theorem dJu_judged_193 : decode cJu_judged 193 = .ok (.lxor, 1) := by decide +kernel
theorem dJu_judged_194 : decode cJu_judged 194 = .ok (.land, 1) := by decide +kernel
theorem dJu_judged_195 : decode cJu_judged 195 = .ok (.invokevirtual 76, 3) := by decide +kernel
theorem dJu_judged_198 : decode cJu_judged 198 = .ok (.aload_n 0, 1) := by decide +kernel
theorem dJu_judged_199 : decode cJu_judged 199 = .ok (.lload 5, 2) := by decide +kernel
theorem dJu_judged_201 : decode cJu_judged 201 = .ok (.ldc2_w 35, 3) := by decide +kernel
theorem dJu_judged_204 : decode cJu_judged 204 = .ok (.lxor, 1) := by decide +kernel
theorem dJu_judged_205 : decode cJu_judged 205 = .ok (.invokevirtual 37, 3) := by decide +kernel
theorem dJu_judged_208 : decode cJu_judged 208 = .ok (.lor, 1) := by decide +kernel
theorem dJu_judged_209 : decode cJu_judged 209 = .ok (.ldc2_w 35, 3) := by decide +kernel
theorem dJu_judged_212 : decode cJu_judged 212 = .ok (.lxor, 1) := by decide +kernel
theorem dJu_judged_213 : decode cJu_judged 213 = .ok (.lreturn, 1) := by decide +kernel
theorem dJu_judged_214 : decode cJu_judged 214 = .ok (.aload_n 0, 1) := by decide +kernel
theorem dJu_judged_215 : decode cJu_judged 215 = .ok (.ldc2_w 35, 3) := by decide +kernel
theorem dJu_judged_218 : decode cJu_judged 218 = .ok (.lload_n 3, 1) := by decide +kernel
theorem dJu_judged_219 : decode cJu_judged 219 = .ok (.ldc2_w 35, 3) := by decide +kernel
theorem dJu_judged_222 : decode cJu_judged 222 = .ok (.lxor, 1) := by decide +kernel
theorem dJu_judged_223 : decode cJu_judged 223 = .ok (.invokevirtual 76, 3) := by decide +kernel
theorem dJu_judged_226 : decode cJu_judged 226 = .ok (.ldc2_w 35, 3) := by decide +kernel
theorem dJu_judged_229 : decode cJu_judged 229 = .ok (.lxor, 1) := by decide +kernel
theorem dJu_judged_230 : decode cJu_judged 230 = .ok (.lreturn, 1) := by decide +kernel
theorem dJu_judged_231 : decode cJu_judged 231 = .ok (.aload_n 0, 1) := by decide +kernel
theorem dJu_judged_232 : decode cJu_judged 232 = .ok (.lload_n 3, 1) := by decide +kernel
theorem dJu_judged_233 : decode cJu_judged 233 = .ok (.ldc2_w 35, 3) := by decide +kernel
theorem dJu_judged_236 : decode cJu_judged 236 = .ok (.lxor, 1) := by decide +kernel
theorem dJu_judged_237 : decode cJu_judged 237 = .ok (.invokevirtual 37, 3) := by decide +kernel
theorem dJu_judged_240 : decode cJu_judged 240 = .ok (.ldc2_w 35, 3) := by decide +kernel
theorem dJu_judged_243 : decode cJu_judged 243 = .ok (.lxor, 1) := by decide +kernel
theorem dJu_judged_244 : decode cJu_judged 244 = .ok (.lreturn, 1) := by decide +kernel
theorem dFo_kindOf_0 : decode cFo_kindOf 0 = .ok (.aload_n 0, 1) := by decide +kernel
theorem dFo_kindOf_1 : decode cFo_kindOf 1 = .ok (.getfield 9, 3) := by decide +kernel
theorem dFo_kindOf_4 : decode cFo_kindOf 4 = .ok (.iload_n 1, 1) := by decide +kernel
theorem dFo_kindOf_5 : decode cFo_kindOf 5 = .ok (.iaload, 1) := by decide +kernel
theorem dFo_kindOf_6 : decode cFo_kindOf 6 = .ok (.ireturn, 1) := by decide +kernel
theorem dFo_firstOf_0 : decode cFo_firstOf 0 = .ok (.aload_n 0, 1) := by decide +kernel
theorem dFo_firstOf_1 : decode cFo_firstOf 1 = .ok (.getfield 15, 3) := by decide +kernel
theorem dFo_firstOf_4 : decode cFo_firstOf 4 = .ok (.iload_n 1, 1) := by decide +kernel
theorem dFo_firstOf_5 : decode cFo_firstOf 5 = .ok (.iaload, 1) := by decide +kernel
theorem dFo_firstOf_6 : decode cFo_firstOf 6 = .ok (.ireturn, 1) := by decide +kernel
theorem dFo_secondOf_0 : decode cFo_secondOf 0 = .ok (.aload_n 0, 1) := by decide +kernel
theorem dFo_secondOf_1 : decode cFo_secondOf 1 = .ok (.getfield 18, 3) := by decide +kernel
theorem dFo_secondOf_4 : decode cFo_secondOf 4 = .ok (.iload_n 1, 1) := by decide +kernel
theorem dFo_secondOf_5 : decode cFo_secondOf 5 = .ok (.iaload, 1) := by decide +kernel
theorem dFo_secondOf_6 : decode cFo_secondOf 6 = .ok (.ireturn, 1) := by decide +kernel
theorem dJu_someNext_0 : decode cJu_someNext 0 = .ok (.aload_n 0, 1) := by decide +kernel
theorem dJu_someNext_1 : decode cJu_someNext 1 = .ok (.getfield 15, 3) := by decide +kernel
theorem dJu_someNext_4 : decode cJu_someNext 4 = .ok (.lload_n 1, 1) := by decide +kernel
theorem dJu_someNext_5 : decode cJu_someNext 5 = .ok (.aload_n 0, 1) := by decide +kernel
theorem dJu_someNext_6 : decode cJu_someNext 6 = .ok (.getfield 41, 3) := by decide +kernel
theorem dJu_someNext_9 : decode cJu_someNext 9 = .ok (.land, 1) := by decide +kernel
theorem dJu_someNext_10 : decode cJu_someNext 10 = .ok (.invokevirtual 80, 3) := by decide +kernel
theorem dJu_someNext_13 : decode cJu_someNext 13 = .ok (.lreturn, 1) := by decide +kernel
theorem dJu_someUntil_0 : decode cJu_someUntil 0 = .ok (.aload_n 0, 1) := by decide +kernel
theorem dJu_someUntil_1 : decode cJu_someUntil 1 = .ok (.getfield 15, 3) := by decide +kernel
theorem dJu_someUntil_4 : decode cJu_someUntil 4 = .ok (.lload_n 3, 1) := by decide +kernel
theorem dJu_someUntil_5 : decode cJu_someUntil 5 = .ok (.aload_n 0, 1) := by decide +kernel
theorem dJu_someUntil_6 : decode cJu_someUntil 6 = .ok (.getfield 41, 3) := by decide +kernel
theorem dJu_someUntil_9 : decode cJu_someUntil 9 = .ok (.land, 1) := by decide +kernel
theorem dJu_someUntil_10 : decode cJu_someUntil 10 = .ok (.lload_n 1, 1) := by decide +kernel
theorem dJu_someUntil_11 : decode cJu_someUntil 11 = .ok (.invokevirtual 85, 3) := by decide +kernel
theorem dJu_someUntil_14 : decode cJu_someUntil 14 = .ok (.lreturn, 1) := by decide +kernel
theorem dMt_max_0 : decode cMt_max 0 = .ok (.iload_n 0, 1) := by decide +kernel
theorem dMt_max_1 : decode cMt_max 1 = .ok (.iload_n 1, 1) := by decide +kernel
theorem dMt_max_2 : decode cMt_max 2 = .ok (.if_icmp .lt 7, 3) := by decide +kernel
theorem dMt_max_5 : decode cMt_max 5 = .ok (.iload_n 0, 1) := by decide +kernel
theorem dMt_max_6 : decode cMt_max 6 = .ok (.goto 4, 3) := by decide +kernel
theorem dMt_max_9 : decode cMt_max 9 = .ok (.iload_n 1, 1) := by decide +kernel
theorem dMt_max_10 : decode cMt_max 10 = .ok (.ireturn, 1) := by decide +kernel
theorem dJu_settled_0 : decode cJu_settled 0 = .ok (.aload_n 0, 1) := by decide +kernel
theorem dJu_settled_1 : decode cJu_settled 1 = .ok (.getfield 9, 3) := by decide +kernel
theorem dJu_settled_4 : decode cJu_settled 4 = .ok (.iload_n 1, 1) := by decide +kernel
theorem dJu_settled_5 : decode cJu_settled 5 = .ok (.laload, 1) := by decide +kernel
theorem dJu_settled_6 : decode cJu_settled 6 = .ok (.lreturn, 1) := by decide +kernel
theorem dFa_add_0 : decode cFa_add 0 = .ok (.aload_n 0, 1) := by decide +kernel
theorem dFa_add_1 : decode cFa_add 1 = .ok (.getfield 9, 3) := by decide +kernel
theorem dFa_add_4 : decode cFa_add 4 = .ok (.aload_n 0, 1) := by decide +kernel
theorem dFa_add_5 : decode cFa_add 5 = .ok (.getfield 15, 3) := by decide +kernel
theorem dFa_add_8 : decode cFa_add 8 = .ok (.lload_n 1, 1) := by decide +kernel
theorem dFa_add_9 : decode cFa_add 9 = .ok (.lastore, 1) := by decide +kernel
theorem dFa_add_10 : decode cFa_add 10 = .ok (.aload_n 0, 1) := by decide +kernel
theorem dFa_add_11 : decode cFa_add 11 = .ok (.dup, 1) := by decide +kernel
theorem dFa_add_12 : decode cFa_add 12 = .ok (.getfield 15, 3) := by decide +kernel
theorem dFa_add_15 : decode cFa_add 15 = .ok (.iconst 1, 1) := by decide +kernel
theorem dFa_add_16 : decode cFa_add 16 = .ok (.iadd, 1) := by decide +kernel
theorem dFa_add_17 : decode cFa_add 17 = .ok (.putfield 15, 3) := by decide +kernel
theorem dFa_add_20 : decode cFa_add 20 = .ok (.aload_n 0, 1) := by decide +kernel
theorem dFa_add_21 : decode cFa_add 21 = .ok (.getfield 15, 3) := by decide +kernel
theorem dFa_add_24 : decode cFa_add 24 = .ok (.ireturn, 1) := by decide +kernel
theorem dLa_states_0 : decode cLa_states 0 = .ok (.aload_n 2, 1) := by decide +kernel
theorem dLa_states_1 : decode cLa_states 1 = .ok (.iconst 0, 1) := by decide +kernel
theorem dLa_states_2 : decode cLa_states 2 = .ok (.aload_n 0, 1) := by decide +kernel
theorem dLa_states_3 : decode cLa_states 3 = .ok (.iload_n 1, 1) := by decide +kernel
theorem dLa_states_4 : decode cLa_states 4 = .ok (.invokevirtual 29, 3) := by decide +kernel
theorem dLa_states_7 : decode cLa_states 7 = .ok (.lastore, 1) := by decide +kernel
theorem dLa_states_8 : decode cLa_states 8 = .ok (.goto 6, 3) := by decide +kernel
theorem dLa_states_11 : decode cLa_states 11 = .ok (.astore_n 3, 1) := by decide +kernel
theorem dLa_states_12 : decode cLa_states 12 = .ok (.iconst 1, 1) := by decide +kernel
theorem dLa_states_13 : decode cLa_states 13 = .ok (.ireturn, 1) := by decide +kernel
theorem dLa_states_14 : decode cLa_states 14 = .ok (.iconst 0, 1) := by decide +kernel
theorem dLa_states_15 : decode cLa_states 15 = .ok (.ireturn, 1) := by decide +kernel
theorem dWw_states_0 : decode cWw_states 0 = .ok (.aload_n 0, 1) := by decide +kernel
theorem dWw_states_1 : decode cWw_states 1 = .ok (.getfield 19, 3) := by decide +kernel
theorem dWw_states_4 : decode cWw_states 4 = .ok (.iload_n 1, 1) := by decide +kernel
theorem dWw_states_5 : decode cWw_states 5 = .ok (.invokevirtual 105, 3) := by decide +kernel
theorem dWw_states_8 : decode cWw_states 8 = .ok (.ifCond .ne 13, 3) := by decide +kernel
theorem dWw_states_11 : decode cWw_states 11 = .ok (.new 59, 3) := by decide +kernel
theorem dWw_states_14 : decode cWw_states 14 = .ok (.dup, 1) := by decide +kernel
theorem dWw_states_15 : decode cWw_states 15 = .ok (.ldc 129, 2) := by decide +kernel
theorem dWw_states_17 : decode cWw_states 17 = .ok (.invokespecial 63, 3) := by decide +kernel
theorem dWw_states_20 : decode cWw_states 20 = .ok (.athrow, 1) := by decide +kernel
theorem dWw_states_21 : decode cWw_states 21 = .ok (.aload_n 0, 1) := by decide +kernel
theorem dWw_states_22 : decode cWw_states 22 = .ok (.getfield 35, 3) := by decide +kernel
theorem dWw_states_25 : decode cWw_states 25 = .ok (.iload_n 1, 1) := by decide +kernel
theorem dWw_states_26 : decode cWw_states 26 = .ok (.invokevirtual 116, 3) := by decide +kernel
theorem dWw_states_29 : decode cWw_states 29 = .ok (.aload_n 0, 1) := by decide +kernel
theorem dWw_states_30 : decode cWw_states 30 = .ok (.getfield 35, 3) := by decide +kernel
theorem dWw_states_33 : decode cWw_states 33 = .ok (.iload_n 1, 1) := by decide +kernel
theorem dWw_states_34 : decode cWw_states 34 = .ok (.invokevirtual 120, 3) := by decide +kernel
theorem dWw_states_37 : decode cWw_states 37 = .ok (.lreturn, 1) := by decide +kernel
theorem dLa_show_0 : decode cLa_show 0 = .ok (.aload_n 3, 1) := by decide +kernel
theorem dLa_show_1 : decode cLa_show 1 = .ok (.iconst 0, 1) := by decide +kernel
theorem dLa_show_2 : decode cLa_show 2 = .ok (.aload_n 0, 1) := by decide +kernel
theorem dLa_show_3 : decode cLa_show 3 = .ok (.iload_n 1, 1) := by decide +kernel
theorem dLa_show_4 : decode cLa_show 4 = .ok (.iload_n 2, 1) := by decide +kernel
theorem dLa_show_5 : decode cLa_show 5 = .ok (.invokevirtual 32, 3) := by decide +kernel
theorem dLa_show_8 : decode cLa_show 8 = .ok (.i2l, 1) := by decide +kernel
theorem dLa_show_9 : decode cLa_show 9 = .ok (.lastore, 1) := by decide +kernel
theorem dLa_show_10 : decode cLa_show 10 = .ok (.goto 15, 3) := by decide +kernel
theorem dLa_show_13 : decode cLa_show 13 = .ok (.astore 4, 2) := by decide +kernel
theorem dLa_show_15 : decode cLa_show 15 = .ok (.iconst 1, 1) := by decide +kernel
theorem dLa_show_16 : decode cLa_show 16 = .ok (.ireturn, 1) := by decide +kernel
theorem dLa_show_17 : decode cLa_show 17 = .ok (.astore 4, 2) := by decide +kernel
theorem dLa_show_19 : decode cLa_show 19 = .ok (.iconst 2, 1) := by decide +kernel
theorem dLa_show_20 : decode cLa_show 20 = .ok (.ireturn, 1) := by decide +kernel
theorem dLa_show_21 : decode cLa_show 21 = .ok (.astore 4, 2) := by decide +kernel
theorem dLa_show_23 : decode cLa_show 23 = .ok (.iconst 3, 1) := by decide +kernel
theorem dLa_show_24 : decode cLa_show 24 = .ok (.ireturn, 1) := by decide +kernel
theorem dLa_show_25 : decode cLa_show 25 = .ok (.iconst 0, 1) := by decide +kernel
theorem dLa_show_26 : decode cLa_show 26 = .ok (.ireturn, 1) := by decide +kernel
theorem dWw_show_0 : decode cWw_show 0 = .ok (.aload_n 0, 1) := by decide +kernel
theorem dWw_show_1 : decode cWw_show 1 = .ok (.getfield 42, 3) := by decide +kernel
theorem dWw_show_4 : decode cWw_show 4 = .ok (.invokevirtual 138, 3) := by decide +kernel
theorem dWw_show_7 : decode cWw_show 7 = .ok (.aload_n 0, 1) := by decide +kernel
theorem dWw_show_8 : decode cWw_show 8 = .ok (.getfield 19, 3) := by decide +kernel
theorem dWw_show_11 : decode cWw_show 11 = .ok (.iload_n 1, 1) := by decide +kernel
theorem dWw_show_12 : decode cWw_show 12 = .ok (.invokevirtual 105, 3) := by decide +kernel
theorem dWw_show_15 : decode cWw_show 15 = .ok (.ifCond .eq 10, 3) := by decide +kernel
theorem dWw_show_18 : decode cWw_show 18 = .ok (.iload_n 2, 1) := by decide +kernel
theorem dWw_show_19 : decode cWw_show 19 = .ok (.invokestatic 84, 3) := by decide +kernel
theorem dWw_show_22 : decode cWw_show 22 = .ok (.ifCond .ne 13, 3) := by decide +kernel
theorem dWw_show_25 : decode cWw_show 25 = .ok (.new 59, 3) := by decide +kernel
theorem dWw_show_28 : decode cWw_show 28 = .ok (.dup, 1) := by decide +kernel
theorem dWw_show_29 : decode cWw_show 29 = .ok (.ldc 139, 2) := by decide +kernel
theorem dWw_show_31 : decode cWw_show 31 = .ok (.invokespecial 63, 3) := by decide +kernel
theorem dWw_show_34 : decode cWw_show 34 = .ok (.athrow, 1) := by decide +kernel
theorem dWw_show_35 : decode cWw_show 35 = .ok (.aload_n 0, 1) := by decide +kernel
theorem dWw_show_36 : decode cWw_show 36 = .ok (.getfield 35, 3) := by decide +kernel
theorem dWw_show_39 : decode cWw_show 39 = .ok (.iload_n 1, 1) := by decide +kernel
theorem dWw_show_40 : decode cWw_show 40 = .ok (.invokevirtual 116, 3) := by decide +kernel
theorem dWw_show_43 : decode cWw_show 43 = .ok (.aload_n 0, 1) := by decide +kernel
theorem dWw_show_44 : decode cWw_show 44 = .ok (.getfield 51, 3) := by decide +kernel
theorem dWw_show_47 : decode cWw_show 47 = .ok (.iload_n 1, 1) := by decide +kernel
theorem dWw_show_48 : decode cWw_show 48 = .ok (.iload_n 2, 1) := by decide +kernel
theorem dWw_show_49 : decode cWw_show 49 = .ok (.invokevirtual 141, 3) := by decide +kernel
theorem dWw_show_52 : decode cWw_show 52 = .ok (.ifCond .ne 13, 3) := by decide +kernel
theorem dWw_show_55 : decode cWw_show 55 = .ok (.new 72, 3) := by decide +kernel
theorem dWw_show_58 : decode cWw_show 58 = .ok (.dup, 1) := by decide +kernel
theorem dWw_show_59 : decode cWw_show 59 = .ok (.ldc 145, 2) := by decide +kernel
theorem dWw_show_61 : decode cWw_show 61 = .ok (.invokespecial 76, 3) := by decide +kernel
theorem dWw_show_64 : decode cWw_show 64 = .ok (.athrow, 1) := by decide +kernel
theorem dWw_show_65 : decode cWw_show 65 = .ok (.aload_n 0, 1) := by decide +kernel
theorem dWw_show_66 : decode cWw_show 66 = .ok (.getfield 51, 3) := by decide +kernel
theorem dWw_show_69 : decode cWw_show 69 = .ok (.invokevirtual 147, 3) := by decide +kernel
theorem dWw_show_72 : decode cWw_show 72 = .ok (.aload_n 0, 1) := by decide +kernel
theorem dWw_show_73 : decode cWw_show 73 = .ok (.getfield 42, 3) := by decide +kernel
theorem dWw_show_76 : decode cWw_show 76 = .ok (.invokevirtual 150, 3) := by decide +kernel
theorem dWw_show_79 : decode cWw_show 79 = .ok (.ifCond .eq 20, 3) := by decide +kernel
theorem dWw_show_82 : decode cWw_show 82 = .ok (.aload_n 0, 1) := by decide +kernel
theorem dWw_show_83 : decode cWw_show 83 = .ok (.getfield 42, 3) := by decide +kernel
theorem dWw_show_86 : decode cWw_show 86 = .ok (.invokevirtual 138, 3) := by decide +kernel
theorem dWw_show_89 : decode cWw_show 89 = .ok (.new 153, 3) := by decide +kernel
theorem dWw_show_92 : decode cWw_show 92 = .ok (.dup, 1) := by decide +kernel
theorem dWw_show_93 : decode cWw_show 93 = .ok (.ldc 155, 2) := by decide +kernel
theorem dWw_show_95 : decode cWw_show 95 = .ok (.invokespecial 157, 3) := by decide +kernel
theorem dWw_show_98 : decode cWw_show 98 = .ok (.athrow, 1) := by decide +kernel
theorem dWw_show_99 : decode cWw_show 99 = .ok (.aload_n 0, 1) := by decide +kernel
theorem dWw_show_100 : decode cWw_show 100 = .ok (.getfield 42, 3) := by decide +kernel
theorem dWw_show_103 : decode cWw_show 103 = .ok (.invokevirtual 158, 3) := by decide +kernel
theorem dWw_show_106 : decode cWw_show 106 = .ok (.ireturn, 1) := by decide +kernel
theorem dPa_clear_0 : decode cPa_clear 0 = .ok (.aload_n 0, 1) := by decide +kernel
theorem dPa_clear_1 : decode cPa_clear 1 = .ok (.iconst 0, 1) := by decide +kernel
theorem dPa_clear_2 : decode cPa_clear 2 = .ok (.putfield 19, 3) := by decide +kernel
theorem dPa_clear_5 : decode cPa_clear 5 = .ok (.aload_n 0, 1) := by decide +kernel
theorem dPa_clear_6 : decode cPa_clear 6 = .ok (.iconst (-1), 1) := by decide +kernel
theorem dPa_clear_7 : decode cPa_clear 7 = .ok (.putfield 15, 3) := by decide +kernel
theorem dPa_clear_10 : decode cPa_clear 10 = .ok (.return_, 1) := by decide +kernel
theorem dWa_setOut_0 : decode cWa_setOut 0 = .ok (.aload_n 0, 1) := by decide +kernel
theorem dWa_setOut_1 : decode cWa_setOut 1 = .ok (.getfield 31, 3) := by decide +kernel
theorem dWa_setOut_4 : decode cWa_setOut 4 = .ok (.aload_n 0, 1) := by decide +kernel
theorem dWa_setOut_5 : decode cWa_setOut 5 = .ok (.getfield 23, 3) := by decide +kernel
theorem dWa_setOut_8 : decode cWa_setOut 8 = .ok (.iload_n 1, 1) := by decide +kernel
theorem dWa_setOut_9 : decode cWa_setOut 9 = .ok (.invokevirtual 39, 3) := by decide +kernel
theorem dWa_setOut_12 : decode cWa_setOut 12 = .ok (.invokevirtual 45, 3) := by decide +kernel
theorem dWa_setOut_15 : decode cWa_setOut 15 = .ok (.lstore_n 3, 1) := by decide +kernel
theorem dWa_setOut_16 : decode cWa_setOut 16 = .ok (.aload_n 0, 1) := by decide +kernel
theorem dWa_setOut_17 : decode cWa_setOut 17 = .ok (.getfield 31, 3) := by decide +kernel
theorem dWa_setOut_20 : decode cWa_setOut 20 = .ok (.aload_n 0, 1) := by decide +kernel
theorem dWa_setOut_21 : decode cWa_setOut 21 = .ok (.getfield 23, 3) := by decide +kernel
theorem dWa_setOut_24 : decode cWa_setOut 24 = .ok (.iload_n 1, 1) := by decide +kernel
theorem dWa_setOut_25 : decode cWa_setOut 25 = .ok (.invokevirtual 51, 3) := by decide +kernel
theorem dWa_setOut_28 : decode cWa_setOut 28 = .ok (.invokevirtual 45, 3) := by decide +kernel
theorem dWa_setOut_31 : decode cWa_setOut 31 = .ok (.lstore 5, 2) := by decide +kernel
theorem dWa_setOut_33 : decode cWa_setOut 33 = .ok (.aload_n 0, 1) := by decide +kernel
theorem dWa_setOut_34 : decode cWa_setOut 34 = .ok (.iload_n 2, 1) := by decide +kernel
theorem dWa_setOut_35 : decode cWa_setOut 35 = .ok (.putfield 54, 3) := by decide +kernel
theorem dWa_setOut_38 : decode cWa_setOut 38 = .ok (.aload_n 0, 1) := by decide +kernel
theorem dWa_setOut_39 : decode cWa_setOut 39 = .ok (.getfield 23, 3) := by decide +kernel
theorem dWa_setOut_42 : decode cWa_setOut 42 = .ok (.iload_n 1, 1) := by decide +kernel
theorem dWa_setOut_43 : decode cWa_setOut 43 = .ok (.invokevirtual 58, 3) := by decide +kernel
theorem dWa_setOut_46 : decode cWa_setOut 46 = .ok (.tableswitch 152 5 12 #[46, 52, 60, 66, 75, 85, 129, 142], 46) := by decide +kernel
theorem dWa_setOut_92 : decode cWa_setOut 92 = .ok (.aload_n 0, 1) := by decide +kernel
theorem dWa_setOut_93 : decode cWa_setOut 93 = .ok (.lload_n 3, 1) := by decide +kernel
theorem dWa_setOut_94 : decode cWa_setOut 94 = .ok (.invokevirtual 61, 3) := by decide +kernel
theorem dWa_setOut_97 : decode cWa_setOut 97 = .ok (.ireturn, 1) := by decide +kernel
theorem dWa_setOut_98 : decode cWa_setOut 98 = .ok (.aload_n 0, 1) := by decide +kernel
theorem dWa_setOut_99 : decode cWa_setOut 99 = .ok (.lload_n 3, 1) := by decide +kernel
theorem dWa_setOut_100 : decode cWa_setOut 100 = .ok (.lload 5, 2) := by decide +kernel
theorem dWa_setOut_102 : decode cWa_setOut 102 = .ok (.invokevirtual 65, 3) := by decide +kernel
theorem dWa_setOut_105 : decode cWa_setOut 105 = .ok (.ireturn, 1) := by decide +kernel
theorem dWa_setOut_106 : decode cWa_setOut 106 = .ok (.aload_n 0, 1) := by decide +kernel
theorem dWa_setOut_107 : decode cWa_setOut 107 = .ok (.lload_n 3, 1) := by decide +kernel
theorem dWa_setOut_108 : decode cWa_setOut 108 = .ok (.invokevirtual 69, 3) := by decide +kernel
theorem dWa_setOut_111 : decode cWa_setOut 111 = .ok (.ireturn, 1) := by decide +kernel
theorem dWa_setOut_112 : decode cWa_setOut 112 = .ok (.aload_n 0, 1) := by decide +kernel
theorem dWa_setOut_113 : decode cWa_setOut 113 = .ok (.ldc2_w 72, 3) := by decide +kernel
theorem dWa_setOut_116 : decode cWa_setOut 116 = .ok (.lload_n 3, 1) := by decide +kernel
theorem dWa_setOut_117 : decode cWa_setOut 117 = .ok (.invokevirtual 65, 3) := by decide +kernel
theorem dWa_setOut_120 : decode cWa_setOut 120 = .ok (.ireturn, 1) := by decide +kernel
theorem dWa_setOut_121 : decode cWa_setOut 121 = .ok (.aload_n 0, 1) := by decide +kernel
theorem dWa_setOut_122 : decode cWa_setOut 122 = .ok (.lload_n 3, 1) := by decide +kernel
theorem dWa_setOut_123 : decode cWa_setOut 123 = .ok (.ldc2_w 72, 3) := by decide +kernel
theorem dWa_setOut_126 : decode cWa_setOut 126 = .ok (.lxor, 1) := by decide +kernel
theorem dWa_setOut_127 : decode cWa_setOut 127 = .ok (.invokevirtual 61, 3) := by decide +kernel
theorem dWa_setOut_130 : decode cWa_setOut 130 = .ok (.ireturn, 1) := by decide +kernel
theorem dWa_setOut_131 : decode cWa_setOut 131 = .ok (.aload_n 0, 1) := by decide +kernel
theorem dWa_setOut_132 : decode cWa_setOut 132 = .ok (.lload 5, 2) := by decide +kernel
theorem dWa_setOut_134 : decode cWa_setOut 134 = .ok (.ldc2_w 72, 3) := by decide +kernel
theorem dWa_setOut_137 : decode cWa_setOut 137 = .ok (.lxor, 1) := by decide +kernel
theorem dWa_setOut_138 : decode cWa_setOut 138 = .ok (.lload_n 3, 1) := by decide +kernel
theorem dWa_setOut_139 : decode cWa_setOut 139 = .ok (.ldc2_w 72, 3) := by decide +kernel
theorem dWa_setOut_142 : decode cWa_setOut 142 = .ok (.lxor, 1) := by decide +kernel
theorem dWa_setOut_143 : decode cWa_setOut 143 = .ok (.lload 5, 2) := by decide +kernel
theorem dWa_setOut_145 : decode cWa_setOut 145 = .ok (.ldc2_w 72, 3) := by decide +kernel
theorem dWa_setOut_148 : decode cWa_setOut 148 = .ok (.lxor, 1) := by decide +kernel
theorem dWa_setOut_149 : decode cWa_setOut 149 = .ok (.land, 1) := by decide +kernel
theorem dWa_setOut_150 : decode cWa_setOut 150 = .ok (.invokevirtual 65, 3) := by decide +kernel
theorem dWa_setOut_153 : decode cWa_setOut 153 = .ok (.ifCond .ne 16, 3) := by decide +kernel
theorem dWa_setOut_156 : decode cWa_setOut 156 = .ok (.aload_n 0, 1) := by decide +kernel
theorem dWa_setOut_157 : decode cWa_setOut 157 = .ok (.lload 5, 2) := by decide +kernel
theorem dWa_setOut_159 : decode cWa_setOut 159 = .ok (.ldc2_w 72, 3) := by decide +kernel
theorem dWa_setOut_162 : decode cWa_setOut 162 = .ok (.lxor, 1) := by decide +kernel
theorem dWa_setOut_163 : decode cWa_setOut 163 = .ok (.invokevirtual 69, 3) := by decide +kernel
theorem dWa_setOut_166 : decode cWa_setOut 166 = .ok (.ifCond .eq 7, 3) := by decide +kernel
theorem dWa_setOut_169 : decode cWa_setOut 169 = .ok (.iconst 1, 1) := by decide +kernel
theorem dWa_setOut_170 : decode cWa_setOut 170 = .ok (.goto 4, 3) := by decide +kernel
theorem dWa_setOut_173 : decode cWa_setOut 173 = .ok (.iconst 0, 1) := by decide +kernel
theorem dWa_setOut_174 : decode cWa_setOut 174 = .ok (.ireturn, 1) := by decide +kernel
theorem dWa_setOut_175 : decode cWa_setOut 175 = .ok (.aload_n 0, 1) := by decide +kernel
theorem dWa_setOut_176 : decode cWa_setOut 176 = .ok (.ldc2_w 72, 3) := by decide +kernel
theorem dWa_setOut_179 : decode cWa_setOut 179 = .ok (.lload_n 3, 1) := by decide +kernel
theorem dWa_setOut_180 : decode cWa_setOut 180 = .ok (.ldc2_w 72, 3) := by decide +kernel
theorem dWa_setOut_183 : decode cWa_setOut 183 = .ok (.lxor, 1) := by decide +kernel
theorem dWa_setOut_184 : decode cWa_setOut 184 = .ok (.invokevirtual 65, 3) := by decide +kernel
theorem dWa_setOut_187 : decode cWa_setOut 187 = .ok (.ireturn, 1) := by decide +kernel
theorem dWa_setOut_188 : decode cWa_setOut 188 = .ok (.aload_n 0, 1) := by decide +kernel
theorem dWa_setOut_189 : decode cWa_setOut 189 = .ok (.lload_n 3, 1) := by decide +kernel
theorem dWa_setOut_190 : decode cWa_setOut 190 = .ok (.ldc2_w 72, 3) := by decide +kernel
theorem dWa_setOut_193 : decode cWa_setOut 193 = .ok (.lxor, 1) := by decide +kernel
theorem dWa_setOut_194 : decode cWa_setOut 194 = .ok (.invokevirtual 69, 3) := by decide +kernel
theorem dWa_setOut_197 : decode cWa_setOut 197 = .ok (.ireturn, 1) := by decide +kernel
theorem dWa_setOut_198 : decode cWa_setOut 198 = .ok (.iconst 0, 1) := by decide +kernel
theorem dWa_setOut_199 : decode cWa_setOut 199 = .ok (.ireturn, 1) := by decide +kernel
theorem dWa_setOutNext_0 : decode cWa_setOutNext 0 = .ok (.aload_n 0, 1) := by decide +kernel
theorem dWa_setOutNext_1 : decode cWa_setOutNext 1 = .ok (.getfield 19, 3) := by decide +kernel
theorem dWa_setOutNext_4 : decode cWa_setOutNext 4 = .ok (.aload_n 0, 1) := by decide +kernel
theorem dWa_setOutNext_5 : decode cWa_setOutNext 5 = .ok (.getfield 54, 3) := by decide +kernel
theorem dWa_setOutNext_8 : decode cWa_setOutNext 8 = .ok (.invokevirtual 74, 3) := by decide +kernel
theorem dWa_setOutNext_11 : decode cWa_setOutNext 11 = .ok (.aload_n 0, 1) := by decide +kernel
theorem dWa_setOutNext_12 : decode cWa_setOutNext 12 = .ok (.getfield 31, 3) := by decide +kernel
theorem dWa_setOutNext_15 : decode cWa_setOutNext 15 = .ok (.invokevirtual 79, 3) := by decide +kernel
theorem dWa_setOutNext_18 : decode cWa_setOutNext 18 = .ok (.land, 1) := by decide +kernel
theorem dWa_setOutNext_19 : decode cWa_setOutNext 19 = .ok (.lload_n 1, 1) := by decide +kernel
theorem dWa_setOutNext_20 : decode cWa_setOutNext 20 = .ok (.land, 1) := by decide +kernel
theorem dWa_setOutNext_21 : decode cWa_setOutNext 21 = .ok (.lstore_n 3, 1) := by decide +kernel
theorem dWa_setOutNext_22 : decode cWa_setOutNext 22 = .ok (.lload_n 3, 1) := by decide +kernel
theorem dWa_setOutNext_23 : decode cWa_setOutNext 23 = .ok (.lconst 0, 1) := by decide +kernel
theorem dWa_setOutNext_24 : decode cWa_setOutNext 24 = .ok (.lcmp, 1) := by decide +kernel
theorem dWa_setOutNext_25 : decode cWa_setOutNext 25 = .ok (.ifCond .ne 5, 3) := by decide +kernel
theorem dWa_setOutNext_28 : decode cWa_setOutNext 28 = .ok (.iconst 0, 1) := by decide +kernel
theorem dWa_setOutNext_29 : decode cWa_setOutNext 29 = .ok (.ireturn, 1) := by decide +kernel
theorem dWa_setOutNext_30 : decode cWa_setOutNext 30 = .ok (.aload_n 0, 1) := by decide +kernel
theorem dWa_setOutNext_31 : decode cWa_setOutNext 31 = .ok (.getfield 35, 3) := by decide +kernel
theorem dWa_setOutNext_34 : decode cWa_setOutNext 34 = .ok (.aload_n 0, 1) := by decide +kernel
theorem dWa_setOutNext_35 : decode cWa_setOutNext 35 = .ok (.getfield 54, 3) := by decide +kernel
theorem dWa_setOutNext_38 : decode cWa_setOutNext 38 = .ok (.invokevirtual 83, 3) := by decide +kernel
theorem dWa_setOutNext_41 : decode cWa_setOutNext 41 = .ok (.aload_n 0, 1) := by decide +kernel
theorem dWa_setOutNext_42 : decode cWa_setOutNext 42 = .ok (.lload_n 3, 1) := by decide +kernel
theorem dWa_setOutNext_43 : decode cWa_setOutNext 43 = .ok (.invokestatic 89, 3) := by decide +kernel
theorem dWa_setOutNext_46 : decode cWa_setOutNext 46 = .ok (.invokevirtual 93, 3) := by decide +kernel
theorem dWa_setOutNext_49 : decode cWa_setOutNext 49 = .ok (.aload_n 0, 1) := by decide +kernel
theorem dWa_setOutNext_50 : decode cWa_setOutNext 50 = .ok (.aload_n 0, 1) := by decide +kernel
theorem dWa_setOutNext_51 : decode cWa_setOutNext 51 = .ok (.getfield 31, 3) := by decide +kernel
theorem dWa_setOutNext_54 : decode cWa_setOutNext 54 = .ok (.invokevirtual 79, 3) := by decide +kernel
theorem dWa_setOutNext_57 : decode cWa_setOutNext 57 = .ok (.putfield 96, 3) := by decide +kernel
theorem dWa_setOutNext_60 : decode cWa_setOutNext 60 = .ok (.iconst 1, 1) := by decide +kernel
theorem dWa_setOutNext_61 : decode cWa_setOutNext 61 = .ok (.ireturn, 1) := by decide +kernel
theorem dPa_append_0 : decode cPa_append 0 = .ok (.aload_n 0, 1) := by decide +kernel
theorem dPa_append_1 : decode cPa_append 1 = .ok (.getfield 19, 3) := by decide +kernel
theorem dPa_append_4 : decode cPa_append 4 = .ok (.sipush 250, 3) := by decide +kernel
theorem dPa_append_7 : decode cPa_append 7 = .ok (.if_icmp .ge 13, 3) := by decide +kernel
theorem dPa_append_10 : decode cPa_append 10 = .ok (.aload_n 0, 1) := by decide +kernel
theorem dPa_append_11 : decode cPa_append 11 = .ok (.getfield 9, 3) := by decide +kernel
theorem dPa_append_14 : decode cPa_append 14 = .ok (.aload_n 0, 1) := by decide +kernel
theorem dPa_append_15 : decode cPa_append 15 = .ok (.getfield 19, 3) := by decide +kernel
theorem dPa_append_18 : decode cPa_append 18 = .ok (.iload_n 1, 1) := by decide +kernel
theorem dPa_append_19 : decode cPa_append 19 = .ok (.iastore, 1) := by decide +kernel
theorem dPa_append_20 : decode cPa_append 20 = .ok (.aload_n 0, 1) := by decide +kernel
theorem dPa_append_21 : decode cPa_append 21 = .ok (.dup, 1) := by decide +kernel
theorem dPa_append_22 : decode cPa_append 22 = .ok (.getfield 19, 3) := by decide +kernel
theorem dPa_append_25 : decode cPa_append 25 = .ok (.iconst 1, 1) := by decide +kernel
theorem dPa_append_26 : decode cPa_append 26 = .ok (.iadd, 1) := by decide +kernel
theorem dPa_append_27 : decode cPa_append 27 = .ok (.putfield 19, 3) := by decide +kernel
theorem dPa_append_30 : decode cPa_append 30 = .ok (.return_, 1) := by decide +kernel
