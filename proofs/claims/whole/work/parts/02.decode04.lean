/-! decode rows, by a program of mine. -/
theorem dMo_noMask_0 : decode cMo_noMask 0 = .ok (.iload_n 1, 1) := by decide +kernel
theorem dMo_noMask_1 : decode cMo_noMask 1 = .ok (.ifCond .lt 9, 3) := by decide +kernel
theorem dMo_noMask_4 : decode cMo_noMask 4 = .ok (.iload_n 1, 1) := by decide +kernel
theorem dMo_noMask_5 : decode cMo_noMask 5 = .ok (.bipush 63, 2) := by decide +kernel
theorem dMo_noMask_7 : decode cMo_noMask 7 = .ok (.if_icmp .le 7, 3) := by decide +kernel
theorem dMo_noMask_10 : decode cMo_noMask 10 = .ok (.iconst 1, 1) := by decide +kernel
theorem dMo_noMask_11 : decode cMo_noMask 11 = .ok (.goto 4, 3) := by decide +kernel
theorem dMo_noMask_14 : decode cMo_noMask 14 = .ok (.iconst 0, 1) := by decide +kernel
theorem dMo_noMask_15 : decode cMo_noMask 15 = .ok (.ireturn, 1) := by decide +kernel
theorem dMo_followers_0 : decode cMo_followers 0 = .ok (.aload_n 0, 1) := by decide +kernel
theorem dMo_followers_1 : decode cMo_followers 1 = .ok (.aload_n 0, 1) := by decide +kernel
theorem dMo_followers_2 : decode cMo_followers 2 = .ok (.iload_n 1, 1) := by decide +kernel
theorem dMo_followers_3 : decode cMo_followers 3 = .ok (.invokevirtual 61, 3) := by decide +kernel
theorem dMo_followers_6 : decode cMo_followers 6 = .ok (.ifCond .eq 7, 3) := by decide +kernel
theorem dMo_followers_9 : decode cMo_followers 9 = .ok (.iconst 1, 1) := by decide +kernel
theorem dMo_followers_10 : decode cMo_followers 10 = .ok (.goto 4, 3) := by decide +kernel
theorem dMo_followers_13 : decode cMo_followers 13 = .ok (.iconst 0, 1) := by decide +kernel
theorem dMo_followers_14 : decode cMo_followers 14 = .ok (.putfield 51, 3) := by decide +kernel
theorem dMo_followers_17 : decode cMo_followers 17 = .ok (.aload_n 0, 1) := by decide +kernel
theorem dMo_followers_18 : decode cMo_followers 18 = .ok (.getfield 51, 3) := by decide +kernel
theorem dMo_followers_21 : decode cMo_followers 21 = .ok (.ifCond .ne 11, 3) := by decide +kernel
theorem dMo_followers_24 : decode cMo_followers 24 = .ok (.aload_n 0, 1) := by decide +kernel
theorem dMo_followers_25 : decode cMo_followers 25 = .ok (.iload_n 1, 1) := by decide +kernel
theorem dMo_followers_26 : decode cMo_followers 26 = .ok (.invokevirtual 64, 3) := by decide +kernel
theorem dMo_followers_29 : decode cMo_followers 29 = .ok (.goto 4, 3) := by decide +kernel
theorem dMo_followers_32 : decode cMo_followers 32 = .ok (.lconst 0, 1) := by decide +kernel
theorem dMo_followers_33 : decode cMo_followers 33 = .ok (.lreturn, 1) := by decide +kernel
theorem dMo_noState_0 : decode cMo_noState 0 = .ok (.iload_n 1, 1) := by decide +kernel
theorem dMo_noState_1 : decode cMo_noState 1 = .ok (.ifCond .lt 9, 3) := by decide +kernel
theorem dMo_noState_4 : decode cMo_noState 4 = .ok (.iload_n 1, 1) := by decide +kernel
theorem dMo_noState_5 : decode cMo_noState 5 = .ok (.bipush 63, 2) := by decide +kernel
theorem dMo_noState_7 : decode cMo_noState 7 = .ok (.if_icmp .le 7, 3) := by decide +kernel
theorem dMo_noState_10 : decode cMo_noState 10 = .ok (.iconst 1, 1) := by decide +kernel
theorem dMo_noState_11 : decode cMo_noState 11 = .ok (.goto 4, 3) := by decide +kernel
theorem dMo_noState_14 : decode cMo_noState 14 = .ok (.iconst 0, 1) := by decide +kernel
theorem dMo_noState_15 : decode cMo_noState 15 = .ok (.ireturn, 1) := by decide +kernel
theorem dMo_followersOf_0 : decode cMo_followersOf 0 = .ok (.lconst 0, 1) := by decide +kernel
theorem dMo_followersOf_1 : decode cMo_followersOf 1 = .ok (.lstore_n 2, 1) := by decide +kernel
theorem dMo_followersOf_2 : decode cMo_followersOf 2 = .ok (.iconst 0, 1) := by decide +kernel
theorem dMo_followersOf_3 : decode cMo_followersOf 3 = .ok (.istore 4, 2) := by decide +kernel
theorem dMo_followersOf_5 : decode cMo_followersOf 5 = .ok (.iload 4, 2) := by decide +kernel
theorem dMo_followersOf_7 : decode cMo_followersOf 7 = .ok (.iconst 5, 1) := by decide +kernel
theorem dMo_followersOf_8 : decode cMo_followersOf 8 = .ok (.aload_n 0, 1) := by decide +kernel
theorem dMo_followersOf_9 : decode cMo_followersOf 9 = .ok (.getfield 58, 3) := by decide +kernel
theorem dMo_followersOf_12 : decode cMo_followersOf 12 = .ok (.imul, 1) := by decide +kernel
theorem dMo_followersOf_13 : decode cMo_followersOf 13 = .ok (.if_icmp .ge 121, 3) := by decide +kernel
theorem dMo_followersOf_16 : decode cMo_followersOf 16 = .ok (.aload_n 0, 1) := by decide +kernel
theorem dMo_followersOf_17 : decode cMo_followersOf 17 = .ok (.getfield 7, 3) := by decide +kernel
theorem dMo_followersOf_20 : decode cMo_followersOf 20 = .ok (.iload 4, 2) := by decide +kernel
theorem dMo_followersOf_22 : decode cMo_followersOf 22 = .ok (.iaload, 1) := by decide +kernel
theorem dMo_followersOf_23 : decode cMo_followersOf 23 = .ok (.iload_n 1, 1) := by decide +kernel
theorem dMo_followersOf_24 : decode cMo_followersOf 24 = .ok (.iconst (-1), 1) := by decide +kernel
theorem dMo_followersOf_25 : decode cMo_followersOf 25 = .ok (.ixor, 1) := by decide +kernel
theorem dMo_followersOf_26 : decode cMo_followersOf 26 = .ok (.iand, 1) := by decide +kernel
theorem dMo_followersOf_27 : decode cMo_followersOf 27 = .ok (.ifCond .ne 21, 3) := by decide +kernel
theorem dMo_followersOf_30 : decode cMo_followersOf 30 = .ok (.aload_n 0, 1) := by decide +kernel
theorem dMo_followersOf_31 : decode cMo_followersOf 31 = .ok (.getfield 7, 3) := by decide +kernel
theorem dMo_followersOf_34 : decode cMo_followersOf 34 = .ok (.iload 4, 2) := by decide +kernel
theorem dMo_followersOf_36 : decode cMo_followersOf 36 = .ok (.iconst 1, 1) := by decide +kernel
theorem dMo_followersOf_37 : decode cMo_followersOf 37 = .ok (.iadd, 1) := by decide +kernel
theorem dMo_followersOf_38 : decode cMo_followersOf 38 = .ok (.iaload, 1) := by decide +kernel
theorem dMo_followersOf_39 : decode cMo_followersOf 39 = .ok (.iload_n 1, 1) := by decide +kernel
theorem dMo_followersOf_40 : decode cMo_followersOf 40 = .ok (.iand, 1) := by decide +kernel
theorem dMo_followersOf_41 : decode cMo_followersOf 41 = .ok (.ifCond .ne 7, 3) := by decide +kernel
theorem dMo_followersOf_44 : decode cMo_followersOf 44 = .ok (.iconst 1, 1) := by decide +kernel
theorem dMo_followersOf_45 : decode cMo_followersOf 45 = .ok (.goto 4, 3) := by decide +kernel
theorem dMo_followersOf_48 : decode cMo_followersOf 48 = .ok (.iconst 0, 1) := by decide +kernel
theorem dMo_followersOf_49 : decode cMo_followersOf 49 = .ok (.istore 5, 2) := by decide +kernel
theorem dMo_followersOf_51 : decode cMo_followersOf 51 = .ok (.iload_n 1, 1) := by decide +kernel
theorem dMo_followersOf_52 : decode cMo_followersOf 52 = .ok (.aload_n 0, 1) := by decide +kernel
theorem dMo_followersOf_53 : decode cMo_followersOf 53 = .ok (.getfield 7, 3) := by decide +kernel
theorem dMo_followersOf_56 : decode cMo_followersOf 56 = .ok (.iload 4, 2) := by decide +kernel
theorem dMo_followersOf_58 : decode cMo_followersOf 58 = .ok (.iconst 2, 1) := by decide +kernel
theorem dMo_followersOf_59 : decode cMo_followersOf 59 = .ok (.iadd, 1) := by decide +kernel
theorem dMo_followersOf_60 : decode cMo_followersOf 60 = .ok (.iaload, 1) := by decide +kernel
theorem dMo_followersOf_61 : decode cMo_followersOf 61 = .ok (.ior, 1) := by decide +kernel
theorem dMo_followersOf_62 : decode cMo_followersOf 62 = .ok (.aload_n 0, 1) := by decide +kernel
theorem dMo_followersOf_63 : decode cMo_followersOf 63 = .ok (.getfield 7, 3) := by decide +kernel
theorem dMo_followersOf_66 : decode cMo_followersOf 66 = .ok (.iload 4, 2) := by decide +kernel
theorem dMo_followersOf_68 : decode cMo_followersOf 68 = .ok (.iconst 3, 1) := by decide +kernel
theorem dMo_followersOf_69 : decode cMo_followersOf 69 = .ok (.iadd, 1) := by decide +kernel
theorem dMo_followersOf_70 : decode cMo_followersOf 70 = .ok (.iaload, 1) := by decide +kernel
theorem dMo_followersOf_71 : decode cMo_followersOf 71 = .ok (.iconst (-1), 1) := by decide +kernel
theorem dMo_followersOf_72 : decode cMo_followersOf 72 = .ok (.ixor, 1) := by decide +kernel
theorem dMo_followersOf_73 : decode cMo_followersOf 73 = .ok (.iand, 1) := by decide +kernel
theorem dMo_followersOf_74 : decode cMo_followersOf 74 = .ok (.istore 6, 2) := by decide +kernel
theorem dMo_followersOf_76 : decode cMo_followersOf 76 = .ok (.iconst 0, 1) := by decide +kernel
theorem dMo_followersOf_77 : decode cMo_followersOf 77 = .ok (.istore 7, 2) := by decide +kernel
theorem dMo_followersOf_79 : decode cMo_followersOf 79 = .ok (.iload 7, 2) := by decide +kernel
theorem dMo_followersOf_81 : decode cMo_followersOf 81 = .ok (.bipush 64, 2) := by decide +kernel
theorem dMo_followersOf_83 : decode cMo_followersOf 83 = .ok (.if_icmp .ge 45, 3) := by decide +kernel
theorem dMo_followersOf_86 : decode cMo_followersOf 86 = .ok (.iload 5, 2) := by decide +kernel
theorem dMo_followersOf_88 : decode cMo_followersOf 88 = .ok (.ifCond .eq 40, 3) := by decide +kernel
theorem dMo_followersOf_91 : decode cMo_followersOf 91 = .ok (.iload 7, 2) := by decide +kernel
theorem dMo_followersOf_93 : decode cMo_followersOf 93 = .ok (.iload 6, 2) := by decide +kernel
theorem dMo_followersOf_95 : decode cMo_followersOf 95 = .ok (.ixor, 1) := by decide +kernel
theorem dMo_followersOf_96 : decode cMo_followersOf 96 = .ok (.aload_n 0, 1) := by decide +kernel
theorem dMo_followersOf_97 : decode cMo_followersOf 97 = .ok (.getfield 7, 3) := by decide +kernel
theorem dMo_followersOf_100 : decode cMo_followersOf 100 = .ok (.iload 4, 2) := by decide +kernel
theorem dMo_followersOf_102 : decode cMo_followersOf 102 = .ok (.iconst 4, 1) := by decide +kernel
theorem dMo_followersOf_103 : decode cMo_followersOf 103 = .ok (.iadd, 1) := by decide +kernel
theorem dMo_followersOf_104 : decode cMo_followersOf 104 = .ok (.iaload, 1) := by decide +kernel
theorem dMo_followersOf_105 : decode cMo_followersOf 105 = .ok (.iconst (-1), 1) := by decide +kernel
theorem dMo_followersOf_106 : decode cMo_followersOf 106 = .ok (.ixor, 1) := by decide +kernel
theorem dMo_followersOf_107 : decode cMo_followersOf 107 = .ok (.iand, 1) := by decide +kernel
theorem dMo_followersOf_108 : decode cMo_followersOf 108 = .ok (.ifCond .ne 12, 3) := by decide +kernel
theorem dMo_followersOf_111 : decode cMo_followersOf 111 = .ok (.lload_n 2, 1) := by decide +kernel
theorem dMo_followersOf_112 : decode cMo_followersOf 112 = .ok (.lconst 1, 1) := by decide +kernel
theorem dMo_followersOf_113 : decode cMo_followersOf 113 = .ok (.iload 7, 2) := by decide +kernel
theorem dMo_followersOf_115 : decode cMo_followersOf 115 = .ok (.lshl, 1) := by decide +kernel
theorem dMo_followersOf_116 : decode cMo_followersOf 116 = .ok (.lor, 1) := by decide +kernel
theorem dMo_followersOf_117 : decode cMo_followersOf 117 = .ok (.goto 4, 3) := by decide +kernel
theorem dMo_followersOf_120 : decode cMo_followersOf 120 = .ok (.lload_n 2, 1) := by decide +kernel
theorem dMo_followersOf_121 : decode cMo_followersOf 121 = .ok (.lstore_n 2, 1) := by decide +kernel
theorem dMo_followersOf_122 : decode cMo_followersOf 122 = .ok (.iinc 7 1, 3) := by decide +kernel
theorem dMo_followersOf_125 : decode cMo_followersOf 125 = .ok (.goto (-46), 3) := by decide +kernel
theorem dMo_followersOf_128 : decode cMo_followersOf 128 = .ok (.iinc 4 5, 3) := by decide +kernel
theorem dMo_followersOf_131 : decode cMo_followersOf 131 = .ok (.goto (-126), 3) := by decide +kernel
theorem dMo_followersOf_134 : decode cMo_followersOf 134 = .ok (.lload_n 2, 1) := by decide +kernel
theorem dMo_followersOf_135 : decode cMo_followersOf 135 = .ok (.lconst 0, 1) := by decide +kernel
theorem dMo_followersOf_136 : decode cMo_followersOf 136 = .ok (.lcmp, 1) := by decide +kernel
theorem dMo_followersOf_137 : decode cMo_followersOf 137 = .ok (.ifCond .ne 9, 3) := by decide +kernel
theorem dMo_followersOf_140 : decode cMo_followersOf 140 = .ok (.lconst 1, 1) := by decide +kernel
theorem dMo_followersOf_141 : decode cMo_followersOf 141 = .ok (.iload_n 1, 1) := by decide +kernel
theorem dMo_followersOf_142 : decode cMo_followersOf 142 = .ok (.lshl, 1) := by decide +kernel
theorem dMo_followersOf_143 : decode cMo_followersOf 143 = .ok (.goto 4, 3) := by decide +kernel
theorem dMo_followersOf_146 : decode cMo_followersOf 146 = .ok (.lload_n 2, 1) := by decide +kernel
theorem dMo_followersOf_147 : decode cMo_followersOf 147 = .ok (.lreturn, 1) := by decide +kernel
theorem dMo_formula_0 : decode cMo_formula 0 = .ok (.iload_n 1, 1) := by decide +kernel
theorem dMo_formula_1 : decode cMo_formula 1 = .ok (.ifCond .lt 9, 3) := by decide +kernel
theorem dMo_formula_4 : decode cMo_formula 4 = .ok (.iload_n 1, 1) := by decide +kernel
theorem dMo_formula_5 : decode cMo_formula 5 = .ok (.bipush 12, 2) := by decide +kernel
theorem dMo_formula_7 : decode cMo_formula 7 = .ok (.if_icmp .le 7, 3) := by decide +kernel
theorem dMo_formula_10 : decode cMo_formula 10 = .ok (.iconst 1, 1) := by decide +kernel
theorem dMo_formula_11 : decode cMo_formula 11 = .ok (.goto 4, 3) := by decide +kernel
theorem dMo_formula_14 : decode cMo_formula 14 = .ok (.iconst 0, 1) := by decide +kernel
theorem dMo_formula_15 : decode cMo_formula 15 = .ok (.istore 4, 2) := by decide +kernel
theorem dMo_formula_17 : decode cMo_formula 17 = .ok (.iload 4, 2) := by decide +kernel
theorem dMo_formula_19 : decode cMo_formula 19 = .ok (.ifCond .ne 32, 3) := by decide +kernel
theorem dMo_formula_22 : decode cMo_formula 22 = .ok (.iload_n 1, 1) := by decide +kernel
theorem dMo_formula_23 : decode cMo_formula 23 = .ok (.ifCond .ne 15, 3) := by decide +kernel
theorem dMo_formula_26 : decode cMo_formula 26 = .ok (.iload_n 2, 1) := by decide +kernel
theorem dMo_formula_27 : decode cMo_formula 27 = .ok (.ifCond .lt 24, 3) := by decide +kernel
theorem dMo_formula_30 : decode cMo_formula 30 = .ok (.iload_n 2, 1) := by decide +kernel
theorem dMo_formula_31 : decode cMo_formula 31 = .ok (.iconst 5, 1) := by decide +kernel
theorem dMo_formula_32 : decode cMo_formula 32 = .ok (.if_icmp .le 23, 3) := by decide +kernel
theorem dMo_formula_35 : decode cMo_formula 35 = .ok (.goto 16, 3) := by decide +kernel
theorem dMo_formula_38 : decode cMo_formula 38 = .ok (.iload_n 1, 1) := by decide +kernel
theorem dMo_formula_39 : decode cMo_formula 39 = .ok (.iconst 1, 1) := by decide +kernel
theorem dMo_formula_40 : decode cMo_formula 40 = .ok (.if_icmp .eq 15, 3) := by decide +kernel
theorem dMo_formula_43 : decode cMo_formula 43 = .ok (.aload_n 0, 1) := by decide +kernel
theorem dMo_formula_44 : decode cMo_formula 44 = .ok (.iload_n 2, 1) := by decide +kernel
theorem dMo_formula_45 : decode cMo_formula 45 = .ok (.invokevirtual 71, 3) := by decide +kernel
theorem dMo_formula_48 : decode cMo_formula 48 = .ok (.ifCond .eq 7, 3) := by decide +kernel
theorem dMo_formula_51 : decode cMo_formula 51 = .ok (.iconst 1, 1) := by decide +kernel
theorem dMo_formula_52 : decode cMo_formula 52 = .ok (.goto 4, 3) := by decide +kernel
theorem dMo_formula_55 : decode cMo_formula 55 = .ok (.iconst 0, 1) := by decide +kernel
theorem dMo_formula_56 : decode cMo_formula 56 = .ok (.istore 4, 2) := by decide +kernel
theorem dMo_formula_58 : decode cMo_formula 58 = .ok (.iload 4, 2) := by decide +kernel
theorem dMo_formula_60 : decode cMo_formula 60 = .ok (.ifCond .ne 19, 3) := by decide +kernel
theorem dMo_formula_63 : decode cMo_formula 63 = .ok (.aload_n 0, 1) := by decide +kernel
theorem dMo_formula_64 : decode cMo_formula 64 = .ok (.iload_n 1, 1) := by decide +kernel
theorem dMo_formula_65 : decode cMo_formula 65 = .ok (.invokevirtual 74, 3) := by decide +kernel
theorem dMo_formula_68 : decode cMo_formula 68 = .ok (.ifCond .eq 15, 3) := by decide +kernel
theorem dMo_formula_71 : decode cMo_formula 71 = .ok (.aload_n 0, 1) := by decide +kernel
theorem dMo_formula_72 : decode cMo_formula 72 = .ok (.iload_n 3, 1) := by decide +kernel
theorem dMo_formula_73 : decode cMo_formula 73 = .ok (.invokevirtual 71, 3) := by decide +kernel
theorem dMo_formula_76 : decode cMo_formula 76 = .ok (.ifCond .eq 7, 3) := by decide +kernel
theorem dMo_formula_79 : decode cMo_formula 79 = .ok (.iconst 1, 1) := by decide +kernel
theorem dMo_formula_80 : decode cMo_formula 80 = .ok (.goto 4, 3) := by decide +kernel
theorem dMo_formula_83 : decode cMo_formula 83 = .ok (.iconst 0, 1) := by decide +kernel
theorem dMo_formula_84 : decode cMo_formula 84 = .ok (.istore 4, 2) := by decide +kernel
theorem dMo_formula_86 : decode cMo_formula 86 = .ok (.aload_n 0, 1) := by decide +kernel
theorem dMo_formula_87 : decode cMo_formula 87 = .ok (.iload 4, 2) := by decide +kernel
theorem dMo_formula_89 : decode cMo_formula 89 = .ok (.ifCond .eq 7, 3) := by decide +kernel
theorem dMo_formula_92 : decode cMo_formula 92 = .ok (.iconst 1, 1) := by decide +kernel
theorem dMo_formula_93 : decode cMo_formula 93 = .ok (.goto 17, 3) := by decide +kernel
theorem dMo_formula_96 : decode cMo_formula 96 = .ok (.aload_n 0, 1) := by decide +kernel
theorem dMo_formula_97 : decode cMo_formula 97 = .ok (.getfield 68, 3) := by decide +kernel
theorem dMo_formula_100 : decode cMo_formula 100 = .ok (.bipush 32, 2) := by decide +kernel
theorem dMo_formula_102 : decode cMo_formula 102 = .ok (.if_icmp .ne 7, 3) := by decide +kernel
theorem dMo_formula_105 : decode cMo_formula 105 = .ok (.iconst 2, 1) := by decide +kernel
theorem dMo_formula_106 : decode cMo_formula 106 = .ok (.goto 4, 3) := by decide +kernel
theorem dMo_formula_109 : decode cMo_formula 109 = .ok (.iconst 0, 1) := by decide +kernel
theorem dMo_formula_110 : decode cMo_formula 110 = .ok (.putfield 51, 3) := by decide +kernel
theorem dMo_formula_113 : decode cMo_formula 113 = .ok (.aload_n 0, 1) := by decide +kernel
theorem dMo_formula_114 : decode cMo_formula 114 = .ok (.getfield 51, 3) := by decide +kernel
theorem dMo_formula_117 : decode cMo_formula 117 = .ok (.ifCond .eq 5, 3) := by decide +kernel
theorem dMo_formula_120 : decode cMo_formula 120 = .ok (.iconst 0, 1) := by decide +kernel
theorem dMo_formula_121 : decode cMo_formula 121 = .ok (.ireturn, 1) := by decide +kernel
theorem dMo_formula_122 : decode cMo_formula 122 = .ok (.aload_n 0, 1) := by decide +kernel
theorem dMo_formula_123 : decode cMo_formula 123 = .ok (.getfield 17, 3) := by decide +kernel
theorem dMo_formula_126 : decode cMo_formula 126 = .ok (.aload_n 0, 1) := by decide +kernel
theorem dMo_formula_127 : decode cMo_formula 127 = .ok (.getfield 68, 3) := by decide +kernel
theorem dMo_formula_130 : decode cMo_formula 130 = .ok (.iload_n 1, 1) := by decide +kernel
theorem dMo_formula_131 : decode cMo_formula 131 = .ok (.iastore, 1) := by decide +kernel
theorem dMo_formula_132 : decode cMo_formula 132 = .ok (.aload_n 0, 1) := by decide +kernel
theorem dMo_formula_133 : decode cMo_formula 133 = .ok (.getfield 20, 3) := by decide +kernel
theorem dMo_formula_136 : decode cMo_formula 136 = .ok (.aload_n 0, 1) := by decide +kernel
theorem dMo_formula_137 : decode cMo_formula 137 = .ok (.getfield 68, 3) := by decide +kernel
theorem dMo_formula_140 : decode cMo_formula 140 = .ok (.iload_n 2, 1) := by decide +kernel
theorem dMo_formula_141 : decode cMo_formula 141 = .ok (.iastore, 1) := by decide +kernel
theorem dMo_formula_142 : decode cMo_formula 142 = .ok (.aload_n 0, 1) := by decide +kernel
theorem dMo_formula_143 : decode cMo_formula 143 = .ok (.getfield 23, 3) := by decide +kernel
theorem dMo_formula_146 : decode cMo_formula 146 = .ok (.aload_n 0, 1) := by decide +kernel
theorem dMo_formula_147 : decode cMo_formula 147 = .ok (.getfield 68, 3) := by decide +kernel
theorem dMo_formula_150 : decode cMo_formula 150 = .ok (.iload_n 3, 1) := by decide +kernel
theorem dMo_formula_151 : decode cMo_formula 151 = .ok (.iastore, 1) := by decide +kernel
theorem dMo_formula_152 : decode cMo_formula 152 = .ok (.aload_n 0, 1) := by decide +kernel
theorem dMo_formula_153 : decode cMo_formula 153 = .ok (.dup, 1) := by decide +kernel
theorem dMo_formula_154 : decode cMo_formula 154 = .ok (.getfield 68, 3) := by decide +kernel
theorem dMo_formula_157 : decode cMo_formula 157 = .ok (.iconst 1, 1) := by decide +kernel
theorem dMo_formula_158 : decode cMo_formula 158 = .ok (.iadd, 1) := by decide +kernel
theorem dMo_formula_159 : decode cMo_formula 159 = .ok (.putfield 68, 3) := by decide +kernel
theorem dMo_formula_162 : decode cMo_formula 162 = .ok (.aload_n 0, 1) := by decide +kernel
theorem dMo_formula_163 : decode cMo_formula 163 = .ok (.getfield 68, 3) := by decide +kernel
theorem dMo_formula_166 : decode cMo_formula 166 = .ok (.iconst 1, 1) := by decide +kernel
theorem dMo_formula_167 : decode cMo_formula 167 = .ok (.isub, 1) := by decide +kernel
theorem dMo_formula_168 : decode cMo_formula 168 = .ok (.ireturn, 1) := by decide +kernel
theorem dMo_noFormula_0 : decode cMo_noFormula 0 = .ok (.iload_n 1, 1) := by decide +kernel
theorem dMo_noFormula_1 : decode cMo_noFormula 1 = .ok (.ifCond .lt 11, 3) := by decide +kernel
theorem dMo_noFormula_4 : decode cMo_noFormula 4 = .ok (.iload_n 1, 1) := by decide +kernel
theorem dMo_noFormula_5 : decode cMo_noFormula 5 = .ok (.aload_n 0, 1) := by decide +kernel
theorem dMo_noFormula_6 : decode cMo_noFormula 6 = .ok (.getfield 68, 3) := by decide +kernel
theorem dMo_noFormula_9 : decode cMo_noFormula 9 = .ok (.if_icmp .lt 7, 3) := by decide +kernel
theorem dMo_noFormula_12 : decode cMo_noFormula 12 = .ok (.iconst 1, 1) := by decide +kernel
theorem dMo_noFormula_13 : decode cMo_noFormula 13 = .ok (.goto 4, 3) := by decide +kernel
theorem dMo_noFormula_16 : decode cMo_noFormula 16 = .ok (.iconst 0, 1) := by decide +kernel
theorem dMo_noFormula_17 : decode cMo_noFormula 17 = .ok (.ireturn, 1) := by decide +kernel
theorem dMo_hasSecond_0 : decode cMo_hasSecond 0 = .ok (.iload_n 1, 1) := by decide +kernel
theorem dMo_hasSecond_1 : decode cMo_hasSecond 1 = .ok (.iconst 3, 1) := by decide +kernel
theorem dMo_hasSecond_2 : decode cMo_hasSecond 2 = .ok (.if_icmp .eq 20, 3) := by decide +kernel
theorem dMo_hasSecond_5 : decode cMo_hasSecond 5 = .ok (.iload_n 1, 1) := by decide +kernel
theorem dMo_hasSecond_6 : decode cMo_hasSecond 6 = .ok (.iconst 4, 1) := by decide +kernel
theorem dMo_hasSecond_7 : decode cMo_hasSecond 7 = .ok (.if_icmp .eq 15, 3) := by decide +kernel
theorem dMo_hasSecond_10 : decode cMo_hasSecond 10 = .ok (.iload_n 1, 1) := by decide +kernel
theorem dMo_hasSecond_11 : decode cMo_hasSecond 11 = .ok (.bipush 6, 2) := by decide +kernel
theorem dMo_hasSecond_13 : decode cMo_hasSecond 13 = .ok (.if_icmp .eq 9, 3) := by decide +kernel
theorem dMo_hasSecond_16 : decode cMo_hasSecond 16 = .ok (.iload_n 1, 1) := by decide +kernel
theorem dMo_hasSecond_17 : decode cMo_hasSecond 17 = .ok (.bipush 10, 2) := by decide +kernel
theorem dMo_hasSecond_19 : decode cMo_hasSecond 19 = .ok (.if_icmp .ne 7, 3) := by decide +kernel
theorem dMo_hasSecond_22 : decode cMo_hasSecond 22 = .ok (.iconst 1, 1) := by decide +kernel
theorem dMo_hasSecond_23 : decode cMo_hasSecond 23 = .ok (.goto 4, 3) := by decide +kernel
theorem dMo_hasSecond_26 : decode cMo_hasSecond 26 = .ok (.iconst 0, 1) := by decide +kernel
theorem dMo_hasSecond_27 : decode cMo_hasSecond 27 = .ok (.ireturn, 1) := by decide +kernel
theorem dMo_fair_0 : decode cMo_fair 0 = .ok (.aload_n 0, 1) := by decide +kernel
theorem dMo_fair_1 : decode cMo_fair 1 = .ok (.iload_n 1, 1) := by decide +kernel
theorem dMo_fair_2 : decode cMo_fair 2 = .ok (.invokevirtual 71, 3) := by decide +kernel
theorem dMo_fair_5 : decode cMo_fair 5 = .ok (.istore_n 2, 1) := by decide +kernel
theorem dMo_fair_6 : decode cMo_fair 6 = .ok (.iconst 0, 1) := by decide +kernel
theorem dMo_fair_7 : decode cMo_fair 7 = .ok (.istore_n 3, 1) := by decide +kernel
theorem dMo_fair_8 : decode cMo_fair 8 = .ok (.iload_n 3, 1) := by decide +kernel
theorem dMo_fair_9 : decode cMo_fair 9 = .ok (.iload_n 1, 1) := by decide +kernel
theorem dMo_fair_10 : decode cMo_fair 10 = .ok (.if_icmp .gt 43, 3) := by decide +kernel
theorem dMo_fair_13 : decode cMo_fair 13 = .ok (.iload_n 2, 1) := by decide +kernel
theorem dMo_fair_14 : decode cMo_fair 14 = .ok (.ifCond .ne 39, 3) := by decide +kernel
theorem dMo_fair_17 : decode cMo_fair 17 = .ok (.aload_n 0, 1) := by decide +kernel
theorem dMo_fair_18 : decode cMo_fair 18 = .ok (.iload_n 1, 1) := by decide +kernel
theorem dMo_fair_19 : decode cMo_fair 19 = .ok (.invokevirtual 77, 3) := by decide +kernel
theorem dMo_fair_22 : decode cMo_fair 22 = .ok (.iload_n 3, 1) := by decide +kernel
theorem dMo_fair_23 : decode cMo_fair 23 = .ok (.lshr, 1) := by decide +kernel
theorem dMo_fair_24 : decode cMo_fair 24 = .ok (.lconst 1, 1) := by decide +kernel
theorem dMo_fair_25 : decode cMo_fair 25 = .ok (.land, 1) := by decide +kernel
theorem dMo_fair_26 : decode cMo_fair 26 = .ok (.lconst 1, 1) := by decide +kernel
theorem dMo_fair_27 : decode cMo_fair 27 = .ok (.lcmp, 1) := by decide +kernel
theorem dMo_fair_28 : decode cMo_fair 28 = .ok (.ifCond .ne 17, 3) := by decide +kernel
theorem dMo_fair_31 : decode cMo_fair 31 = .ok (.aload_n 0, 1) := by decide +kernel
theorem dMo_fair_32 : decode cMo_fair 32 = .ok (.getfield 17, 3) := by decide +kernel
theorem dMo_fair_35 : decode cMo_fair 35 = .ok (.iload_n 3, 1) := by decide +kernel
theorem dMo_fair_36 : decode cMo_fair 36 = .ok (.iaload, 1) := by decide +kernel
theorem dMo_fair_37 : decode cMo_fair 37 = .ok (.iconst 4, 1) := by decide +kernel
theorem dMo_fair_38 : decode cMo_fair 38 = .ok (.if_icmp .le 7, 3) := by decide +kernel
theorem dMo_fair_41 : decode cMo_fair 41 = .ok (.iconst 1, 1) := by decide +kernel
theorem dMo_fair_42 : decode cMo_fair 42 = .ok (.goto 4, 3) := by decide +kernel
theorem dMo_fair_45 : decode cMo_fair 45 = .ok (.iconst 0, 1) := by decide +kernel
theorem dMo_fair_46 : decode cMo_fair 46 = .ok (.istore_n 2, 1) := by decide +kernel
theorem dMo_fair_47 : decode cMo_fair 47 = .ok (.iinc 3 1, 3) := by decide +kernel
theorem dMo_fair_50 : decode cMo_fair 50 = .ok (.goto (-42), 3) := by decide +kernel
theorem dMo_fair_53 : decode cMo_fair 53 = .ok (.aload_n 0, 1) := by decide +kernel
theorem dMo_fair_54 : decode cMo_fair 54 = .ok (.iload_n 2, 1) := by decide +kernel
theorem dMo_fair_55 : decode cMo_fair 55 = .ok (.ifCond .eq 7, 3) := by decide +kernel
theorem dMo_fair_58 : decode cMo_fair 58 = .ok (.iconst 1, 1) := by decide +kernel
theorem dMo_fair_59 : decode cMo_fair 59 = .ok (.goto 16, 3) := by decide +kernel
theorem dMo_fair_62 : decode cMo_fair 62 = .ok (.aload_n 0, 1) := by decide +kernel
theorem dMo_fair_63 : decode cMo_fair 63 = .ok (.getfield 80, 3) := by decide +kernel
theorem dMo_fair_66 : decode cMo_fair 66 = .ok (.iconst 3, 1) := by decide +kernel
theorem dMo_fair_67 : decode cMo_fair 67 = .ok (.if_icmp .ne 7, 3) := by decide +kernel
theorem dMo_fair_70 : decode cMo_fair 70 = .ok (.iconst 2, 1) := by decide +kernel
theorem dMo_fair_71 : decode cMo_fair 71 = .ok (.goto 4, 3) := by decide +kernel
theorem dMo_fair_74 : decode cMo_fair 74 = .ok (.iconst 0, 1) := by decide +kernel
theorem dMo_fair_75 : decode cMo_fair 75 = .ok (.putfield 51, 3) := by decide +kernel
theorem dMo_fair_78 : decode cMo_fair 78 = .ok (.aload_n 0, 1) := by decide +kernel
theorem dMo_fair_79 : decode cMo_fair 79 = .ok (.getfield 51, 3) := by decide +kernel
theorem dMo_fair_82 : decode cMo_fair 82 = .ok (.ifCond .eq 5, 3) := by decide +kernel
theorem dMo_fair_85 : decode cMo_fair 85 = .ok (.iconst 0, 1) := by decide +kernel
theorem dMo_fair_86 : decode cMo_fair 86 = .ok (.ireturn, 1) := by decide +kernel
theorem dMo_fair_87 : decode cMo_fair 87 = .ok (.aload_n 0, 1) := by decide +kernel
theorem dMo_fair_88 : decode cMo_fair 88 = .ok (.getfield 29, 3) := by decide +kernel
theorem dMo_fair_91 : decode cMo_fair 91 = .ok (.aload_n 0, 1) := by decide +kernel
theorem dMo_fair_92 : decode cMo_fair 92 = .ok (.getfield 80, 3) := by decide +kernel
theorem dMo_fair_95 : decode cMo_fair 95 = .ok (.iload_n 1, 1) := by decide +kernel
theorem dMo_fair_96 : decode cMo_fair 96 = .ok (.iastore, 1) := by decide +kernel
theorem dMo_fair_97 : decode cMo_fair 97 = .ok (.aload_n 0, 1) := by decide +kernel
theorem dMo_fair_98 : decode cMo_fair 98 = .ok (.dup, 1) := by decide +kernel
theorem dMo_fair_99 : decode cMo_fair 99 = .ok (.getfield 80, 3) := by decide +kernel
theorem dMo_fair_102 : decode cMo_fair 102 = .ok (.iconst 1, 1) := by decide +kernel
theorem dMo_fair_103 : decode cMo_fair 103 = .ok (.iadd, 1) := by decide +kernel
theorem dMo_fair_104 : decode cMo_fair 104 = .ok (.putfield 80, 3) := by decide +kernel
theorem dMo_fair_107 : decode cMo_fair 107 = .ok (.aload_n 0, 1) := by decide +kernel
theorem dMo_fair_108 : decode cMo_fair 108 = .ok (.getfield 80, 3) := by decide +kernel
theorem dMo_fair_111 : decode cMo_fair 111 = .ok (.ireturn, 1) := by decide +kernel
theorem dMo_madeOf_0 : decode cMo_madeOf 0 = .ok (.lconst 1, 1) := by decide +kernel
theorem dMo_madeOf_1 : decode cMo_madeOf 1 = .ok (.iload_n 1, 1) := by decide +kernel
theorem dMo_madeOf_2 : decode cMo_madeOf 2 = .ok (.lshl, 1) := by decide +kernel
theorem dMo_madeOf_3 : decode cMo_madeOf 3 = .ok (.lstore_n 2, 1) := by decide +kernel
theorem dMo_madeOf_4 : decode cMo_madeOf 4 = .ok (.iload_n 1, 1) := by decide +kernel
theorem dMo_madeOf_5 : decode cMo_madeOf 5 = .ok (.istore 4, 2) := by decide +kernel
theorem dMo_madeOf_7 : decode cMo_madeOf 7 = .ok (.iload 4, 2) := by decide +kernel
theorem dMo_madeOf_9 : decode cMo_madeOf 9 = .ok (.ifCond .lt 94, 3) := by decide +kernel
theorem dMo_madeOf_12 : decode cMo_madeOf 12 = .ok (.lload_n 2, 1) := by decide +kernel
theorem dMo_madeOf_13 : decode cMo_madeOf 13 = .ok (.iload 4, 2) := by decide +kernel
theorem dMo_madeOf_15 : decode cMo_madeOf 15 = .ok (.lshr, 1) := by decide +kernel
theorem dMo_madeOf_16 : decode cMo_madeOf 16 = .ok (.lconst 1, 1) := by decide +kernel
theorem dMo_madeOf_17 : decode cMo_madeOf 17 = .ok (.land, 1) := by decide +kernel
theorem dMo_madeOf_18 : decode cMo_madeOf 18 = .ok (.lconst 1, 1) := by decide +kernel
theorem dMo_madeOf_19 : decode cMo_madeOf 19 = .ok (.lcmp, 1) := by decide +kernel
theorem dMo_madeOf_20 : decode cMo_madeOf 20 = .ok (.ifCond .ne 7, 3) := by decide +kernel
theorem dMo_madeOf_23 : decode cMo_madeOf 23 = .ok (.iconst 1, 1) := by decide +kernel
theorem dMo_madeOf_24 : decode cMo_madeOf 24 = .ok (.goto 4, 3) := by decide +kernel
theorem dMo_madeOf_27 : decode cMo_madeOf 27 = .ok (.iconst 0, 1) := by decide +kernel
theorem dMo_madeOf_28 : decode cMo_madeOf 28 = .ok (.istore 5, 2) := by decide +kernel
theorem dMo_madeOf_30 : decode cMo_madeOf 30 = .ok (.iload 5, 2) := by decide +kernel
theorem dMo_madeOf_32 : decode cMo_madeOf 32 = .ok (.ifCond .eq 28, 3) := by decide +kernel
theorem dMo_madeOf_35 : decode cMo_madeOf 35 = .ok (.aload_n 0, 1) := by decide +kernel
theorem dMo_madeOf_36 : decode cMo_madeOf 36 = .ok (.getfield 17, 3) := by decide +kernel
theorem dMo_madeOf_39 : decode cMo_madeOf 39 = .ok (.iload 4, 2) := by decide +kernel
theorem dMo_madeOf_41 : decode cMo_madeOf 41 = .ok (.iaload, 1) := by decide +kernel
theorem dMo_madeOf_42 : decode cMo_madeOf 42 = .ok (.iconst 1, 1) := by decide +kernel
theorem dMo_madeOf_43 : decode cMo_madeOf 43 = .ok (.if_icmp .le 17, 3) := by decide +kernel
theorem dMo_madeOf_46 : decode cMo_madeOf 46 = .ok (.lload_n 2, 1) := by decide +kernel
theorem dMo_madeOf_47 : decode cMo_madeOf 47 = .ok (.lconst 1, 1) := by decide +kernel
theorem dMo_madeOf_48 : decode cMo_madeOf 48 = .ok (.aload_n 0, 1) := by decide +kernel
theorem dMo_madeOf_49 : decode cMo_madeOf 49 = .ok (.getfield 20, 3) := by decide +kernel
theorem dMo_madeOf_52 : decode cMo_madeOf 52 = .ok (.iload 4, 2) := by decide +kernel
theorem dMo_madeOf_54 : decode cMo_madeOf 54 = .ok (.iaload, 1) := by decide +kernel
theorem dMo_madeOf_55 : decode cMo_madeOf 55 = .ok (.lshl, 1) := by decide +kernel
theorem dMo_madeOf_56 : decode cMo_madeOf 56 = .ok (.lor, 1) := by decide +kernel
theorem dMo_madeOf_57 : decode cMo_madeOf 57 = .ok (.goto 4, 3) := by decide +kernel
theorem dMo_madeOf_60 : decode cMo_madeOf 60 = .ok (.lload_n 2, 1) := by decide +kernel
theorem dMo_madeOf_61 : decode cMo_madeOf 61 = .ok (.lstore_n 2, 1) := by decide +kernel
theorem dMo_madeOf_62 : decode cMo_madeOf 62 = .ok (.iload 5, 2) := by decide +kernel
theorem dMo_madeOf_64 : decode cMo_madeOf 64 = .ok (.ifCond .eq 31, 3) := by decide +kernel
theorem dMo_madeOf_67 : decode cMo_madeOf 67 = .ok (.aload_n 0, 1) := by decide +kernel
theorem dMo_madeOf_68 : decode cMo_madeOf 68 = .ok (.aload_n 0, 1) := by decide +kernel
theorem dMo_madeOf_69 : decode cMo_madeOf 69 = .ok (.getfield 17, 3) := by decide +kernel
theorem dMo_madeOf_72 : decode cMo_madeOf 72 = .ok (.iload 4, 2) := by decide +kernel
theorem dMo_madeOf_74 : decode cMo_madeOf 74 = .ok (.iaload, 1) := by decide +kernel
theorem dMo_madeOf_75 : decode cMo_madeOf 75 = .ok (.invokevirtual 74, 3) := by decide +kernel
theorem dMo_madeOf_78 : decode cMo_madeOf 78 = .ok (.ifCond .eq 17, 3) := by decide +kernel
theorem dMo_madeOf_81 : decode cMo_madeOf 81 = .ok (.lload_n 2, 1) := by decide +kernel
theorem dMo_madeOf_82 : decode cMo_madeOf 82 = .ok (.lconst 1, 1) := by decide +kernel
theorem dMo_madeOf_83 : decode cMo_madeOf 83 = .ok (.aload_n 0, 1) := by decide +kernel
theorem dMo_madeOf_84 : decode cMo_madeOf 84 = .ok (.getfield 23, 3) := by decide +kernel
theorem dMo_madeOf_87 : decode cMo_madeOf 87 = .ok (.iload 4, 2) := by decide +kernel
theorem dMo_madeOf_89 : decode cMo_madeOf 89 = .ok (.iaload, 1) := by decide +kernel
theorem dMo_madeOf_90 : decode cMo_madeOf 90 = .ok (.lshl, 1) := by decide +kernel
theorem dMo_madeOf_91 : decode cMo_madeOf 91 = .ok (.lor, 1) := by decide +kernel
theorem dMo_madeOf_92 : decode cMo_madeOf 92 = .ok (.goto 4, 3) := by decide +kernel
theorem dMo_madeOf_95 : decode cMo_madeOf 95 = .ok (.lload_n 2, 1) := by decide +kernel
theorem dMo_madeOf_96 : decode cMo_madeOf 96 = .ok (.lstore_n 2, 1) := by decide +kernel
theorem dMo_madeOf_97 : decode cMo_madeOf 97 = .ok (.iinc 4 (-1), 3) := by decide +kernel
theorem dMo_madeOf_100 : decode cMo_madeOf 100 = .ok (.goto (-93), 3) := by decide +kernel
theorem dMo_madeOf_103 : decode cMo_madeOf 103 = .ok (.lload_n 2, 1) := by decide +kernel
theorem dMo_madeOf_104 : decode cMo_madeOf 104 = .ok (.lreturn, 1) := by decide +kernel
theorem dMo_unfair_0 : decode cMo_unfair 0 = .ok (.aload_n 0, 1) := by decide +kernel
theorem dMo_unfair_1 : decode cMo_unfair 1 = .ok (.iconst 0, 1) := by decide +kernel
theorem dMo_unfair_2 : decode cMo_unfair 2 = .ok (.putfield 51, 3) := by decide +kernel
theorem dMo_unfair_5 : decode cMo_unfair 5 = .ok (.aload_n 0, 1) := by decide +kernel
theorem dMo_unfair_6 : decode cMo_unfair 6 = .ok (.iconst 0, 1) := by decide +kernel
theorem dMo_unfair_7 : decode cMo_unfair 7 = .ok (.putfield 80, 3) := by decide +kernel
theorem dMo_unfair_10 : decode cMo_unfair 10 = .ok (.return_, 1) := by decide +kernel
theorem dMo_states_0 : decode cMo_states 0 = .ok (.aload_n 0, 1) := by decide +kernel
theorem dMo_states_1 : decode cMo_states 1 = .ok (.aload_n 0, 1) := by decide +kernel
theorem dMo_states_2 : decode cMo_states 2 = .ok (.iload_n 1, 1) := by decide +kernel
theorem dMo_states_3 : decode cMo_states 3 = .ok (.invokevirtual 71, 3) := by decide +kernel
theorem dMo_states_6 : decode cMo_states 6 = .ok (.ifCond .eq 7, 3) := by decide +kernel
theorem dMo_states_9 : decode cMo_states 9 = .ok (.iconst 1, 1) := by decide +kernel
theorem dMo_states_10 : decode cMo_states 10 = .ok (.goto 4, 3) := by decide +kernel
theorem dMo_states_13 : decode cMo_states 13 = .ok (.iconst 0, 1) := by decide +kernel
theorem dMo_states_14 : decode cMo_states 14 = .ok (.putfield 51, 3) := by decide +kernel
theorem dMo_states_17 : decode cMo_states 17 = .ok (.aload_n 0, 1) := by decide +kernel
theorem dMo_states_18 : decode cMo_states 18 = .ok (.getfield 51, 3) := by decide +kernel
theorem dMo_states_21 : decode cMo_states 21 = .ok (.ifCond .eq 5, 3) := by decide +kernel
theorem dMo_states_24 : decode cMo_states 24 = .ok (.lconst 0, 1) := by decide +kernel
theorem dMo_states_25 : decode cMo_states 25 = .ok (.lreturn, 1) := by decide +kernel
theorem dMo_states_26 : decode cMo_states 26 = .ok (.aload_n 0, 1) := by decide +kernel
theorem dMo_states_27 : decode cMo_states 27 = .ok (.iload_n 1, 1) := by decide +kernel
theorem dMo_states_28 : decode cMo_states 28 = .ok (.invokevirtual 118, 3) := by decide +kernel
theorem dMo_states_31 : decode cMo_states 31 = .ok (.lstore_n 2, 1) := by decide +kernel
theorem dMo_states_32 : decode cMo_states 32 = .ok (.aload_n 0, 1) := by decide +kernel
theorem dMo_states_33 : decode cMo_states 33 = .ok (.getfield 26, 3) := by decide +kernel
theorem dMo_states_36 : decode cMo_states 36 = .ok (.iload_n 1, 1) := by decide +kernel
theorem dMo_states_37 : decode cMo_states 37 = .ok (.laload, 1) := by decide +kernel
theorem dMo_states_38 : decode cMo_states 38 = .ok (.lreturn, 1) := by decide +kernel
