/-! decode rows, by a program of mine. -/
theorem dMo_before_0 : decode cMo_before 0 = .ok (.lconst 0, 1) := by decide +kernel
theorem dMo_before_1 : decode cMo_before 1 = .ok (.lstore_n 3, 1) := by decide +kernel
theorem dMo_before_2 : decode cMo_before 2 = .ok (.iconst 0, 1) := by decide +kernel
theorem dMo_before_3 : decode cMo_before 3 = .ok (.istore 5, 2) := by decide +kernel
theorem dMo_before_5 : decode cMo_before 5 = .ok (.iload 5, 2) := by decide +kernel
theorem dMo_before_7 : decode cMo_before 7 = .ok (.bipush 64, 2) := by decide +kernel
theorem dMo_before_9 : decode cMo_before 9 = .ok (.if_icmp .ge 34, 3) := by decide +kernel
theorem dMo_before_12 : decode cMo_before 12 = .ok (.aload_n 0, 1) := by decide +kernel
theorem dMo_before_13 : decode cMo_before 13 = .ok (.getfield 13, 3) := by decide +kernel
theorem dMo_before_16 : decode cMo_before 16 = .ok (.iload 5, 2) := by decide +kernel
theorem dMo_before_18 : decode cMo_before 18 = .ok (.laload, 1) := by decide +kernel
theorem dMo_before_19 : decode cMo_before 19 = .ok (.lload_n 1, 1) := by decide +kernel
theorem dMo_before_20 : decode cMo_before 20 = .ok (.land, 1) := by decide +kernel
theorem dMo_before_21 : decode cMo_before 21 = .ok (.lconst 0, 1) := by decide +kernel
theorem dMo_before_22 : decode cMo_before 22 = .ok (.lcmp, 1) := by decide +kernel
theorem dMo_before_23 : decode cMo_before 23 = .ok (.ifCond .eq 12, 3) := by decide +kernel
theorem dMo_before_26 : decode cMo_before 26 = .ok (.lload_n 3, 1) := by decide +kernel
theorem dMo_before_27 : decode cMo_before 27 = .ok (.lconst 1, 1) := by decide +kernel
theorem dMo_before_28 : decode cMo_before 28 = .ok (.iload 5, 2) := by decide +kernel
theorem dMo_before_30 : decode cMo_before 30 = .ok (.lshl, 1) := by decide +kernel
theorem dMo_before_31 : decode cMo_before 31 = .ok (.lor, 1) := by decide +kernel
theorem dMo_before_32 : decode cMo_before 32 = .ok (.goto 4, 3) := by decide +kernel
theorem dMo_before_35 : decode cMo_before 35 = .ok (.lload_n 3, 1) := by decide +kernel
theorem dMo_before_36 : decode cMo_before 36 = .ok (.lstore_n 3, 1) := by decide +kernel
theorem dMo_before_37 : decode cMo_before 37 = .ok (.iinc 5 1, 3) := by decide +kernel
theorem dMo_before_40 : decode cMo_before 40 = .ok (.goto (-35), 3) := by decide +kernel
theorem dMo_before_43 : decode cMo_before 43 = .ok (.lload_n 3, 1) := by decide +kernel
theorem dMo_before_44 : decode cMo_before 44 = .ok (.lreturn, 1) := by decide +kernel
theorem dMo_some_0 : decode cMo_some 0 = .ok (.iload_n 1, 1) := by decide +kernel
theorem dMo_some_1 : decode cMo_some 1 = .ok (.tableswitch 53 5 7 #[27, 36, 47], 27) := by decide +kernel
theorem dMo_some_28 : decode cMo_some 28 = .ok (.aload_n 0, 1) := by decide +kernel
theorem dMo_some_29 : decode cMo_some 29 = .ok (.lload_n 2, 1) := by decide +kernel
theorem dMo_some_30 : decode cMo_some 30 = .ok (.lload 6, 2) := by decide +kernel
theorem dMo_some_32 : decode cMo_some 32 = .ok (.land, 1) := by decide +kernel
theorem dMo_some_33 : decode cMo_some 33 = .ok (.invokevirtual 83, 3) := by decide +kernel
theorem dMo_some_36 : decode cMo_some 36 = .ok (.lreturn, 1) := by decide +kernel
theorem dMo_some_37 : decode cMo_some 37 = .ok (.aload_n 0, 1) := by decide +kernel
theorem dMo_some_38 : decode cMo_some 38 = .ok (.lload 4, 2) := by decide +kernel
theorem dMo_some_40 : decode cMo_some 40 = .ok (.lload 6, 2) := by decide +kernel
theorem dMo_some_42 : decode cMo_some 42 = .ok (.land, 1) := by decide +kernel
theorem dMo_some_43 : decode cMo_some 43 = .ok (.lload_n 2, 1) := by decide +kernel
theorem dMo_some_44 : decode cMo_some 44 = .ok (.invokevirtual 98, 3) := by decide +kernel
theorem dMo_some_47 : decode cMo_some 47 = .ok (.lreturn, 1) := by decide +kernel
theorem dMo_some_48 : decode cMo_some 48 = .ok (.aload_n 0, 1) := by decide +kernel
theorem dMo_some_49 : decode cMo_some 49 = .ok (.lload_n 2, 1) := by decide +kernel
theorem dMo_some_50 : decode cMo_some 50 = .ok (.invokevirtual 104, 3) := by decide +kernel
theorem dMo_some_53 : decode cMo_some 53 = .ok (.lreturn, 1) := by decide +kernel
theorem dMo_some_54 : decode cMo_some 54 = .ok (.aload_n 0, 1) := by decide +kernel
theorem dMo_some_55 : decode cMo_some 55 = .ok (.lload_n 2, 1) := by decide +kernel
theorem dMo_some_56 : decode cMo_some 56 = .ok (.lload 6, 2) := by decide +kernel
theorem dMo_some_58 : decode cMo_some 58 = .ok (.land, 1) := by decide +kernel
theorem dMo_some_59 : decode cMo_some 59 = .ok (.ldc2_w 102, 3) := by decide +kernel
theorem dMo_some_62 : decode cMo_some 62 = .ok (.invokevirtual 98, 3) := by decide +kernel
theorem dMo_some_65 : decode cMo_some 65 = .ok (.lreturn, 1) := by decide +kernel
theorem dMo_each_0 : decode cMo_each 0 = .ok (.iload_n 1, 1) := by decide +kernel
theorem dMo_each_1 : decode cMo_each 1 = .ok (.tableswitch 106 9 11 #[27, 45, 87], 27) := by decide +kernel
theorem dMo_each_28 : decode cMo_each 28 = .ok (.aload_n 0, 1) := by decide +kernel
theorem dMo_each_29 : decode cMo_each 29 = .ok (.iconst 5, 1) := by decide +kernel
theorem dMo_each_30 : decode cMo_each 30 = .ok (.lload_n 2, 1) := by decide +kernel
theorem dMo_each_31 : decode cMo_each 31 = .ok (.ldc2_w 102, 3) := by decide +kernel
theorem dMo_each_34 : decode cMo_each 34 = .ok (.lxor, 1) := by decide +kernel
theorem dMo_each_35 : decode cMo_each 35 = .ok (.lconst 0, 1) := by decide +kernel
theorem dMo_each_36 : decode cMo_each 36 = .ok (.lload 6, 2) := by decide +kernel
theorem dMo_each_38 : decode cMo_each 38 = .ok (.invokevirtual 107, 3) := by decide +kernel
theorem dMo_each_41 : decode cMo_each 41 = .ok (.ldc2_w 102, 3) := by decide +kernel
theorem dMo_each_44 : decode cMo_each 44 = .ok (.lxor, 1) := by decide +kernel
theorem dMo_each_45 : decode cMo_each 45 = .ok (.lreturn, 1) := by decide +kernel
theorem dMo_each_46 : decode cMo_each 46 = .ok (.aload_n 0, 1) := by decide +kernel
theorem dMo_each_47 : decode cMo_each 47 = .ok (.bipush 6, 2) := by decide +kernel
theorem dMo_each_49 : decode cMo_each 49 = .ok (.lload 4, 2) := by decide +kernel
theorem dMo_each_51 : decode cMo_each 51 = .ok (.ldc2_w 102, 3) := by decide +kernel
theorem dMo_each_54 : decode cMo_each 54 = .ok (.lxor, 1) := by decide +kernel
theorem dMo_each_55 : decode cMo_each 55 = .ok (.lload_n 2, 1) := by decide +kernel
theorem dMo_each_56 : decode cMo_each 56 = .ok (.ldc2_w 102, 3) := by decide +kernel
theorem dMo_each_59 : decode cMo_each 59 = .ok (.lxor, 1) := by decide +kernel
theorem dMo_each_60 : decode cMo_each 60 = .ok (.lload 4, 2) := by decide +kernel
theorem dMo_each_62 : decode cMo_each 62 = .ok (.ldc2_w 102, 3) := by decide +kernel
theorem dMo_each_65 : decode cMo_each 65 = .ok (.lxor, 1) := by decide +kernel
theorem dMo_each_66 : decode cMo_each 66 = .ok (.land, 1) := by decide +kernel
theorem dMo_each_67 : decode cMo_each 67 = .ok (.lload 6, 2) := by decide +kernel
theorem dMo_each_69 : decode cMo_each 69 = .ok (.invokevirtual 107, 3) := by decide +kernel
theorem dMo_each_72 : decode cMo_each 72 = .ok (.aload_n 0, 1) := by decide +kernel
theorem dMo_each_73 : decode cMo_each 73 = .ok (.lload 4, 2) := by decide +kernel
theorem dMo_each_75 : decode cMo_each 75 = .ok (.ldc2_w 102, 3) := by decide +kernel
theorem dMo_each_78 : decode cMo_each 78 = .ok (.lxor, 1) := by decide +kernel
theorem dMo_each_79 : decode cMo_each 79 = .ok (.invokevirtual 104, 3) := by decide +kernel
theorem dMo_each_82 : decode cMo_each 82 = .ok (.lor, 1) := by decide +kernel
theorem dMo_each_83 : decode cMo_each 83 = .ok (.ldc2_w 102, 3) := by decide +kernel
theorem dMo_each_86 : decode cMo_each 86 = .ok (.lxor, 1) := by decide +kernel
theorem dMo_each_87 : decode cMo_each 87 = .ok (.lreturn, 1) := by decide +kernel
theorem dMo_each_88 : decode cMo_each 88 = .ok (.aload_n 0, 1) := by decide +kernel
theorem dMo_each_89 : decode cMo_each 89 = .ok (.bipush 8, 2) := by decide +kernel
theorem dMo_each_91 : decode cMo_each 91 = .ok (.lload_n 2, 1) := by decide +kernel
theorem dMo_each_92 : decode cMo_each 92 = .ok (.ldc2_w 102, 3) := by decide +kernel
theorem dMo_each_95 : decode cMo_each 95 = .ok (.lxor, 1) := by decide +kernel
theorem dMo_each_96 : decode cMo_each 96 = .ok (.lconst 0, 1) := by decide +kernel
theorem dMo_each_97 : decode cMo_each 97 = .ok (.lload 6, 2) := by decide +kernel
theorem dMo_each_99 : decode cMo_each 99 = .ok (.invokevirtual 107, 3) := by decide +kernel
theorem dMo_each_102 : decode cMo_each 102 = .ok (.ldc2_w 102, 3) := by decide +kernel
theorem dMo_each_105 : decode cMo_each 105 = .ok (.lxor, 1) := by decide +kernel
theorem dMo_each_106 : decode cMo_each 106 = .ok (.lreturn, 1) := by decide +kernel
theorem dMo_each_107 : decode cMo_each 107 = .ok (.aload_n 0, 1) := by decide +kernel
theorem dMo_each_108 : decode cMo_each 108 = .ok (.lload_n 2, 1) := by decide +kernel
theorem dMo_each_109 : decode cMo_each 109 = .ok (.ldc2_w 102, 3) := by decide +kernel
theorem dMo_each_112 : decode cMo_each 112 = .ok (.lxor, 1) := by decide +kernel
theorem dMo_each_113 : decode cMo_each 113 = .ok (.invokevirtual 104, 3) := by decide +kernel
theorem dMo_each_116 : decode cMo_each 116 = .ok (.ldc2_w 102, 3) := by decide +kernel
theorem dMo_each_119 : decode cMo_each 119 = .ok (.lxor, 1) := by decide +kernel
theorem dMo_each_120 : decode cMo_each 120 = .ok (.lreturn, 1) := by decide +kernel
theorem dMo_begins_0 : decode cMo_begins 0 = .ok (.aload_n 0, 1) := by decide +kernel
theorem dMo_begins_1 : decode cMo_begins 1 = .ok (.iconst 0, 1) := by decide +kernel
theorem dMo_begins_2 : decode cMo_begins 2 = .ok (.putfield 51, 3) := by decide +kernel
theorem dMo_begins_5 : decode cMo_begins 5 = .ok (.aload_n 0, 1) := by decide +kernel
theorem dMo_begins_6 : decode cMo_begins 6 = .ok (.iconst (-1), 1) := by decide +kernel
theorem dMo_begins_7 : decode cMo_begins 7 = .ok (.invokevirtual 118, 3) := by decide +kernel
theorem dMo_begins_10 : decode cMo_begins 10 = .ok (.lreturn, 1) := by decide +kernel
theorem dMo_show_0 : decode cMo_show 0 = .ok (.aload_n 0, 1) := by decide +kernel
theorem dMo_show_1 : decode cMo_show 1 = .ok (.aload_n 0, 1) := by decide +kernel
theorem dMo_show_2 : decode cMo_show 2 = .ok (.iload_n 1, 1) := by decide +kernel
theorem dMo_show_3 : decode cMo_show 3 = .ok (.invokevirtual 71, 3) := by decide +kernel
theorem dMo_show_6 : decode cMo_show 6 = .ok (.ifCond .ne 11, 3) := by decide +kernel
theorem dMo_show_9 : decode cMo_show 9 = .ok (.aload_n 0, 1) := by decide +kernel
theorem dMo_show_10 : decode cMo_show 10 = .ok (.iload_n 2, 1) := by decide +kernel
theorem dMo_show_11 : decode cMo_show 11 = .ok (.invokevirtual 61, 3) := by decide +kernel
theorem dMo_show_14 : decode cMo_show 14 = .ok (.ifCond .eq 7, 3) := by decide +kernel
theorem dMo_show_17 : decode cMo_show 17 = .ok (.iconst 1, 1) := by decide +kernel
theorem dMo_show_18 : decode cMo_show 18 = .ok (.goto 4, 3) := by decide +kernel
theorem dMo_show_21 : decode cMo_show 21 = .ok (.iconst 0, 1) := by decide +kernel
theorem dMo_show_22 : decode cMo_show 22 = .ok (.putfield 51, 3) := by decide +kernel
theorem dMo_show_25 : decode cMo_show 25 = .ok (.aload_n 0, 1) := by decide +kernel
theorem dMo_show_26 : decode cMo_show 26 = .ok (.iconst 0, 1) := by decide +kernel
theorem dMo_show_27 : decode cMo_show 27 = .ok (.putfield 121, 3) := by decide +kernel
theorem dMo_show_30 : decode cMo_show 30 = .ok (.aload_n 0, 1) := by decide +kernel
theorem dMo_show_31 : decode cMo_show 31 = .ok (.iconst (-1), 1) := by decide +kernel
theorem dMo_show_32 : decode cMo_show 32 = .ok (.putfield 41, 3) := by decide +kernel
theorem dMo_show_35 : decode cMo_show 35 = .ok (.aload_n 0, 1) := by decide +kernel
theorem dMo_show_36 : decode cMo_show 36 = .ok (.getfield 51, 3) := by decide +kernel
theorem dMo_show_39 : decode cMo_show 39 = .ok (.ifCond .eq 5, 3) := by decide +kernel
theorem dMo_show_42 : decode cMo_show 42 = .ok (.iconst 0, 1) := by decide +kernel
theorem dMo_show_43 : decode cMo_show 43 = .ok (.ireturn, 1) := by decide +kernel
theorem dMo_show_44 : decode cMo_show 44 = .ok (.aload_n 0, 1) := by decide +kernel
theorem dMo_show_45 : decode cMo_show 45 = .ok (.iload_n 1, 1) := by decide +kernel
theorem dMo_show_46 : decode cMo_show 46 = .ok (.invokevirtual 118, 3) := by decide +kernel
theorem dMo_show_49 : decode cMo_show 49 = .ok (.lstore_n 3, 1) := by decide +kernel
theorem dMo_show_50 : decode cMo_show 50 = .ok (.aload_n 0, 1) := by decide +kernel
theorem dMo_show_51 : decode cMo_show 51 = .ok (.getfield 17, 3) := by decide +kernel
theorem dMo_show_54 : decode cMo_show 54 = .ok (.iload_n 1, 1) := by decide +kernel
theorem dMo_show_55 : decode cMo_show 55 = .ok (.iaload, 1) := by decide +kernel
theorem dMo_show_56 : decode cMo_show 56 = .ok (.istore 5, 2) := by decide +kernel
theorem dMo_show_58 : decode cMo_show 58 = .ok (.aload_n 0, 1) := by decide +kernel
theorem dMo_show_59 : decode cMo_show 59 = .ok (.aload_n 0, 1) := by decide +kernel
theorem dMo_show_60 : decode cMo_show 60 = .ok (.getfield 26, 3) := by decide +kernel
theorem dMo_show_63 : decode cMo_show 63 = .ok (.iload_n 1, 1) := by decide +kernel
theorem dMo_show_64 : decode cMo_show 64 = .ok (.laload, 1) := by decide +kernel
theorem dMo_show_65 : decode cMo_show 65 = .ok (.iload_n 2, 1) := by decide +kernel
theorem dMo_show_66 : decode cMo_show 66 = .ok (.invokevirtual 87, 3) := by decide +kernel
theorem dMo_show_69 : decode cMo_show 69 = .ok (.istore 6, 2) := by decide +kernel
theorem dMo_show_71 : decode cMo_show 71 = .ok (.aload_n 0, 1) := by decide +kernel
theorem dMo_show_72 : decode cMo_show 72 = .ok (.iload 5, 2) := by decide +kernel
theorem dMo_show_74 : decode cMo_show 74 = .ok (.iconst 4, 1) := by decide +kernel
theorem dMo_show_75 : decode cMo_show 75 = .ok (.if_icmp .le 20, 3) := by decide +kernel
theorem dMo_show_78 : decode cMo_show 78 = .ok (.iload 5, 2) := by decide +kernel
theorem dMo_show_80 : decode cMo_show 80 = .ok (.bipush 9, 2) := by decide +kernel
theorem dMo_show_82 : decode cMo_show 82 = .ok (.if_icmp .ge 7, 3) := by decide +kernel
theorem dMo_show_85 : decode cMo_show 85 = .ok (.iconst 1, 1) := by decide +kernel
theorem dMo_show_86 : decode cMo_show 86 = .ok (.goto 4, 3) := by decide +kernel
theorem dMo_show_89 : decode cMo_show 89 = .ok (.iconst 0, 1) := by decide +kernel
theorem dMo_show_90 : decode cMo_show 90 = .ok (.iload 6, 2) := by decide +kernel
theorem dMo_show_92 : decode cMo_show 92 = .ok (.if_icmp .eq 7, 3) := by decide +kernel
theorem dMo_show_95 : decode cMo_show 95 = .ok (.iconst 2, 1) := by decide +kernel
theorem dMo_show_96 : decode cMo_show 96 = .ok (.goto 4, 3) := by decide +kernel
theorem dMo_show_99 : decode cMo_show 99 = .ok (.iconst 0, 1) := by decide +kernel
theorem dMo_show_100 : decode cMo_show 100 = .ok (.putfield 51, 3) := by decide +kernel
theorem dMo_show_103 : decode cMo_show 103 = .ok (.aload_n 0, 1) := by decide +kernel
theorem dMo_show_104 : decode cMo_show 104 = .ok (.getfield 51, 3) := by decide +kernel
theorem dMo_show_107 : decode cMo_show 107 = .ok (.ifCond .eq 5, 3) := by decide +kernel
theorem dMo_show_110 : decode cMo_show 110 = .ok (.iconst 0, 1) := by decide +kernel
theorem dMo_show_111 : decode cMo_show 111 = .ok (.ireturn, 1) := by decide +kernel
theorem dMo_show_112 : decode cMo_show 112 = .ok (.aload_n 0, 1) := by decide +kernel
theorem dMo_show_113 : decode cMo_show 113 = .ok (.getfield 26, 3) := by decide +kernel
theorem dMo_show_116 : decode cMo_show 116 = .ok (.aload_n 0, 1) := by decide +kernel
theorem dMo_show_117 : decode cMo_show 117 = .ok (.getfield 20, 3) := by decide +kernel
theorem dMo_show_120 : decode cMo_show 120 = .ok (.iload_n 1, 1) := by decide +kernel
theorem dMo_show_121 : decode cMo_show 121 = .ok (.iaload, 1) := by decide +kernel
theorem dMo_show_122 : decode cMo_show 122 = .ok (.laload, 1) := by decide +kernel
theorem dMo_show_123 : decode cMo_show 123 = .ok (.lstore 7, 2) := by decide +kernel
theorem dMo_show_125 : decode cMo_show 125 = .ok (.aload_n 0, 1) := by decide +kernel
theorem dMo_show_126 : decode cMo_show 126 = .ok (.iload 5, 2) := by decide +kernel
theorem dMo_show_128 : decode cMo_show 128 = .ok (.invokevirtual 74, 3) := by decide +kernel
theorem dMo_show_131 : decode cMo_show 131 = .ok (.ifCond .eq 17, 3) := by decide +kernel
theorem dMo_show_134 : decode cMo_show 134 = .ok (.aload_n 0, 1) := by decide +kernel
theorem dMo_show_135 : decode cMo_show 135 = .ok (.getfield 26, 3) := by decide +kernel
theorem dMo_show_138 : decode cMo_show 138 = .ok (.aload_n 0, 1) := by decide +kernel
theorem dMo_show_139 : decode cMo_show 139 = .ok (.getfield 23, 3) := by decide +kernel
theorem dMo_show_142 : decode cMo_show 142 = .ok (.iload_n 1, 1) := by decide +kernel
theorem dMo_show_143 : decode cMo_show 143 = .ok (.iaload, 1) := by decide +kernel
theorem dMo_show_144 : decode cMo_show 144 = .ok (.laload, 1) := by decide +kernel
theorem dMo_show_145 : decode cMo_show 145 = .ok (.goto 4, 3) := by decide +kernel
theorem dMo_show_148 : decode cMo_show 148 = .ok (.lconst 0, 1) := by decide +kernel
theorem dMo_show_149 : decode cMo_show 149 = .ok (.lstore 9, 2) := by decide +kernel
theorem dMo_show_151 : decode cMo_show 151 = .ok (.iload 5, 2) := by decide +kernel
theorem dMo_show_153 : decode cMo_show 153 = .ok (.bipush 9, 2) := by decide +kernel
theorem dMo_show_155 : decode cMo_show 155 = .ok (.if_icmp .ge 18, 3) := by decide +kernel
theorem dMo_show_158 : decode cMo_show 158 = .ok (.aload_n 0, 1) := by decide +kernel
theorem dMo_show_159 : decode cMo_show 159 = .ok (.iload 5, 2) := by decide +kernel
theorem dMo_show_161 : decode cMo_show 161 = .ok (.lload 7, 2) := by decide +kernel
theorem dMo_show_163 : decode cMo_show 163 = .ok (.lload 9, 2) := by decide +kernel
theorem dMo_show_165 : decode cMo_show 165 = .ok (.iload_n 2, 1) := by decide +kernel
theorem dMo_show_166 : decode cMo_show 166 = .ok (.lload_n 3, 1) := by decide +kernel
theorem dMo_show_167 : decode cMo_show 167 = .ok (.invokevirtual 144, 3) := by decide +kernel
theorem dMo_show_170 : decode cMo_show 170 = .ok (.goto 121, 3) := by decide +kernel
theorem dMo_show_173 : decode cMo_show 173 = .ok (.iload 5, 2) := by decide +kernel
theorem dMo_show_175 : decode cMo_show 175 = .ok (.bipush 10, 2) := by decide +kernel
theorem dMo_show_177 : decode cMo_show 177 = .ok (.if_icmp .eq 44, 3) := by decide +kernel
theorem dMo_show_180 : decode cMo_show 180 = .ok (.aload_n 0, 1) := by decide +kernel
theorem dMo_show_181 : decode cMo_show 181 = .ok (.iload 5, 2) := by decide +kernel
theorem dMo_show_183 : decode cMo_show 183 = .ok (.bipush 9, 2) := by decide +kernel
theorem dMo_show_185 : decode cMo_show 185 = .ok (.if_icmp .ne 7, 3) := by decide +kernel
theorem dMo_show_188 : decode cMo_show 188 = .ok (.iconst 5, 1) := by decide +kernel
theorem dMo_show_189 : decode cMo_show 189 = .ok (.goto 17, 3) := by decide +kernel
theorem dMo_show_192 : decode cMo_show 192 = .ok (.iload 5, 2) := by decide +kernel
theorem dMo_show_194 : decode cMo_show 194 = .ok (.bipush 11, 2) := by decide +kernel
theorem dMo_show_196 : decode cMo_show 196 = .ok (.if_icmp .ne 8, 3) := by decide +kernel
theorem dMo_show_199 : decode cMo_show 199 = .ok (.bipush 8, 2) := by decide +kernel
theorem dMo_show_201 : decode cMo_show 201 = .ok (.goto 5, 3) := by decide +kernel
theorem dMo_show_204 : decode cMo_show 204 = .ok (.bipush 7, 2) := by decide +kernel
theorem dMo_show_206 : decode cMo_show 206 = .ok (.lload 7, 2) := by decide +kernel
theorem dMo_show_208 : decode cMo_show 208 = .ok (.ldc2_w 102, 3) := by decide +kernel
theorem dMo_show_211 : decode cMo_show 211 = .ok (.lxor, 1) := by decide +kernel
theorem dMo_show_212 : decode cMo_show 212 = .ok (.lconst 0, 1) := by decide +kernel
theorem dMo_show_213 : decode cMo_show 213 = .ok (.iload_n 2, 1) := by decide +kernel
theorem dMo_show_214 : decode cMo_show 214 = .ok (.lload_n 3, 1) := by decide +kernel
theorem dMo_show_215 : decode cMo_show 215 = .ok (.invokevirtual 144, 3) := by decide +kernel
theorem dMo_show_218 : decode cMo_show 218 = .ok (.goto 73, 3) := by decide +kernel
theorem dMo_show_221 : decode cMo_show 221 = .ok (.aload_n 0, 1) := by decide +kernel
theorem dMo_show_222 : decode cMo_show 222 = .ok (.aload_n 0, 1) := by decide +kernel
theorem dMo_show_223 : decode cMo_show 223 = .ok (.bipush 6, 2) := by decide +kernel
theorem dMo_show_225 : decode cMo_show 225 = .ok (.lload 9, 2) := by decide +kernel
theorem dMo_show_227 : decode cMo_show 227 = .ok (.ldc2_w 102, 3) := by decide +kernel
theorem dMo_show_230 : decode cMo_show 230 = .ok (.lxor, 1) := by decide +kernel
theorem dMo_show_231 : decode cMo_show 231 = .ok (.lload 7, 2) := by decide +kernel
theorem dMo_show_233 : decode cMo_show 233 = .ok (.ldc2_w 102, 3) := by decide +kernel
theorem dMo_show_236 : decode cMo_show 236 = .ok (.lxor, 1) := by decide +kernel
theorem dMo_show_237 : decode cMo_show 237 = .ok (.lload 9, 2) := by decide +kernel
theorem dMo_show_239 : decode cMo_show 239 = .ok (.ldc2_w 102, 3) := by decide +kernel
theorem dMo_show_242 : decode cMo_show 242 = .ok (.lxor, 1) := by decide +kernel
theorem dMo_show_243 : decode cMo_show 243 = .ok (.land, 1) := by decide +kernel
theorem dMo_show_244 : decode cMo_show 244 = .ok (.lload_n 3, 1) := by decide +kernel
theorem dMo_show_245 : decode cMo_show 245 = .ok (.invokevirtual 107, 3) := by decide +kernel
theorem dMo_show_248 : decode cMo_show 248 = .ok (.iload_n 2, 1) := by decide +kernel
theorem dMo_show_249 : decode cMo_show 249 = .ok (.invokevirtual 87, 3) := by decide +kernel
theorem dMo_show_252 : decode cMo_show 252 = .ok (.istore 11, 2) := by decide +kernel
theorem dMo_show_254 : decode cMo_show 254 = .ok (.aload_n 0, 1) := by decide +kernel
theorem dMo_show_255 : decode cMo_show 255 = .ok (.iload 11, 2) := by decide +kernel
theorem dMo_show_257 : decode cMo_show 257 = .ok (.ifCond .eq 8, 3) := by decide +kernel
theorem dMo_show_260 : decode cMo_show 260 = .ok (.bipush 6, 2) := by decide +kernel
theorem dMo_show_262 : decode cMo_show 262 = .ok (.goto 5, 3) := by decide +kernel
theorem dMo_show_265 : decode cMo_show 265 = .ok (.bipush 7, 2) := by decide +kernel
theorem dMo_show_267 : decode cMo_show 267 = .ok (.lload 9, 2) := by decide +kernel
theorem dMo_show_269 : decode cMo_show 269 = .ok (.ldc2_w 102, 3) := by decide +kernel
theorem dMo_show_272 : decode cMo_show 272 = .ok (.lxor, 1) := by decide +kernel
theorem dMo_show_273 : decode cMo_show 273 = .ok (.lload 7, 2) := by decide +kernel
theorem dMo_show_275 : decode cMo_show 275 = .ok (.ldc2_w 102, 3) := by decide +kernel
theorem dMo_show_278 : decode cMo_show 278 = .ok (.lxor, 1) := by decide +kernel
theorem dMo_show_279 : decode cMo_show 279 = .ok (.lload 9, 2) := by decide +kernel
theorem dMo_show_281 : decode cMo_show 281 = .ok (.ldc2_w 102, 3) := by decide +kernel
theorem dMo_show_284 : decode cMo_show 284 = .ok (.lxor, 1) := by decide +kernel
theorem dMo_show_285 : decode cMo_show 285 = .ok (.land, 1) := by decide +kernel
theorem dMo_show_286 : decode cMo_show 286 = .ok (.iload_n 2, 1) := by decide +kernel
theorem dMo_show_287 : decode cMo_show 287 = .ok (.lload_n 3, 1) := by decide +kernel
theorem dMo_show_288 : decode cMo_show 288 = .ok (.invokevirtual 144, 3) := by decide +kernel
theorem dMo_show_291 : decode cMo_show 291 = .ok (.aload_n 0, 1) := by decide +kernel
theorem dMo_show_292 : decode cMo_show 292 = .ok (.dup, 1) := by decide +kernel
theorem dMo_show_293 : decode cMo_show 293 = .ok (.getfield 121, 3) := by decide +kernel
theorem dMo_show_296 : decode cMo_show 296 = .ok (.iconst 1, 1) := by decide +kernel
theorem dMo_show_297 : decode cMo_show 297 = .ok (.isub, 1) := by decide +kernel
theorem dMo_show_298 : decode cMo_show 298 = .ok (.putfield 121, 3) := by decide +kernel
theorem dMo_show_301 : decode cMo_show 301 = .ok (.aload_n 0, 1) := by decide +kernel
theorem dMo_show_302 : decode cMo_show 302 = .ok (.getfield 124, 3) := by decide +kernel
theorem dMo_show_305 : decode cMo_show 305 = .ok (.ifCond .ne 13, 3) := by decide +kernel
theorem dMo_show_308 : decode cMo_show 308 = .ok (.aload_n 0, 1) := by decide +kernel
theorem dMo_show_309 : decode cMo_show 309 = .ok (.getfield 121, 3) := by decide +kernel
theorem dMo_show_312 : decode cMo_show 312 = .ok (.sipush 250, 3) := by decide +kernel
theorem dMo_show_315 : decode cMo_show 315 = .ok (.if_icmp .le 20, 3) := by decide +kernel
theorem dMo_show_318 : decode cMo_show 318 = .ok (.aload_n 0, 1) := by decide +kernel
theorem dMo_show_319 : decode cMo_show 319 = .ok (.iconst 3, 1) := by decide +kernel
theorem dMo_show_320 : decode cMo_show 320 = .ok (.putfield 51, 3) := by decide +kernel
theorem dMo_show_323 : decode cMo_show 323 = .ok (.aload_n 0, 1) := by decide +kernel
theorem dMo_show_324 : decode cMo_show 324 = .ok (.iconst 0, 1) := by decide +kernel
theorem dMo_show_325 : decode cMo_show 325 = .ok (.putfield 121, 3) := by decide +kernel
theorem dMo_show_328 : decode cMo_show 328 = .ok (.aload_n 0, 1) := by decide +kernel
theorem dMo_show_329 : decode cMo_show 329 = .ok (.iconst (-1), 1) := by decide +kernel
theorem dMo_show_330 : decode cMo_show 330 = .ok (.putfield 41, 3) := by decide +kernel
theorem dMo_show_333 : decode cMo_show 333 = .ok (.iconst 0, 1) := by decide +kernel
theorem dMo_show_334 : decode cMo_show 334 = .ok (.ireturn, 1) := by decide +kernel
theorem dMo_show_335 : decode cMo_show 335 = .ok (.aload_n 0, 1) := by decide +kernel
theorem dMo_show_336 : decode cMo_show 336 = .ok (.getfield 121, 3) := by decide +kernel
theorem dMo_show_339 : decode cMo_show 339 = .ok (.ireturn, 1) := by decide +kernel
theorem dMo_goBy_0 : decode cMo_goBy 0 = .ok (.aload_n 0, 1) := by decide +kernel
theorem dMo_goBy_1 : decode cMo_goBy 1 = .ok (.iconst 0, 1) := by decide +kernel
theorem dMo_goBy_2 : decode cMo_goBy 2 = .ok (.putfield 121, 3) := by decide +kernel
theorem dMo_goBy_5 : decode cMo_goBy 5 = .ok (.aload_n 0, 1) := by decide +kernel
theorem dMo_goBy_6 : decode cMo_goBy 6 = .ok (.iconst 0, 1) := by decide +kernel
theorem dMo_goBy_7 : decode cMo_goBy 7 = .ok (.putfield 124, 3) := by decide +kernel
theorem dMo_goBy_10 : decode cMo_goBy 10 = .ok (.aload_n 0, 1) := by decide +kernel
theorem dMo_goBy_11 : decode cMo_goBy 11 = .ok (.iload 6, 2) := by decide +kernel
theorem dMo_goBy_13 : decode cMo_goBy 13 = .ok (.invokevirtual 132, 3) := by decide +kernel
theorem dMo_goBy_16 : decode cMo_goBy 16 = .ok (.iload_n 1, 1) := by decide +kernel
theorem dMo_goBy_17 : decode cMo_goBy 17 = .ok (.bipush 7, 2) := by decide +kernel
theorem dMo_goBy_19 : decode cMo_goBy 19 = .ok (.if_icmp .ne 15, 3) := by decide +kernel
theorem dMo_goBy_22 : decode cMo_goBy 22 = .ok (.aload_n 0, 1) := by decide +kernel
theorem dMo_goBy_23 : decode cMo_goBy 23 = .ok (.iload 6, 2) := by decide +kernel
theorem dMo_goBy_25 : decode cMo_goBy 25 = .ok (.aload_n 0, 1) := by decide +kernel
theorem dMo_goBy_26 : decode cMo_goBy 26 = .ok (.lload_n 2, 1) := by decide +kernel
theorem dMo_goBy_27 : decode cMo_goBy 27 = .ok (.invokevirtual 104, 3) := by decide +kernel
theorem dMo_goBy_30 : decode cMo_goBy 30 = .ok (.invokevirtual 140, 3) := by decide +kernel
theorem dMo_goBy_33 : decode cMo_goBy 33 = .ok (.return_, 1) := by decide +kernel
theorem dMo_goBy_34 : decode cMo_goBy 34 = .ok (.iload 6, 2) := by decide +kernel
theorem dMo_goBy_36 : decode cMo_goBy 36 = .ok (.istore 9, 2) := by decide +kernel
theorem dMo_goBy_38 : decode cMo_goBy 38 = .ok (.iload_n 1, 1) := by decide +kernel
theorem dMo_goBy_39 : decode cMo_goBy 39 = .ok (.iconst 5, 1) := by decide +kernel
theorem dMo_goBy_40 : decode cMo_goBy 40 = .ok (.if_icmp .ne 30, 3) := by decide +kernel
theorem dMo_goBy_43 : decode cMo_goBy 43 = .ok (.aload_n 0, 1) := by decide +kernel
theorem dMo_goBy_44 : decode cMo_goBy 44 = .ok (.aload_n 0, 1) := by decide +kernel
theorem dMo_goBy_45 : decode cMo_goBy 45 = .ok (.getfield 13, 3) := by decide +kernel
theorem dMo_goBy_48 : decode cMo_goBy 48 = .ok (.iload 6, 2) := by decide +kernel
theorem dMo_goBy_50 : decode cMo_goBy 50 = .ok (.laload, 1) := by decide +kernel
theorem dMo_goBy_51 : decode cMo_goBy 51 = .ok (.lload_n 2, 1) := by decide +kernel
theorem dMo_goBy_52 : decode cMo_goBy 52 = .ok (.land, 1) := by decide +kernel
theorem dMo_goBy_53 : decode cMo_goBy 53 = .ok (.lload 7, 2) := by decide +kernel
theorem dMo_goBy_55 : decode cMo_goBy 55 = .ok (.land, 1) := by decide +kernel
theorem dMo_goBy_56 : decode cMo_goBy 56 = .ok (.invokevirtual 128, 3) := by decide +kernel
theorem dMo_goBy_59 : decode cMo_goBy 59 = .ok (.istore 9, 2) := by decide +kernel
theorem dMo_goBy_61 : decode cMo_goBy 61 = .ok (.aload_n 0, 1) := by decide +kernel
theorem dMo_goBy_62 : decode cMo_goBy 62 = .ok (.iload 9, 2) := by decide +kernel
theorem dMo_goBy_64 : decode cMo_goBy 64 = .ok (.invokevirtual 132, 3) := by decide +kernel
theorem dMo_goBy_67 : decode cMo_goBy 67 = .ok (.goto 52, 3) := by decide +kernel
theorem dMo_goBy_70 : decode cMo_goBy 70 = .ok (.iload_n 1, 1) := by decide +kernel
theorem dMo_goBy_71 : decode cMo_goBy 71 = .ok (.bipush 6, 2) := by decide +kernel
theorem dMo_goBy_73 : decode cMo_goBy 73 = .ok (.if_icmp .ne 11, 3) := by decide +kernel
theorem dMo_goBy_76 : decode cMo_goBy 76 = .ok (.lload 4, 2) := by decide +kernel
theorem dMo_goBy_78 : decode cMo_goBy 78 = .ok (.lload 7, 2) := by decide +kernel
theorem dMo_goBy_80 : decode cMo_goBy 80 = .ok (.land, 1) := by decide +kernel
theorem dMo_goBy_81 : decode cMo_goBy 81 = .ok (.goto 7, 3) := by decide +kernel
theorem dMo_goBy_84 : decode cMo_goBy 84 = .ok (.lload_n 2, 1) := by decide +kernel
theorem dMo_goBy_85 : decode cMo_goBy 85 = .ok (.lload 7, 2) := by decide +kernel
theorem dMo_goBy_87 : decode cMo_goBy 87 = .ok (.land, 1) := by decide +kernel
theorem dMo_goBy_88 : decode cMo_goBy 88 = .ok (.lstore 10, 2) := by decide +kernel
theorem dMo_goBy_90 : decode cMo_goBy 90 = .ok (.aload_n 0, 1) := by decide +kernel
theorem dMo_goBy_91 : decode cMo_goBy 91 = .ok (.iload 6, 2) := by decide +kernel
theorem dMo_goBy_93 : decode cMo_goBy 93 = .ok (.lload 10, 2) := by decide +kernel
theorem dMo_goBy_95 : decode cMo_goBy 95 = .ok (.aload_n 0, 1) := by decide +kernel
theorem dMo_goBy_96 : decode cMo_goBy 96 = .ok (.lload 10, 2) := by decide +kernel
theorem dMo_goBy_98 : decode cMo_goBy 98 = .ok (.iload_n 1, 1) := by decide +kernel
theorem dMo_goBy_99 : decode cMo_goBy 99 = .ok (.bipush 6, 2) := by decide +kernel
theorem dMo_goBy_101 : decode cMo_goBy 101 = .ok (.if_icmp .ne 7, 3) := by decide +kernel
theorem dMo_goBy_104 : decode cMo_goBy 104 = .ok (.lload_n 2, 1) := by decide +kernel
theorem dMo_goBy_105 : decode cMo_goBy 105 = .ok (.goto 6, 3) := by decide +kernel
theorem dMo_goBy_108 : decode cMo_goBy 108 = .ok (.ldc2_w 102, 3) := by decide +kernel
theorem dMo_goBy_111 : decode cMo_goBy 111 = .ok (.invokevirtual 98, 3) := by decide +kernel
theorem dMo_goBy_114 : decode cMo_goBy 114 = .ok (.invokevirtual 136, 3) := by decide +kernel
theorem dMo_goBy_117 : decode cMo_goBy 117 = .ok (.istore 9, 2) := by decide +kernel
theorem dMo_goBy_119 : decode cMo_goBy 119 = .ok (.aload_n 0, 1) := by decide +kernel
theorem dMo_goBy_120 : decode cMo_goBy 120 = .ok (.iload 9, 2) := by decide +kernel
theorem dMo_goBy_122 : decode cMo_goBy 122 = .ok (.lload 7, 2) := by decide +kernel
theorem dMo_goBy_124 : decode cMo_goBy 124 = .ok (.invokevirtual 140, 3) := by decide +kernel
theorem dMo_goBy_127 : decode cMo_goBy 127 = .ok (.return_, 1) := by decide +kernel
theorem dMo_put_0 : decode cMo_put 0 = .ok (.aload_n 0, 1) := by decide +kernel
theorem dMo_put_1 : decode cMo_put 1 = .ok (.getfield 121, 3) := by decide +kernel
theorem dMo_put_4 : decode cMo_put 4 = .ok (.sipush 250, 3) := by decide +kernel
theorem dMo_put_7 : decode cMo_put 7 = .ok (.if_icmp .le 11, 3) := by decide +kernel
theorem dMo_put_10 : decode cMo_put 10 = .ok (.aload_n 0, 1) := by decide +kernel
theorem dMo_put_11 : decode cMo_put 11 = .ok (.iconst 1, 1) := by decide +kernel
theorem dMo_put_12 : decode cMo_put 12 = .ok (.putfield 124, 3) := by decide +kernel
theorem dMo_put_15 : decode cMo_put 15 = .ok (.goto 23, 3) := by decide +kernel
theorem dMo_put_18 : decode cMo_put 18 = .ok (.aload_n 0, 1) := by decide +kernel
theorem dMo_put_19 : decode cMo_put 19 = .ok (.getfield 38, 3) := by decide +kernel
theorem dMo_put_22 : decode cMo_put 22 = .ok (.aload_n 0, 1) := by decide +kernel
theorem dMo_put_23 : decode cMo_put 23 = .ok (.getfield 121, 3) := by decide +kernel
theorem dMo_put_26 : decode cMo_put 26 = .ok (.iload_n 1, 1) := by decide +kernel
theorem dMo_put_27 : decode cMo_put 27 = .ok (.iastore, 1) := by decide +kernel
theorem dMo_put_28 : decode cMo_put 28 = .ok (.aload_n 0, 1) := by decide +kernel
theorem dMo_put_29 : decode cMo_put 29 = .ok (.dup, 1) := by decide +kernel
theorem dMo_put_30 : decode cMo_put 30 = .ok (.getfield 121, 3) := by decide +kernel
theorem dMo_put_33 : decode cMo_put 33 = .ok (.iconst 1, 1) := by decide +kernel
theorem dMo_put_34 : decode cMo_put 34 = .ok (.iadd, 1) := by decide +kernel
theorem dMo_put_35 : decode cMo_put 35 = .ok (.putfield 121, 3) := by decide +kernel
theorem dMo_put_38 : decode cMo_put 38 = .ok (.return_, 1) := by decide +kernel
