/-! decode rows, by a program of mine. -/
theorem dWw_init_0 : decode cWw_init 0 = .ok (.aload_n 0, 1) := by decide +kernel
theorem dWw_init_1 : decode cWw_init 1 = .ok (.invokespecial 1, 3) := by decide +kernel
theorem dWw_init_4 : decode cWw_init 4 = .ok (.aload_n 0, 1) := by decide +kernel
theorem dWw_init_5 : decode cWw_init 5 = .ok (.new 7, 3) := by decide +kernel
theorem dWw_init_8 : decode cWw_init 8 = .ok (.dup, 1) := by decide +kernel
theorem dWw_init_9 : decode cWw_init 9 = .ok (.invokespecial 9, 3) := by decide +kernel
theorem dWw_init_12 : decode cWw_init 12 = .ok (.putfield 10, 3) := by decide +kernel
theorem dWw_init_15 : decode cWw_init 15 = .ok (.aload_n 0, 1) := by decide +kernel
theorem dWw_init_16 : decode cWw_init 16 = .ok (.new 16, 3) := by decide +kernel
theorem dWw_init_19 : decode cWw_init 19 = .ok (.dup, 1) := by decide +kernel
theorem dWw_init_20 : decode cWw_init 20 = .ok (.invokespecial 18, 3) := by decide +kernel
theorem dWw_init_23 : decode cWw_init 23 = .ok (.putfield 19, 3) := by decide +kernel
theorem dWw_init_26 : decode cWw_init 26 = .ok (.aload_n 0, 1) := by decide +kernel
theorem dWw_init_27 : decode cWw_init 27 = .ok (.new 23, 3) := by decide +kernel
theorem dWw_init_30 : decode cWw_init 30 = .ok (.dup, 1) := by decide +kernel
theorem dWw_init_31 : decode cWw_init 31 = .ok (.invokespecial 25, 3) := by decide +kernel
theorem dWw_init_34 : decode cWw_init 34 = .ok (.putfield 26, 3) := by decide +kernel
theorem dWw_init_37 : decode cWw_init 37 = .ok (.aload_n 0, 1) := by decide +kernel
theorem dWw_init_38 : decode cWw_init 38 = .ok (.new 30, 3) := by decide +kernel
theorem dWw_init_41 : decode cWw_init 41 = .ok (.dup, 1) := by decide +kernel
theorem dWw_init_42 : decode cWw_init 42 = .ok (.aload_n 0, 1) := by decide +kernel
theorem dWw_init_43 : decode cWw_init 43 = .ok (.getfield 10, 3) := by decide +kernel
theorem dWw_init_46 : decode cWw_init 46 = .ok (.aload_n 0, 1) := by decide +kernel
theorem dWw_init_47 : decode cWw_init 47 = .ok (.getfield 19, 3) := by decide +kernel
theorem dWw_init_50 : decode cWw_init 50 = .ok (.aload_n 0, 1) := by decide +kernel
theorem dWw_init_51 : decode cWw_init 51 = .ok (.getfield 26, 3) := by decide +kernel
theorem dWw_init_54 : decode cWw_init 54 = .ok (.invokespecial 32, 3) := by decide +kernel
theorem dWw_init_57 : decode cWw_init 57 = .ok (.putfield 35, 3) := by decide +kernel
theorem dWw_init_60 : decode cWw_init 60 = .ok (.aload_n 0, 1) := by decide +kernel
theorem dWw_init_61 : decode cWw_init 61 = .ok (.new 39, 3) := by decide +kernel
theorem dWw_init_64 : decode cWw_init 64 = .ok (.dup, 1) := by decide +kernel
theorem dWw_init_65 : decode cWw_init 65 = .ok (.invokespecial 41, 3) := by decide +kernel
theorem dWw_init_68 : decode cWw_init 68 = .ok (.putfield 42, 3) := by decide +kernel
theorem dWw_init_71 : decode cWw_init 71 = .ok (.aload_n 0, 1) := by decide +kernel
theorem dWw_init_72 : decode cWw_init 72 = .ok (.new 46, 3) := by decide +kernel
theorem dWw_init_75 : decode cWw_init 75 = .ok (.dup, 1) := by decide +kernel
theorem dWw_init_76 : decode cWw_init 76 = .ok (.aload_n 0, 1) := by decide +kernel
theorem dWw_init_77 : decode cWw_init 77 = .ok (.getfield 10, 3) := by decide +kernel
theorem dWw_init_80 : decode cWw_init 80 = .ok (.aload_n 0, 1) := by decide +kernel
theorem dWw_init_81 : decode cWw_init 81 = .ok (.getfield 19, 3) := by decide +kernel
theorem dWw_init_84 : decode cWw_init 84 = .ok (.aload_n 0, 1) := by decide +kernel
theorem dWw_init_85 : decode cWw_init 85 = .ok (.getfield 26, 3) := by decide +kernel
theorem dWw_init_88 : decode cWw_init 88 = .ok (.aload_n 0, 1) := by decide +kernel
theorem dWw_init_89 : decode cWw_init 89 = .ok (.getfield 35, 3) := by decide +kernel
theorem dWw_init_92 : decode cWw_init 92 = .ok (.aload_n 0, 1) := by decide +kernel
theorem dWw_init_93 : decode cWw_init 93 = .ok (.getfield 42, 3) := by decide +kernel
theorem dWw_init_96 : decode cWw_init 96 = .ok (.invokespecial 48, 3) := by decide +kernel
theorem dWw_init_99 : decode cWw_init 99 = .ok (.putfield 51, 3) := by decide +kernel
theorem dWw_init_102 : decode cWw_init 102 = .ok (.return_, 1) := by decide +kernel
theorem dMa_init_0 : decode cMa_init 0 = .ok (.aload_n 0, 1) := by decide +kernel
theorem dMa_init_1 : decode cMa_init 1 = .ok (.invokespecial 3, 3) := by decide +kernel
theorem dMa_init_4 : decode cMa_init 4 = .ok (.aload_n 0, 1) := by decide +kernel
theorem dMa_init_5 : decode cMa_init 5 = .ok (.bipush 64, 2) := by decide +kernel
theorem dMa_init_7 : decode cMa_init 7 = .ok (.newarray .long, 2) := by decide +kernel
theorem dMa_init_9 : decode cMa_init 9 = .ok (.putfield 9, 3) := by decide +kernel
theorem dMa_init_12 : decode cMa_init 12 = .ok (.aload_n 0, 1) := by decide +kernel
theorem dMa_init_13 : decode cMa_init 13 = .ok (.bipush 64, 2) := by decide +kernel
theorem dMa_init_15 : decode cMa_init 15 = .ok (.newarray .long, 2) := by decide +kernel
theorem dMa_init_17 : decode cMa_init 17 = .ok (.putfield 15, 3) := by decide +kernel
theorem dMa_init_20 : decode cMa_init 20 = .ok (.aload_n 0, 1) := by decide +kernel
theorem dMa_init_21 : decode cMa_init 21 = .ok (.invokevirtual 18, 3) := by decide +kernel
theorem dMa_init_24 : decode cMa_init 24 = .ok (.return_, 1) := by decide +kernel
theorem dMa_linkSources_0 : decode cMa_linkSources 0 = .ok (.aload_n 0, 1) := by decide +kernel
theorem dMa_linkSources_1 : decode cMa_linkSources 1 = .ok (.getfield 15, 3) := by decide +kernel
theorem dMa_linkSources_4 : decode cMa_linkSources 4 = .ok (.lconst 0, 1) := by decide +kernel
theorem dMa_linkSources_5 : decode cMa_linkSources 5 = .ok (.invokestatic 29, 3) := by decide +kernel
theorem dMa_linkSources_8 : decode cMa_linkSources 8 = .ok (.iconst 0, 1) := by decide +kernel
theorem dMa_linkSources_9 : decode cMa_linkSources 9 = .ok (.istore_n 1, 1) := by decide +kernel
theorem dMa_linkSources_10 : decode cMa_linkSources 10 = .ok (.iload_n 1, 1) := by decide +kernel
theorem dMa_linkSources_11 : decode cMa_linkSources 11 = .ok (.bipush 64, 2) := by decide +kernel
theorem dMa_linkSources_13 : decode cMa_linkSources 13 = .ok (.if_icmp .ge 58, 3) := by decide +kernel
theorem dMa_linkSources_16 : decode cMa_linkSources 16 = .ok (.aload_n 0, 1) := by decide +kernel
theorem dMa_linkSources_17 : decode cMa_linkSources 17 = .ok (.iload_n 1, 1) := by decide +kernel
theorem dMa_linkSources_18 : decode cMa_linkSources 18 = .ok (.invokevirtual 35, 3) := by decide +kernel
theorem dMa_linkSources_21 : decode cMa_linkSources 21 = .ok (.lstore_n 2, 1) := by decide +kernel
theorem dMa_linkSources_22 : decode cMa_linkSources 22 = .ok (.iconst 0, 1) := by decide +kernel
theorem dMa_linkSources_23 : decode cMa_linkSources 23 = .ok (.istore 4, 2) := by decide +kernel
theorem dMa_linkSources_25 : decode cMa_linkSources 25 = .ok (.iload 4, 2) := by decide +kernel
theorem dMa_linkSources_27 : decode cMa_linkSources 27 = .ok (.bipush 64, 2) := by decide +kernel
theorem dMa_linkSources_29 : decode cMa_linkSources 29 = .ok (.if_icmp .ge 36, 3) := by decide +kernel
theorem dMa_linkSources_32 : decode cMa_linkSources 32 = .ok (.lload_n 2, 1) := by decide +kernel
theorem dMa_linkSources_33 : decode cMa_linkSources 33 = .ok (.lconst 0, 1) := by decide +kernel
theorem dMa_linkSources_34 : decode cMa_linkSources 34 = .ok (.lcmp, 1) := by decide +kernel
theorem dMa_linkSources_35 : decode cMa_linkSources 35 = .ok (.ifCond .eq 30, 3) := by decide +kernel
theorem dMa_linkSources_38 : decode cMa_linkSources 38 = .ok (.aload_n 0, 1) := by decide +kernel
theorem dMa_linkSources_39 : decode cMa_linkSources 39 = .ok (.getfield 15, 3) := by decide +kernel
theorem dMa_linkSources_42 : decode cMa_linkSources 42 = .ok (.lload_n 2, 1) := by decide +kernel
theorem dMa_linkSources_43 : decode cMa_linkSources 43 = .ok (.invokestatic 39, 3) := by decide +kernel
theorem dMa_linkSources_46 : decode cMa_linkSources 46 = .ok (.dup2, 1) := by decide +kernel
theorem dMa_linkSources_47 : decode cMa_linkSources 47 = .ok (.laload, 1) := by decide +kernel
theorem dMa_linkSources_48 : decode cMa_linkSources 48 = .ok (.lconst 1, 1) := by decide +kernel
theorem dMa_linkSources_49 : decode cMa_linkSources 49 = .ok (.iload_n 1, 1) := by decide +kernel
theorem dMa_linkSources_50 : decode cMa_linkSources 50 = .ok (.lshl, 1) := by decide +kernel
theorem dMa_linkSources_51 : decode cMa_linkSources 51 = .ok (.lor, 1) := by decide +kernel
theorem dMa_linkSources_52 : decode cMa_linkSources 52 = .ok (.lastore, 1) := by decide +kernel
theorem dMa_linkSources_53 : decode cMa_linkSources 53 = .ok (.lload_n 2, 1) := by decide +kernel
theorem dMa_linkSources_54 : decode cMa_linkSources 54 = .ok (.lload_n 2, 1) := by decide +kernel
theorem dMa_linkSources_55 : decode cMa_linkSources 55 = .ok (.lconst 1, 1) := by decide +kernel
theorem dMa_linkSources_56 : decode cMa_linkSources 56 = .ok (.lsub, 1) := by decide +kernel
theorem dMa_linkSources_57 : decode cMa_linkSources 57 = .ok (.land, 1) := by decide +kernel
theorem dMa_linkSources_58 : decode cMa_linkSources 58 = .ok (.lstore_n 2, 1) := by decide +kernel
theorem dMa_linkSources_59 : decode cMa_linkSources 59 = .ok (.iinc 4 1, 3) := by decide +kernel
theorem dMa_linkSources_62 : decode cMa_linkSources 62 = .ok (.goto (-37), 3) := by decide +kernel
theorem dMa_linkSources_65 : decode cMa_linkSources 65 = .ok (.iinc 1 1, 3) := by decide +kernel
theorem dMa_linkSources_68 : decode cMa_linkSources 68 = .ok (.goto (-58), 3) := by decide +kernel
theorem dMa_linkSources_71 : decode cMa_linkSources 71 = .ok (.return_, 1) := by decide +kernel
theorem dAr_fill_0 : decode cAr_fill 0 = .ok (.iconst 0, 1) := by decide +kernel
theorem dAr_fill_1 : decode cAr_fill 1 = .ok (.istore_n 3, 1) := by decide +kernel
theorem dAr_fill_2 : decode cAr_fill 2 = .ok (.aload_n 0, 1) := by decide +kernel
theorem dAr_fill_3 : decode cAr_fill 3 = .ok (.arraylength, 1) := by decide +kernel
theorem dAr_fill_4 : decode cAr_fill 4 = .ok (.istore 4, 2) := by decide +kernel
theorem dAr_fill_6 : decode cAr_fill 6 = .ok (.iload_n 3, 1) := by decide +kernel
theorem dAr_fill_7 : decode cAr_fill 7 = .ok (.iload 4, 2) := by decide +kernel
theorem dAr_fill_9 : decode cAr_fill 9 = .ok (.if_icmp .ge 13, 3) := by decide +kernel
theorem dAr_fill_12 : decode cAr_fill 12 = .ok (.aload_n 0, 1) := by decide +kernel
theorem dAr_fill_13 : decode cAr_fill 13 = .ok (.iload_n 3, 1) := by decide +kernel
theorem dAr_fill_14 : decode cAr_fill 14 = .ok (.lload_n 1, 1) := by decide +kernel
theorem dAr_fill_15 : decode cAr_fill 15 = .ok (.lastore, 1) := by decide +kernel
theorem dAr_fill_16 : decode cAr_fill 16 = .ok (.iinc 3 1, 3) := by decide +kernel
theorem dAr_fill_19 : decode cAr_fill 19 = .ok (.goto (-13), 3) := by decide +kernel
theorem dAr_fill_22 : decode cAr_fill 22 = .ok (.return_, 1) := by decide +kernel
theorem dMa_nextOf_0 : decode cMa_nextOf 0 = .ok (.aload_n 0, 1) := by decide +kernel
theorem dMa_nextOf_1 : decode cMa_nextOf 1 = .ok (.getfield 9, 3) := by decide +kernel
theorem dMa_nextOf_4 : decode cMa_nextOf 4 = .ok (.iload_n 1, 1) := by decide +kernel
theorem dMa_nextOf_5 : decode cMa_nextOf 5 = .ok (.laload, 1) := by decide +kernel
theorem dMa_nextOf_6 : decode cMa_nextOf 6 = .ok (.lconst 0, 1) := by decide +kernel
theorem dMa_nextOf_7 : decode cMa_nextOf 7 = .ok (.lcmp, 1) := by decide +kernel
theorem dMa_nextOf_8 : decode cMa_nextOf 8 = .ok (.ifCond .ne 9, 3) := by decide +kernel
theorem dMa_nextOf_11 : decode cMa_nextOf 11 = .ok (.lconst 1, 1) := by decide +kernel
theorem dMa_nextOf_12 : decode cMa_nextOf 12 = .ok (.iload_n 1, 1) := by decide +kernel
theorem dMa_nextOf_13 : decode cMa_nextOf 13 = .ok (.lshl, 1) := by decide +kernel
theorem dMa_nextOf_14 : decode cMa_nextOf 14 = .ok (.goto 9, 3) := by decide +kernel
theorem dMa_nextOf_17 : decode cMa_nextOf 17 = .ok (.aload_n 0, 1) := by decide +kernel
theorem dMa_nextOf_18 : decode cMa_nextOf 18 = .ok (.getfield 9, 3) := by decide +kernel
theorem dMa_nextOf_21 : decode cMa_nextOf 21 = .ok (.iload_n 1, 1) := by decide +kernel
theorem dMa_nextOf_22 : decode cMa_nextOf 22 = .ok (.laload, 1) := by decide +kernel
theorem dMa_nextOf_23 : decode cMa_nextOf 23 = .ok (.lreturn, 1) := by decide +kernel
theorem dWw_least_0 : decode cWw_least 0 = .ok (.lload_n 0, 1) := by decide +kernel
theorem dWw_least_1 : decode cWw_least 1 = .ok (.invokestatic 174, 3) := by decide +kernel
theorem dWw_least_4 : decode cWw_least 4 = .ok (.bipush 63, 2) := by decide +kernel
theorem dWw_least_6 : decode cWw_least 6 = .ok (.iand, 1) := by decide +kernel
theorem dWw_least_7 : decode cWw_least 7 = .ok (.ireturn, 1) := by decide +kernel
theorem dLo_numberOfTrailingZeros_0 : decode cLo_numberOfTrailingZeros 0 = .ok (.lload_n 0, 1) := by decide +kernel
theorem dLo_numberOfTrailingZeros_1 : decode cLo_numberOfTrailingZeros 1 = .ok (.l2i, 1) := by decide +kernel
theorem dLo_numberOfTrailingZeros_2 : decode cLo_numberOfTrailingZeros 2 = .ok (.istore_n 2, 1) := by decide +kernel
theorem dLo_numberOfTrailingZeros_3 : decode cLo_numberOfTrailingZeros 3 = .ok (.iload_n 2, 1) := by decide +kernel
theorem dLo_numberOfTrailingZeros_4 : decode cLo_numberOfTrailingZeros 4 = .ok (.ifCond .ne 17, 3) := by decide +kernel
theorem dLo_numberOfTrailingZeros_7 : decode cLo_numberOfTrailingZeros 7 = .ok (.bipush 32, 2) := by decide +kernel
theorem dLo_numberOfTrailingZeros_9 : decode cLo_numberOfTrailingZeros 9 = .ok (.lload_n 0, 1) := by decide +kernel
theorem dLo_numberOfTrailingZeros_10 : decode cLo_numberOfTrailingZeros 10 = .ok (.bipush 32, 2) := by decide +kernel
theorem dLo_numberOfTrailingZeros_12 : decode cLo_numberOfTrailingZeros 12 = .ok (.lushr, 1) := by decide +kernel
theorem dLo_numberOfTrailingZeros_13 : decode cLo_numberOfTrailingZeros 13 = .ok (.l2i, 1) := by decide +kernel
theorem dLo_numberOfTrailingZeros_14 : decode cLo_numberOfTrailingZeros 14 = .ok (.invokestatic 311, 3) := by decide +kernel
theorem dLo_numberOfTrailingZeros_17 : decode cLo_numberOfTrailingZeros 17 = .ok (.iadd, 1) := by decide +kernel
theorem dLo_numberOfTrailingZeros_18 : decode cLo_numberOfTrailingZeros 18 = .ok (.goto 7, 3) := by decide +kernel
theorem dLo_numberOfTrailingZeros_21 : decode cLo_numberOfTrailingZeros 21 = .ok (.iload_n 2, 1) := by decide +kernel
theorem dLo_numberOfTrailingZeros_22 : decode cLo_numberOfTrailingZeros 22 = .ok (.invokestatic 311, 3) := by decide +kernel
theorem dLo_numberOfTrailingZeros_25 : decode cLo_numberOfTrailingZeros 25 = .ok (.ireturn, 1) := by decide +kernel
theorem dIn_numberOfTrailingZeros_0 : decode cIn_numberOfTrailingZeros 0 = .ok (.iload_n 0, 1) := by decide +kernel
theorem dIn_numberOfTrailingZeros_1 : decode cIn_numberOfTrailingZeros 1 = .ok (.iconst (-1), 1) := by decide +kernel
theorem dIn_numberOfTrailingZeros_2 : decode cIn_numberOfTrailingZeros 2 = .ok (.ixor, 1) := by decide +kernel
theorem dIn_numberOfTrailingZeros_3 : decode cIn_numberOfTrailingZeros 3 = .ok (.iload_n 0, 1) := by decide +kernel
theorem dIn_numberOfTrailingZeros_4 : decode cIn_numberOfTrailingZeros 4 = .ok (.iconst 1, 1) := by decide +kernel
theorem dIn_numberOfTrailingZeros_5 : decode cIn_numberOfTrailingZeros 5 = .ok (.isub, 1) := by decide +kernel
theorem dIn_numberOfTrailingZeros_6 : decode cIn_numberOfTrailingZeros 6 = .ok (.iand, 1) := by decide +kernel
theorem dIn_numberOfTrailingZeros_7 : decode cIn_numberOfTrailingZeros 7 = .ok (.istore_n 0, 1) := by decide +kernel
theorem dIn_numberOfTrailingZeros_8 : decode cIn_numberOfTrailingZeros 8 = .ok (.iload_n 0, 1) := by decide +kernel
theorem dIn_numberOfTrailingZeros_9 : decode cIn_numberOfTrailingZeros 9 = .ok (.ifCond .gt 8, 3) := by decide +kernel
theorem dIn_numberOfTrailingZeros_12 : decode cIn_numberOfTrailingZeros 12 = .ok (.iload_n 0, 1) := by decide +kernel
theorem dIn_numberOfTrailingZeros_13 : decode cIn_numberOfTrailingZeros 13 = .ok (.bipush 32, 2) := by decide +kernel
theorem dIn_numberOfTrailingZeros_15 : decode cIn_numberOfTrailingZeros 15 = .ok (.iand, 1) := by decide +kernel
theorem dIn_numberOfTrailingZeros_16 : decode cIn_numberOfTrailingZeros 16 = .ok (.ireturn, 1) := by decide +kernel
theorem dIn_numberOfTrailingZeros_17 : decode cIn_numberOfTrailingZeros 17 = .ok (.iconst 1, 1) := by decide +kernel
theorem dIn_numberOfTrailingZeros_18 : decode cIn_numberOfTrailingZeros 18 = .ok (.istore_n 1, 1) := by decide +kernel
theorem dIn_numberOfTrailingZeros_19 : decode cIn_numberOfTrailingZeros 19 = .ok (.iload_n 0, 1) := by decide +kernel
theorem dIn_numberOfTrailingZeros_20 : decode cIn_numberOfTrailingZeros 20 = .ok (.ldc_w 264, 3) := by decide +kernel
theorem dIn_numberOfTrailingZeros_23 : decode cIn_numberOfTrailingZeros 23 = .ok (.if_icmp .le 11, 3) := by decide +kernel
theorem dIn_numberOfTrailingZeros_26 : decode cIn_numberOfTrailingZeros 26 = .ok (.iinc 1 16, 3) := by decide +kernel
theorem dIn_numberOfTrailingZeros_29 : decode cIn_numberOfTrailingZeros 29 = .ok (.iload_n 0, 1) := by decide +kernel
theorem dIn_numberOfTrailingZeros_30 : decode cIn_numberOfTrailingZeros 30 = .ok (.bipush 16, 2) := by decide +kernel
theorem dIn_numberOfTrailingZeros_32 : decode cIn_numberOfTrailingZeros 32 = .ok (.iushr, 1) := by decide +kernel
theorem dIn_numberOfTrailingZeros_33 : decode cIn_numberOfTrailingZeros 33 = .ok (.istore_n 0, 1) := by decide +kernel
theorem dIn_numberOfTrailingZeros_34 : decode cIn_numberOfTrailingZeros 34 = .ok (.iload_n 0, 1) := by decide +kernel
theorem dIn_numberOfTrailingZeros_35 : decode cIn_numberOfTrailingZeros 35 = .ok (.sipush 256, 3) := by decide +kernel
theorem dIn_numberOfTrailingZeros_38 : decode cIn_numberOfTrailingZeros 38 = .ok (.if_icmp .le 11, 3) := by decide +kernel
theorem dIn_numberOfTrailingZeros_41 : decode cIn_numberOfTrailingZeros 41 = .ok (.iinc 1 8, 3) := by decide +kernel
theorem dIn_numberOfTrailingZeros_44 : decode cIn_numberOfTrailingZeros 44 = .ok (.iload_n 0, 1) := by decide +kernel
theorem dIn_numberOfTrailingZeros_45 : decode cIn_numberOfTrailingZeros 45 = .ok (.bipush 8, 2) := by decide +kernel
theorem dIn_numberOfTrailingZeros_47 : decode cIn_numberOfTrailingZeros 47 = .ok (.iushr, 1) := by decide +kernel
theorem dIn_numberOfTrailingZeros_48 : decode cIn_numberOfTrailingZeros 48 = .ok (.istore_n 0, 1) := by decide +kernel
theorem dIn_numberOfTrailingZeros_49 : decode cIn_numberOfTrailingZeros 49 = .ok (.iload_n 0, 1) := by decide +kernel
theorem dIn_numberOfTrailingZeros_50 : decode cIn_numberOfTrailingZeros 50 = .ok (.bipush 16, 2) := by decide +kernel
theorem dIn_numberOfTrailingZeros_52 : decode cIn_numberOfTrailingZeros 52 = .ok (.if_icmp .le 10, 3) := by decide +kernel
theorem dIn_numberOfTrailingZeros_55 : decode cIn_numberOfTrailingZeros 55 = .ok (.iinc 1 4, 3) := by decide +kernel
theorem dIn_numberOfTrailingZeros_58 : decode cIn_numberOfTrailingZeros 58 = .ok (.iload_n 0, 1) := by decide +kernel
theorem dIn_numberOfTrailingZeros_59 : decode cIn_numberOfTrailingZeros 59 = .ok (.iconst 4, 1) := by decide +kernel
theorem dIn_numberOfTrailingZeros_60 : decode cIn_numberOfTrailingZeros 60 = .ok (.iushr, 1) := by decide +kernel
theorem dIn_numberOfTrailingZeros_61 : decode cIn_numberOfTrailingZeros 61 = .ok (.istore_n 0, 1) := by decide +kernel
theorem dIn_numberOfTrailingZeros_62 : decode cIn_numberOfTrailingZeros 62 = .ok (.iload_n 0, 1) := by decide +kernel
theorem dIn_numberOfTrailingZeros_63 : decode cIn_numberOfTrailingZeros 63 = .ok (.iconst 4, 1) := by decide +kernel
theorem dIn_numberOfTrailingZeros_64 : decode cIn_numberOfTrailingZeros 64 = .ok (.if_icmp .le 10, 3) := by decide +kernel
theorem dIn_numberOfTrailingZeros_67 : decode cIn_numberOfTrailingZeros 67 = .ok (.iinc 1 2, 3) := by decide +kernel
theorem dIn_numberOfTrailingZeros_70 : decode cIn_numberOfTrailingZeros 70 = .ok (.iload_n 0, 1) := by decide +kernel
theorem dIn_numberOfTrailingZeros_71 : decode cIn_numberOfTrailingZeros 71 = .ok (.iconst 2, 1) := by decide +kernel
theorem dIn_numberOfTrailingZeros_72 : decode cIn_numberOfTrailingZeros 72 = .ok (.iushr, 1) := by decide +kernel
theorem dIn_numberOfTrailingZeros_73 : decode cIn_numberOfTrailingZeros 73 = .ok (.istore_n 0, 1) := by decide +kernel
theorem dIn_numberOfTrailingZeros_74 : decode cIn_numberOfTrailingZeros 74 = .ok (.iload_n 1, 1) := by decide +kernel
theorem dIn_numberOfTrailingZeros_75 : decode cIn_numberOfTrailingZeros 75 = .ok (.iload_n 0, 1) := by decide +kernel
theorem dIn_numberOfTrailingZeros_76 : decode cIn_numberOfTrailingZeros 76 = .ok (.iconst 1, 1) := by decide +kernel
theorem dIn_numberOfTrailingZeros_77 : decode cIn_numberOfTrailingZeros 77 = .ok (.iushr, 1) := by decide +kernel
theorem dIn_numberOfTrailingZeros_78 : decode cIn_numberOfTrailingZeros 78 = .ok (.iadd, 1) := by decide +kernel
theorem dIn_numberOfTrailingZeros_79 : decode cIn_numberOfTrailingZeros 79 = .ok (.ireturn, 1) := by decide +kernel
theorem dFo_init_0 : decode cFo_init 0 = .ok (.aload_n 0, 1) := by decide +kernel
theorem dFo_init_1 : decode cFo_init 1 = .ok (.invokespecial 3, 3) := by decide +kernel
theorem dFo_init_4 : decode cFo_init 4 = .ok (.aload_n 0, 1) := by decide +kernel
theorem dFo_init_5 : decode cFo_init 5 = .ok (.bipush 32, 2) := by decide +kernel
theorem dFo_init_7 : decode cFo_init 7 = .ok (.newarray .int, 2) := by decide +kernel
theorem dFo_init_9 : decode cFo_init 9 = .ok (.putfield 9, 3) := by decide +kernel
theorem dFo_init_12 : decode cFo_init 12 = .ok (.aload_n 0, 1) := by decide +kernel
theorem dFo_init_13 : decode cFo_init 13 = .ok (.bipush 32, 2) := by decide +kernel
theorem dFo_init_15 : decode cFo_init 15 = .ok (.newarray .int, 2) := by decide +kernel
theorem dFo_init_17 : decode cFo_init 17 = .ok (.putfield 15, 3) := by decide +kernel
theorem dFo_init_20 : decode cFo_init 20 = .ok (.aload_n 0, 1) := by decide +kernel
theorem dFo_init_21 : decode cFo_init 21 = .ok (.bipush 32, 2) := by decide +kernel
theorem dFo_init_23 : decode cFo_init 23 = .ok (.newarray .int, 2) := by decide +kernel
theorem dFo_init_25 : decode cFo_init 25 = .ok (.putfield 18, 3) := by decide +kernel
theorem dFo_init_28 : decode cFo_init 28 = .ok (.aload_n 0, 1) := by decide +kernel
theorem dFo_init_29 : decode cFo_init 29 = .ok (.bipush 32, 2) := by decide +kernel
theorem dFo_init_31 : decode cFo_init 31 = .ok (.newarray .boolean, 2) := by decide +kernel
theorem dFo_init_33 : decode cFo_init 33 = .ok (.putfield 21, 3) := by decide +kernel
theorem dFo_init_36 : decode cFo_init 36 = .ok (.return_, 1) := by decide +kernel
theorem dFa_init_0 : decode cFa_init 0 = .ok (.aload_n 0, 1) := by decide +kernel
theorem dFa_init_1 : decode cFa_init 1 = .ok (.invokespecial 3, 3) := by decide +kernel
theorem dFa_init_4 : decode cFa_init 4 = .ok (.aload_n 0, 1) := by decide +kernel
theorem dFa_init_5 : decode cFa_init 5 = .ok (.iconst 3, 1) := by decide +kernel
theorem dFa_init_6 : decode cFa_init 6 = .ok (.newarray .long, 2) := by decide +kernel
theorem dFa_init_8 : decode cFa_init 8 = .ok (.putfield 9, 3) := by decide +kernel
theorem dFa_init_11 : decode cFa_init 11 = .ok (.return_, 1) := by decide +kernel
theorem dJu_init_0 : decode cJu_init 0 = .ok (.aload_n 0, 1) := by decide +kernel
theorem dJu_init_1 : decode cJu_init 1 = .ok (.invokespecial 3, 3) := by decide +kernel
theorem dJu_init_4 : decode cJu_init 4 = .ok (.aload_n 0, 1) := by decide +kernel
theorem dJu_init_5 : decode cJu_init 5 = .ok (.bipush 32, 2) := by decide +kernel
theorem dJu_init_7 : decode cJu_init 7 = .ok (.newarray .long, 2) := by decide +kernel
theorem dJu_init_9 : decode cJu_init 9 = .ok (.putfield 9, 3) := by decide +kernel
theorem dJu_init_12 : decode cJu_init 12 = .ok (.aload_n 0, 1) := by decide +kernel
theorem dJu_init_13 : decode cJu_init 13 = .ok (.aload_n 1, 1) := by decide +kernel
theorem dJu_init_14 : decode cJu_init 14 = .ok (.putfield 15, 3) := by decide +kernel
theorem dJu_init_17 : decode cJu_init 17 = .ok (.aload_n 0, 1) := by decide +kernel
theorem dJu_init_18 : decode cJu_init 18 = .ok (.aload_n 2, 1) := by decide +kernel
theorem dJu_init_19 : decode cJu_init 19 = .ok (.putfield 19, 3) := by decide +kernel
theorem dJu_init_22 : decode cJu_init 22 = .ok (.aload_n 0, 1) := by decide +kernel
theorem dJu_init_23 : decode cJu_init 23 = .ok (.aload_n 3, 1) := by decide +kernel
theorem dJu_init_24 : decode cJu_init 24 = .ok (.putfield 23, 3) := by decide +kernel
theorem dJu_init_27 : decode cJu_init 27 = .ok (.return_, 1) := by decide +kernel
theorem dPa_init_0 : decode cPa_init 0 = .ok (.aload_n 0, 1) := by decide +kernel
theorem dPa_init_1 : decode cPa_init 1 = .ok (.invokespecial 3, 3) := by decide +kernel
theorem dPa_init_4 : decode cPa_init 4 = .ok (.aload_n 0, 1) := by decide +kernel
theorem dPa_init_5 : decode cPa_init 5 = .ok (.sipush 250, 3) := by decide +kernel
theorem dPa_init_8 : decode cPa_init 8 = .ok (.newarray .int, 2) := by decide +kernel
theorem dPa_init_10 : decode cPa_init 10 = .ok (.putfield 9, 3) := by decide +kernel
theorem dPa_init_13 : decode cPa_init 13 = .ok (.aload_n 0, 1) := by decide +kernel
theorem dPa_init_14 : decode cPa_init 14 = .ok (.iconst (-1), 1) := by decide +kernel
theorem dPa_init_15 : decode cPa_init 15 = .ok (.putfield 15, 3) := by decide +kernel
theorem dPa_init_18 : decode cPa_init 18 = .ok (.return_, 1) := by decide +kernel
theorem dWa_init_0 : decode cWa_init 0 = .ok (.aload_n 0, 1) := by decide +kernel
theorem dWa_init_1 : decode cWa_init 1 = .ok (.invokespecial 3, 3) := by decide +kernel
theorem dWa_init_4 : decode cWa_init 4 = .ok (.aload_n 0, 1) := by decide +kernel
theorem dWa_init_5 : decode cWa_init 5 = .ok (.bipush 64, 2) := by decide +kernel
theorem dWa_init_7 : decode cWa_init 7 = .ok (.newarray .long, 2) := by decide +kernel
theorem dWa_init_9 : decode cWa_init 9 = .ok (.putfield 9, 3) := by decide +kernel
theorem dWa_init_12 : decode cWa_init 12 = .ok (.aload_n 0, 1) := by decide +kernel
theorem dWa_init_13 : decode cWa_init 13 = .ok (.bipush 64, 2) := by decide +kernel
theorem dWa_init_15 : decode cWa_init 15 = .ok (.newarray .int, 2) := by decide +kernel
theorem dWa_init_17 : decode cWa_init 17 = .ok (.putfield 15, 3) := by decide +kernel
theorem dWa_init_20 : decode cWa_init 20 = .ok (.aload_n 0, 1) := by decide +kernel
theorem dWa_init_21 : decode cWa_init 21 = .ok (.aload_n 1, 1) := by decide +kernel
theorem dWa_init_22 : decode cWa_init 22 = .ok (.putfield 19, 3) := by decide +kernel
theorem dWa_init_25 : decode cWa_init 25 = .ok (.aload_n 0, 1) := by decide +kernel
theorem dWa_init_26 : decode cWa_init 26 = .ok (.aload_n 2, 1) := by decide +kernel
theorem dWa_init_27 : decode cWa_init 27 = .ok (.putfield 23, 3) := by decide +kernel
theorem dWa_init_30 : decode cWa_init 30 = .ok (.aload_n 0, 1) := by decide +kernel
theorem dWa_init_31 : decode cWa_init 31 = .ok (.aload_n 3, 1) := by decide +kernel
theorem dWa_init_32 : decode cWa_init 32 = .ok (.putfield 27, 3) := by decide +kernel
theorem dWa_init_35 : decode cWa_init 35 = .ok (.aload_n 0, 1) := by decide +kernel
theorem dWa_init_36 : decode cWa_init 36 = .ok (.aload 4, 2) := by decide +kernel
theorem dWa_init_38 : decode cWa_init 38 = .ok (.putfield 31, 3) := by decide +kernel
theorem dWa_init_41 : decode cWa_init 41 = .ok (.aload_n 0, 1) := by decide +kernel
theorem dWa_init_42 : decode cWa_init 42 = .ok (.aload 5, 2) := by decide +kernel
theorem dWa_init_44 : decode cWa_init 44 = .ok (.putfield 35, 3) := by decide +kernel
theorem dWa_init_47 : decode cWa_init 47 = .ok (.return_, 1) := by decide +kernel
theorem dWw_unfair_0 : decode cWw_unfair 0 = .ok (.aload_n 0, 1) := by decide +kernel
theorem dWw_unfair_1 : decode cWw_unfair 1 = .ok (.getfield 35, 3) := by decide +kernel
theorem dWw_unfair_4 : decode cWw_unfair 4 = .ok (.invokevirtual 77, 3) := by decide +kernel
theorem dWw_unfair_7 : decode cWw_unfair 7 = .ok (.aload_n 0, 1) := by decide +kernel
theorem dWw_unfair_8 : decode cWw_unfair 8 = .ok (.getfield 26, 3) := by decide +kernel
theorem dWw_unfair_11 : decode cWw_unfair 11 = .ok (.invokevirtual 126, 3) := by decide +kernel
theorem dWw_unfair_14 : decode cWw_unfair 14 = .ok (.return_, 1) := by decide +kernel
theorem dJu_forget_0 : decode cJu_forget 0 = .ok (.aload_n 0, 1) := by decide +kernel
theorem dJu_forget_1 : decode cJu_forget 1 = .ok (.iconst 0, 1) := by decide +kernel
theorem dJu_forget_2 : decode cJu_forget 2 = .ok (.putfield 27, 3) := by decide +kernel
theorem dJu_forget_5 : decode cJu_forget 5 = .ok (.aload_n 0, 1) := by decide +kernel
theorem dJu_forget_6 : decode cJu_forget 6 = .ok (.iconst 0, 1) := by decide +kernel
theorem dJu_forget_7 : decode cJu_forget 7 = .ok (.putfield 31, 3) := by decide +kernel
theorem dJu_forget_10 : decode cJu_forget 10 = .ok (.return_, 1) := by decide +kernel
theorem dFa_clear_0 : decode cFa_clear 0 = .ok (.aload_n 0, 1) := by decide +kernel
theorem dFa_clear_1 : decode cFa_clear 1 = .ok (.iconst 0, 1) := by decide +kernel
theorem dFa_clear_2 : decode cFa_clear 2 = .ok (.putfield 15, 3) := by decide +kernel
theorem dFa_clear_5 : decode cFa_clear 5 = .ok (.return_, 1) := by decide +kernel
theorem dWw_begins_0 : decode cWw_begins 0 = .ok (.aload_n 0, 1) := by decide +kernel
theorem dWw_begins_1 : decode cWw_begins 1 = .ok (.getfield 35, 3) := by decide +kernel
theorem dWw_begins_4 : decode cWw_begins 4 = .ok (.invokevirtual 131, 3) := by decide +kernel
theorem dWw_begins_7 : decode cWw_begins 7 = .ok (.aload_n 0, 1) := by decide +kernel
theorem dWw_begins_8 : decode cWw_begins 8 = .ok (.getfield 35, 3) := by decide +kernel
theorem dWw_begins_11 : decode cWw_begins 11 = .ok (.invokevirtual 134, 3) := by decide +kernel
theorem dWw_begins_14 : decode cWw_begins 14 = .ok (.lreturn, 1) := by decide +kernel
theorem dJu_refresh_0 : decode cJu_refresh 0 = .ok (.aload_n 0, 1) := by decide +kernel
theorem dJu_refresh_1 : decode cJu_refresh 1 = .ok (.getfield 31, 3) := by decide +kernel
theorem dJu_refresh_4 : decode cJu_refresh 4 = .ok (.ifCond .ne 19, 3) := by decide +kernel
theorem dJu_refresh_7 : decode cJu_refresh 7 = .ok (.aload_n 0, 1) := by decide +kernel
theorem dJu_refresh_8 : decode cJu_refresh 8 = .ok (.aload_n 0, 1) := by decide +kernel
theorem dJu_refresh_9 : decode cJu_refresh 9 = .ok (.ldc2_w 35, 3) := by decide +kernel
theorem dJu_refresh_12 : decode cJu_refresh 12 = .ok (.invokevirtual 37, 3) := by decide +kernel
theorem dJu_refresh_15 : decode cJu_refresh 15 = .ok (.putfield 41, 3) := by decide +kernel
theorem dJu_refresh_18 : decode cJu_refresh 18 = .ok (.aload_n 0, 1) := by decide +kernel
theorem dJu_refresh_19 : decode cJu_refresh 19 = .ok (.iconst 1, 1) := by decide +kernel
theorem dJu_refresh_20 : decode cJu_refresh 20 = .ok (.putfield 31, 3) := by decide +kernel
theorem dJu_refresh_23 : decode cJu_refresh 23 = .ok (.return_, 1) := by decide +kernel
theorem dJu_someAlways_0 : decode cJu_someAlways 0 = .ok (.lload_n 1, 1) := by decide +kernel
theorem dJu_someAlways_1 : decode cJu_someAlways 1 = .ok (.lstore_n 3, 1) := by decide +kernel
theorem dJu_someAlways_2 : decode cJu_someAlways 2 = .ok (.iconst 0, 1) := by decide +kernel
theorem dJu_someAlways_3 : decode cJu_someAlways 3 = .ok (.istore 5, 2) := by decide +kernel
theorem dJu_someAlways_5 : decode cJu_someAlways 5 = .ok (.iload 5, 2) := by decide +kernel
theorem dJu_someAlways_7 : decode cJu_someAlways 7 = .ok (.bipush 64, 2) := by decide +kernel
theorem dJu_someAlways_9 : decode cJu_someAlways 9 = .ok (.if_icmp .gt 81, 3) := by decide +kernel
theorem dJu_someAlways_12 : decode cJu_someAlways 12 = .ok (.lload_n 3, 1) := by decide +kernel
theorem dJu_someAlways_13 : decode cJu_someAlways 13 = .ok (.aload_n 0, 1) := by decide +kernel
theorem dJu_someAlways_14 : decode cJu_someAlways 14 = .ok (.getfield 15, 3) := by decide +kernel
theorem dJu_someAlways_17 : decode cJu_someAlways 17 = .ok (.lload_n 3, 1) := by decide +kernel
theorem dJu_someAlways_18 : decode cJu_someAlways 18 = .ok (.invokevirtual 80, 3) := by decide +kernel
theorem dJu_someAlways_21 : decode cJu_someAlways 21 = .ok (.land, 1) := by decide +kernel
theorem dJu_someAlways_22 : decode cJu_someAlways 22 = .ok (.lstore 6, 2) := by decide +kernel
theorem dJu_someAlways_24 : decode cJu_someAlways 24 = .ok (.iconst 0, 1) := by decide +kernel
theorem dJu_someAlways_25 : decode cJu_someAlways 25 = .ok (.istore 8, 2) := by decide +kernel
theorem dJu_someAlways_27 : decode cJu_someAlways 27 = .ok (.iload 8, 2) := by decide +kernel
theorem dJu_someAlways_29 : decode cJu_someAlways 29 = .ok (.aload_n 0, 1) := by decide +kernel
theorem dJu_someAlways_30 : decode cJu_someAlways 30 = .ok (.getfield 23, 3) := by decide +kernel
theorem dJu_someAlways_33 : decode cJu_someAlways 33 = .ok (.invokevirtual 88, 3) := by decide +kernel
theorem dJu_someAlways_36 : decode cJu_someAlways 36 = .ok (.if_icmp .ge 35, 3) := by decide +kernel
theorem dJu_someAlways_39 : decode cJu_someAlways 39 = .ok (.lload 6, 2) := by decide +kernel
theorem dJu_someAlways_41 : decode cJu_someAlways 41 = .ok (.aload_n 0, 1) := by decide +kernel
theorem dJu_someAlways_42 : decode cJu_someAlways 42 = .ok (.getfield 15, 3) := by decide +kernel
theorem dJu_someAlways_45 : decode cJu_someAlways 45 = .ok (.lload 6, 2) := by decide +kernel
theorem dJu_someAlways_47 : decode cJu_someAlways 47 = .ok (.aload_n 0, 1) := by decide +kernel
theorem dJu_someAlways_48 : decode cJu_someAlways 48 = .ok (.getfield 23, 3) := by decide +kernel
theorem dJu_someAlways_51 : decode cJu_someAlways 51 = .ok (.iload 8, 2) := by decide +kernel
theorem dJu_someAlways_53 : decode cJu_someAlways 53 = .ok (.invokevirtual 94, 3) := by decide +kernel
theorem dJu_someAlways_56 : decode cJu_someAlways 56 = .ok (.land, 1) := by decide +kernel
theorem dJu_someAlways_57 : decode cJu_someAlways 57 = .ok (.lload 6, 2) := by decide +kernel
theorem dJu_someAlways_59 : decode cJu_someAlways 59 = .ok (.invokevirtual 85, 3) := by decide +kernel
theorem dJu_someAlways_62 : decode cJu_someAlways 62 = .ok (.land, 1) := by decide +kernel
theorem dJu_someAlways_63 : decode cJu_someAlways 63 = .ok (.lstore 6, 2) := by decide +kernel
theorem dJu_someAlways_65 : decode cJu_someAlways 65 = .ok (.iinc 8 1, 3) := by decide +kernel
theorem dJu_someAlways_68 : decode cJu_someAlways 68 = .ok (.goto (-41), 3) := by decide +kernel
theorem dJu_someAlways_71 : decode cJu_someAlways 71 = .ok (.lload 6, 2) := by decide +kernel
theorem dJu_someAlways_73 : decode cJu_someAlways 73 = .ok (.lload_n 3, 1) := by decide +kernel
theorem dJu_someAlways_74 : decode cJu_someAlways 74 = .ok (.lcmp, 1) := by decide +kernel
theorem dJu_someAlways_75 : decode cJu_someAlways 75 = .ok (.ifCond .ne 6, 3) := by decide +kernel
theorem dJu_someAlways_78 : decode cJu_someAlways 78 = .ok (.goto 12, 3) := by decide +kernel
theorem dJu_someAlways_81 : decode cJu_someAlways 81 = .ok (.lload 6, 2) := by decide +kernel
theorem dJu_someAlways_83 : decode cJu_someAlways 83 = .ok (.lstore_n 3, 1) := by decide +kernel
theorem dJu_someAlways_84 : decode cJu_someAlways 84 = .ok (.iinc 5 1, 3) := by decide +kernel
theorem dJu_someAlways_87 : decode cJu_someAlways 87 = .ok (.goto (-82), 3) := by decide +kernel
theorem dJu_someAlways_90 : decode cJu_someAlways 90 = .ok (.lload_n 3, 1) := by decide +kernel
theorem dJu_someAlways_91 : decode cJu_someAlways 91 = .ok (.lreturn, 1) := by decide +kernel
theorem dMa_sourcesOf_0 : decode cMa_sourcesOf 0 = .ok (.lconst 0, 1) := by decide +kernel
theorem dMa_sourcesOf_1 : decode cMa_sourcesOf 1 = .ok (.lstore_n 3, 1) := by decide +kernel
theorem dMa_sourcesOf_2 : decode cMa_sourcesOf 2 = .ok (.lload_n 1, 1) := by decide +kernel
theorem dMa_sourcesOf_3 : decode cMa_sourcesOf 3 = .ok (.lstore 5, 2) := by decide +kernel
theorem dMa_sourcesOf_5 : decode cMa_sourcesOf 5 = .ok (.iconst 0, 1) := by decide +kernel
theorem dMa_sourcesOf_6 : decode cMa_sourcesOf 6 = .ok (.istore 7, 2) := by decide +kernel
theorem dMa_sourcesOf_8 : decode cMa_sourcesOf 8 = .ok (.iload 7, 2) := by decide +kernel
theorem dMa_sourcesOf_10 : decode cMa_sourcesOf 10 = .ok (.bipush 64, 2) := by decide +kernel
theorem dMa_sourcesOf_12 : decode cMa_sourcesOf 12 = .ok (.if_icmp .ge 38, 3) := by decide +kernel
theorem dMa_sourcesOf_15 : decode cMa_sourcesOf 15 = .ok (.lload 5, 2) := by decide +kernel
theorem dMa_sourcesOf_17 : decode cMa_sourcesOf 17 = .ok (.lconst 0, 1) := by decide +kernel
theorem dMa_sourcesOf_18 : decode cMa_sourcesOf 18 = .ok (.lcmp, 1) := by decide +kernel
theorem dMa_sourcesOf_19 : decode cMa_sourcesOf 19 = .ok (.ifCond .eq 31, 3) := by decide +kernel
theorem dMa_sourcesOf_22 : decode cMa_sourcesOf 22 = .ok (.lload_n 3, 1) := by decide +kernel
theorem dMa_sourcesOf_23 : decode cMa_sourcesOf 23 = .ok (.aload_n 0, 1) := by decide +kernel
theorem dMa_sourcesOf_24 : decode cMa_sourcesOf 24 = .ok (.getfield 15, 3) := by decide +kernel
theorem dMa_sourcesOf_27 : decode cMa_sourcesOf 27 = .ok (.lload 5, 2) := by decide +kernel
theorem dMa_sourcesOf_29 : decode cMa_sourcesOf 29 = .ok (.invokestatic 39, 3) := by decide +kernel
theorem dMa_sourcesOf_32 : decode cMa_sourcesOf 32 = .ok (.laload, 1) := by decide +kernel
theorem dMa_sourcesOf_33 : decode cMa_sourcesOf 33 = .ok (.lor, 1) := by decide +kernel
theorem dMa_sourcesOf_34 : decode cMa_sourcesOf 34 = .ok (.lstore_n 3, 1) := by decide +kernel
theorem dMa_sourcesOf_35 : decode cMa_sourcesOf 35 = .ok (.lload 5, 2) := by decide +kernel
theorem dMa_sourcesOf_37 : decode cMa_sourcesOf 37 = .ok (.lload 5, 2) := by decide +kernel
theorem dMa_sourcesOf_39 : decode cMa_sourcesOf 39 = .ok (.lconst 1, 1) := by decide +kernel
theorem dMa_sourcesOf_40 : decode cMa_sourcesOf 40 = .ok (.lsub, 1) := by decide +kernel
theorem dMa_sourcesOf_41 : decode cMa_sourcesOf 41 = .ok (.land, 1) := by decide +kernel
theorem dMa_sourcesOf_42 : decode cMa_sourcesOf 42 = .ok (.lstore 5, 2) := by decide +kernel
theorem dMa_sourcesOf_44 : decode cMa_sourcesOf 44 = .ok (.iinc 7 1, 3) := by decide +kernel
theorem dMa_sourcesOf_47 : decode cMa_sourcesOf 47 = .ok (.goto (-39), 3) := by decide +kernel
theorem dMa_sourcesOf_50 : decode cMa_sourcesOf 50 = .ok (.lload_n 3, 1) := by decide +kernel
theorem dMa_sourcesOf_51 : decode cMa_sourcesOf 51 = .ok (.lreturn, 1) := by decide +kernel
theorem dFa_count_0 : decode cFa_count 0 = .ok (.aload_n 0, 1) := by decide +kernel
theorem dFa_count_1 : decode cFa_count 1 = .ok (.getfield 15, 3) := by decide +kernel
theorem dFa_count_4 : decode cFa_count 4 = .ok (.ireturn, 1) := by decide +kernel
theorem dFa_goal_0 : decode cFa_goal 0 = .ok (.aload_n 0, 1) := by decide +kernel
theorem dFa_goal_1 : decode cFa_goal 1 = .ok (.getfield 9, 3) := by decide +kernel
theorem dFa_goal_4 : decode cFa_goal 4 = .ok (.iload_n 1, 1) := by decide +kernel
theorem dFa_goal_5 : decode cFa_goal 5 = .ok (.laload, 1) := by decide +kernel
theorem dFa_goal_6 : decode cFa_goal 6 = .ok (.lreturn, 1) := by decide +kernel
theorem dMa_reaching_0 : decode cMa_reaching 0 = .ok (.lload_n 1, 1) := by decide +kernel
theorem dMa_reaching_1 : decode cMa_reaching 1 = .ok (.lstore 5, 2) := by decide +kernel
theorem dMa_reaching_3 : decode cMa_reaching 3 = .ok (.lload_n 1, 1) := by decide +kernel
theorem dMa_reaching_4 : decode cMa_reaching 4 = .ok (.lstore 7, 2) := by decide +kernel
theorem dMa_reaching_6 : decode cMa_reaching 6 = .ok (.iconst 0, 1) := by decide +kernel
theorem dMa_reaching_7 : decode cMa_reaching 7 = .ok (.istore 9, 2) := by decide +kernel
theorem dMa_reaching_9 : decode cMa_reaching 9 = .ok (.iload 9, 2) := by decide +kernel
theorem dMa_reaching_11 : decode cMa_reaching 11 = .ok (.bipush 64, 2) := by decide +kernel
theorem dMa_reaching_13 : decode cMa_reaching 13 = .ok (.if_icmp .ge 40, 3) := by decide +kernel
theorem dMa_reaching_16 : decode cMa_reaching 16 = .ok (.lload 7, 2) := by decide +kernel
theorem dMa_reaching_18 : decode cMa_reaching 18 = .ok (.lconst 0, 1) := by decide +kernel
theorem dMa_reaching_19 : decode cMa_reaching 19 = .ok (.lcmp, 1) := by decide +kernel
theorem dMa_reaching_20 : decode cMa_reaching 20 = .ok (.ifCond .eq 33, 3) := by decide +kernel
theorem dMa_reaching_23 : decode cMa_reaching 23 = .ok (.aload_n 0, 1) := by decide +kernel
theorem dMa_reaching_24 : decode cMa_reaching 24 = .ok (.lload 7, 2) := by decide +kernel
theorem dMa_reaching_26 : decode cMa_reaching 26 = .ok (.invokevirtual 43, 3) := by decide +kernel
theorem dMa_reaching_29 : decode cMa_reaching 29 = .ok (.lload_n 3, 1) := by decide +kernel
theorem dMa_reaching_30 : decode cMa_reaching 30 = .ok (.land, 1) := by decide +kernel
theorem dMa_reaching_31 : decode cMa_reaching 31 = .ok (.lload 5, 2) := by decide +kernel
theorem dMa_reaching_33 : decode cMa_reaching 33 = .ok (.ldc2_w 47, 3) := by decide +kernel
theorem dMa_reaching_36 : decode cMa_reaching 36 = .ok (.lxor, 1) := by decide +kernel
theorem dMa_reaching_37 : decode cMa_reaching 37 = .ok (.land, 1) := by decide +kernel
theorem dMa_reaching_38 : decode cMa_reaching 38 = .ok (.lstore 7, 2) := by decide +kernel
theorem dMa_reaching_40 : decode cMa_reaching 40 = .ok (.lload 5, 2) := by decide +kernel
theorem dMa_reaching_42 : decode cMa_reaching 42 = .ok (.lload 7, 2) := by decide +kernel
theorem dMa_reaching_44 : decode cMa_reaching 44 = .ok (.lor, 1) := by decide +kernel
theorem dMa_reaching_45 : decode cMa_reaching 45 = .ok (.lstore 5, 2) := by decide +kernel
theorem dMa_reaching_47 : decode cMa_reaching 47 = .ok (.iinc 9 1, 3) := by decide +kernel
theorem dMa_reaching_50 : decode cMa_reaching 50 = .ok (.goto (-41), 3) := by decide +kernel
theorem dMa_reaching_53 : decode cMa_reaching 53 = .ok (.lload 5, 2) := by decide +kernel
theorem dMa_reaching_55 : decode cMa_reaching 55 = .ok (.lreturn, 1) := by decide +kernel
theorem dJu_fairStates_0 : decode cJu_fairStates 0 = .ok (.aload_n 0, 1) := by decide +kernel
theorem dJu_fairStates_1 : decode cJu_fairStates 1 = .ok (.getfield 41, 3) := by decide +kernel
theorem dJu_fairStates_4 : decode cJu_fairStates 4 = .ok (.lreturn, 1) := by decide +kernel
