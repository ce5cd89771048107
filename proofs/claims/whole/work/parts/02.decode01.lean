/-! decode rows, by a program of mine. -/
theorem dWw_loop_0 : decode cWw_loop 0 = .ok (.aload_n 0, 1) := by decide +kernel
theorem dWw_loop_1 : decode cWw_loop 1 = .ok (.getfield 42, 3) := by decide +kernel
theorem dWw_loop_4 : decode cWw_loop 4 = .ok (.invokevirtual 171, 3) := by decide +kernel
theorem dWw_loop_7 : decode cWw_loop 7 = .ok (.ireturn, 1) := by decide +kernel
theorem dPa_loopStart_0 : decode cPa_loopStart 0 = .ok (.aload_n 0, 1) := by decide +kernel
theorem dPa_loopStart_1 : decode cPa_loopStart 1 = .ok (.getfield 15, 3) := by decide +kernel
theorem dPa_loopStart_4 : decode cPa_loopStart 4 = .ok (.ireturn, 1) := by decide +kernel
theorem dLa_move_0 : decode cLa_move 0 = .ok (.aload 6, 2) := by decide +kernel
theorem dLa_move_2 : decode cLa_move 2 = .ok (.iconst 0, 1) := by decide +kernel
theorem dLa_move_3 : decode cLa_move 3 = .ok (.aload_n 0, 1) := by decide +kernel
theorem dLa_move_4 : decode cLa_move 4 = .ok (.iload_n 1, 1) := by decide +kernel
theorem dLa_move_5 : decode cLa_move 5 = .ok (.iload_n 2, 1) := by decide +kernel
theorem dLa_move_6 : decode cLa_move 6 = .ok (.iload_n 3, 1) := by decide +kernel
theorem dLa_move_7 : decode cLa_move 7 = .ok (.iload 4, 2) := by decide +kernel
theorem dLa_move_9 : decode cLa_move 9 = .ok (.iload 5, 2) := by decide +kernel
theorem dLa_move_11 : decode cLa_move 11 = .ok (.invokevirtual 7, 3) := by decide +kernel
theorem dLa_move_14 : decode cLa_move 14 = .ok (.i2l, 1) := by decide +kernel
theorem dLa_move_15 : decode cLa_move 15 = .ok (.lastore, 1) := by decide +kernel
theorem dLa_move_16 : decode cLa_move 16 = .ok (.goto 11, 3) := by decide +kernel
theorem dLa_move_19 : decode cLa_move 19 = .ok (.astore 7, 2) := by decide +kernel
theorem dLa_move_21 : decode cLa_move 21 = .ok (.iconst 1, 1) := by decide +kernel
theorem dLa_move_22 : decode cLa_move 22 = .ok (.ireturn, 1) := by decide +kernel
theorem dLa_move_23 : decode cLa_move 23 = .ok (.astore 7, 2) := by decide +kernel
theorem dLa_move_25 : decode cLa_move 25 = .ok (.iconst 2, 1) := by decide +kernel
theorem dLa_move_26 : decode cLa_move 26 = .ok (.ireturn, 1) := by decide +kernel
theorem dLa_move_27 : decode cLa_move 27 = .ok (.iconst 0, 1) := by decide +kernel
theorem dLa_move_28 : decode cLa_move 28 = .ok (.ireturn, 1) := by decide +kernel
theorem dWw_move_0 : decode cWw_move 0 = .ok (.iload_n 1, 1) := by decide +kernel
theorem dWw_move_1 : decode cWw_move 1 = .ok (.invokestatic 55, 3) := by decide +kernel
theorem dWw_move_4 : decode cWw_move 4 = .ok (.ifCond .eq 33, 3) := by decide +kernel
theorem dWw_move_7 : decode cWw_move 7 = .ok (.iload_n 2, 1) := by decide +kernel
theorem dWw_move_8 : decode cWw_move 8 = .ok (.invokestatic 55, 3) := by decide +kernel
theorem dWw_move_11 : decode cWw_move 11 = .ok (.ifCond .eq 26, 3) := by decide +kernel
theorem dWw_move_14 : decode cWw_move 14 = .ok (.iload_n 3, 1) := by decide +kernel
theorem dWw_move_15 : decode cWw_move 15 = .ok (.invokestatic 55, 3) := by decide +kernel
theorem dWw_move_18 : decode cWw_move 18 = .ok (.ifCond .eq 19, 3) := by decide +kernel
theorem dWw_move_21 : decode cWw_move 21 = .ok (.iload 4, 2) := by decide +kernel
theorem dWw_move_23 : decode cWw_move 23 = .ok (.invokestatic 55, 3) := by decide +kernel
theorem dWw_move_26 : decode cWw_move 26 = .ok (.ifCond .eq 11, 3) := by decide +kernel
theorem dWw_move_29 : decode cWw_move 29 = .ok (.iload 5, 2) := by decide +kernel
theorem dWw_move_31 : decode cWw_move 31 = .ok (.invokestatic 55, 3) := by decide +kernel
theorem dWw_move_34 : decode cWw_move 34 = .ok (.ifCond .ne 13, 3) := by decide +kernel
theorem dWw_move_37 : decode cWw_move 37 = .ok (.new 59, 3) := by decide +kernel
theorem dWw_move_40 : decode cWw_move 40 = .ok (.dup, 1) := by decide +kernel
theorem dWw_move_41 : decode cWw_move 41 = .ok (.ldc 61, 2) := by decide +kernel
theorem dWw_move_43 : decode cWw_move 43 = .ok (.invokespecial 63, 3) := by decide +kernel
theorem dWw_move_46 : decode cWw_move 46 = .ok (.athrow, 1) := by decide +kernel
theorem dWw_move_47 : decode cWw_move 47 = .ok (.iload_n 3, 1) := by decide +kernel
theorem dWw_move_48 : decode cWw_move 48 = .ok (.iload 4, 2) := by decide +kernel
theorem dWw_move_50 : decode cWw_move 50 = .ok (.iand, 1) := by decide +kernel
theorem dWw_move_51 : decode cWw_move 51 = .ok (.ifCond .eq 13, 3) := by decide +kernel
theorem dWw_move_54 : decode cWw_move 54 = .ok (.new 59, 3) := by decide +kernel
theorem dWw_move_57 : decode cWw_move 57 = .ok (.dup, 1) := by decide +kernel
theorem dWw_move_58 : decode cWw_move 58 = .ok (.ldc 66, 2) := by decide +kernel
theorem dWw_move_60 : decode cWw_move 60 = .ok (.invokespecial 63, 3) := by decide +kernel
theorem dWw_move_63 : decode cWw_move 63 = .ok (.athrow, 1) := by decide +kernel
theorem dWw_move_64 : decode cWw_move 64 = .ok (.aload_n 0, 1) := by decide +kernel
theorem dWw_move_65 : decode cWw_move 65 = .ok (.getfield 10, 3) := by decide +kernel
theorem dWw_move_68 : decode cWw_move 68 = .ok (.invokevirtual 68, 3) := by decide +kernel
theorem dWw_move_71 : decode cWw_move 71 = .ok (.ifCond .eq 13, 3) := by decide +kernel
theorem dWw_move_74 : decode cWw_move 74 = .ok (.new 72, 3) := by decide +kernel
theorem dWw_move_77 : decode cWw_move 77 = .ok (.dup, 1) := by decide +kernel
theorem dWw_move_78 : decode cWw_move 78 = .ok (.ldc 74, 2) := by decide +kernel
theorem dWw_move_80 : decode cWw_move 80 = .ok (.invokespecial 76, 3) := by decide +kernel
theorem dWw_move_83 : decode cWw_move 83 = .ok (.athrow, 1) := by decide +kernel
theorem dWw_move_84 : decode cWw_move 84 = .ok (.aload_n 0, 1) := by decide +kernel
theorem dWw_move_85 : decode cWw_move 85 = .ok (.getfield 35, 3) := by decide +kernel
theorem dWw_move_88 : decode cWw_move 88 = .ok (.invokevirtual 77, 3) := by decide +kernel
theorem dWw_move_91 : decode cWw_move 91 = .ok (.aload_n 0, 1) := by decide +kernel
theorem dWw_move_92 : decode cWw_move 92 = .ok (.getfield 10, 3) := by decide +kernel
theorem dWw_move_95 : decode cWw_move 95 = .ok (.iload_n 1, 1) := by decide +kernel
theorem dWw_move_96 : decode cWw_move 96 = .ok (.iload_n 2, 1) := by decide +kernel
theorem dWw_move_97 : decode cWw_move 97 = .ok (.iload_n 3, 1) := by decide +kernel
theorem dWw_move_98 : decode cWw_move 98 = .ok (.iload 4, 2) := by decide +kernel
theorem dWw_move_100 : decode cWw_move 100 = .ok (.iload 5, 2) := by decide +kernel
theorem dWw_move_102 : decode cWw_move 102 = .ok (.invokevirtual 80, 3) := by decide +kernel
theorem dWw_move_105 : decode cWw_move 105 = .ok (.ireturn, 1) := by decide +kernel
theorem dWw_isMask_0 : decode cWw_isMask 0 = .ok (.iload_n 0, 1) := by decide +kernel
theorem dWw_isMask_1 : decode cWw_isMask 1 = .ok (.ifCond .lt 13, 3) := by decide +kernel
theorem dWw_isMask_4 : decode cWw_isMask 4 = .ok (.iload_n 0, 1) := by decide +kernel
theorem dWw_isMask_5 : decode cWw_isMask 5 = .ok (.bipush 64, 2) := by decide +kernel
theorem dWw_isMask_7 : decode cWw_isMask 7 = .ok (.if_icmp .ge 7, 3) := by decide +kernel
theorem dWw_isMask_10 : decode cWw_isMask 10 = .ok (.iconst 1, 1) := by decide +kernel
theorem dWw_isMask_11 : decode cWw_isMask 11 = .ok (.goto 4, 3) := by decide +kernel
theorem dWw_isMask_14 : decode cWw_isMask 14 = .ok (.iconst 0, 1) := by decide +kernel
theorem dWw_isMask_15 : decode cWw_isMask 15 = .ok (.ireturn, 1) := by decide +kernel
theorem dMa_isFull_0 : decode cMa_isFull 0 = .ok (.aload_n 0, 1) := by decide +kernel
theorem dMa_isFull_1 : decode cMa_isFull 1 = .ok (.getfield 21, 3) := by decide +kernel
theorem dMa_isFull_4 : decode cMa_isFull 4 = .ok (.bipush 16, 2) := by decide +kernel
theorem dMa_isFull_6 : decode cMa_isFull 6 = .ok (.if_icmp .lt 7, 3) := by decide +kernel
theorem dMa_isFull_9 : decode cMa_isFull 9 = .ok (.iconst 1, 1) := by decide +kernel
theorem dMa_isFull_10 : decode cMa_isFull 10 = .ok (.goto 4, 3) := by decide +kernel
theorem dMa_isFull_13 : decode cMa_isFull 13 = .ok (.iconst 0, 1) := by decide +kernel
theorem dMa_isFull_14 : decode cMa_isFull 14 = .ok (.ireturn, 1) := by decide +kernel
theorem dMa_add_0 : decode cMa_add 0 = .ok (.iconst 0, 1) := by decide +kernel
theorem dMa_add_1 : decode cMa_add 1 = .ok (.istore 6, 2) := by decide +kernel
theorem dMa_add_3 : decode cMa_add 3 = .ok (.iload 6, 2) := by decide +kernel
theorem dMa_add_5 : decode cMa_add 5 = .ok (.bipush 64, 2) := by decide +kernel
theorem dMa_add_7 : decode cMa_add 7 = .ok (.if_icmp .ge 53, 3) := by decide +kernel
theorem dMa_add_10 : decode cMa_add 10 = .ok (.iload 6, 2) := by decide +kernel
theorem dMa_add_12 : decode cMa_add 12 = .ok (.iload_n 1, 1) := by decide +kernel
theorem dMa_add_13 : decode cMa_add 13 = .ok (.iand, 1) := by decide +kernel
theorem dMa_add_14 : decode cMa_add 14 = .ok (.iload_n 1, 1) := by decide +kernel
theorem dMa_add_15 : decode cMa_add 15 = .ok (.if_icmp .ne 39, 3) := by decide +kernel
theorem dMa_add_18 : decode cMa_add 18 = .ok (.iload 6, 2) := by decide +kernel
theorem dMa_add_20 : decode cMa_add 20 = .ok (.iload_n 2, 1) := by decide +kernel
theorem dMa_add_21 : decode cMa_add 21 = .ok (.iand, 1) := by decide +kernel
theorem dMa_add_22 : decode cMa_add 22 = .ok (.ifCond .ne 32, 3) := by decide +kernel
theorem dMa_add_25 : decode cMa_add 25 = .ok (.aload_n 0, 1) := by decide +kernel
theorem dMa_add_26 : decode cMa_add 26 = .ok (.getfield 9, 3) := by decide +kernel
theorem dMa_add_29 : decode cMa_add 29 = .ok (.iload 6, 2) := by decide +kernel
theorem dMa_add_31 : decode cMa_add 31 = .ok (.dup2, 1) := by decide +kernel
theorem dMa_add_32 : decode cMa_add 32 = .ok (.laload, 1) := by decide +kernel
theorem dMa_add_33 : decode cMa_add 33 = .ok (.iload 6, 2) := by decide +kernel
theorem dMa_add_35 : decode cMa_add 35 = .ok (.iload_n 3, 1) := by decide +kernel
theorem dMa_add_36 : decode cMa_add 36 = .ok (.ior, 1) := by decide +kernel
theorem dMa_add_37 : decode cMa_add 37 = .ok (.iload 4, 2) := by decide +kernel
theorem dMa_add_39 : decode cMa_add 39 = .ok (.iconst (-1), 1) := by decide +kernel
theorem dMa_add_40 : decode cMa_add 40 = .ok (.ixor, 1) := by decide +kernel
theorem dMa_add_41 : decode cMa_add 41 = .ok (.iand, 1) := by decide +kernel
theorem dMa_add_42 : decode cMa_add 42 = .ok (.iload 5, 2) := by decide +kernel
theorem dMa_add_44 : decode cMa_add 44 = .ok (.iconst (-1), 1) := by decide +kernel
theorem dMa_add_45 : decode cMa_add 45 = .ok (.ixor, 1) := by decide +kernel
theorem dMa_add_46 : decode cMa_add 46 = .ok (.iand, 1) := by decide +kernel
theorem dMa_add_47 : decode cMa_add 47 = .ok (.iload 5, 2) := by decide +kernel
theorem dMa_add_49 : decode cMa_add 49 = .ok (.invokestatic 25, 3) := by decide +kernel
theorem dMa_add_52 : decode cMa_add 52 = .ok (.lor, 1) := by decide +kernel
theorem dMa_add_53 : decode cMa_add 53 = .ok (.lastore, 1) := by decide +kernel
theorem dMa_add_54 : decode cMa_add 54 = .ok (.iinc 6 1, 3) := by decide +kernel
theorem dMa_add_57 : decode cMa_add 57 = .ok (.goto (-54), 3) := by decide +kernel
theorem dMa_add_60 : decode cMa_add 60 = .ok (.aload_n 0, 1) := by decide +kernel
theorem dMa_add_61 : decode cMa_add 61 = .ok (.invokevirtual 18, 3) := by decide +kernel
theorem dMa_add_64 : decode cMa_add 64 = .ok (.aload_n 0, 1) := by decide +kernel
theorem dMa_add_65 : decode cMa_add 65 = .ok (.dup, 1) := by decide +kernel
theorem dMa_add_66 : decode cMa_add 66 = .ok (.getfield 21, 3) := by decide +kernel
theorem dMa_add_69 : decode cMa_add 69 = .ok (.iconst 1, 1) := by decide +kernel
theorem dMa_add_70 : decode cMa_add 70 = .ok (.iadd, 1) := by decide +kernel
theorem dMa_add_71 : decode cMa_add 71 = .ok (.putfield 21, 3) := by decide +kernel
theorem dMa_add_74 : decode cMa_add 74 = .ok (.aload_n 0, 1) := by decide +kernel
theorem dMa_add_75 : decode cMa_add 75 = .ok (.getfield 21, 3) := by decide +kernel
theorem dMa_add_78 : decode cMa_add 78 = .ok (.ireturn, 1) := by decide +kernel
theorem dMa_spread_0 : decode cMa_spread 0 = .ok (.lconst 1, 1) := by decide +kernel
theorem dMa_spread_1 : decode cMa_spread 1 = .ok (.iload_n 0, 1) := by decide +kernel
theorem dMa_spread_2 : decode cMa_spread 2 = .ok (.lshl, 1) := by decide +kernel
theorem dMa_spread_3 : decode cMa_spread 3 = .ok (.lstore_n 2, 1) := by decide +kernel
theorem dMa_spread_4 : decode cMa_spread 4 = .ok (.iconst 0, 1) := by decide +kernel
theorem dMa_spread_5 : decode cMa_spread 5 = .ok (.istore 4, 2) := by decide +kernel
theorem dMa_spread_7 : decode cMa_spread 7 = .ok (.iload 4, 2) := by decide +kernel
theorem dMa_spread_9 : decode cMa_spread 9 = .ok (.bipush 6, 2) := by decide +kernel
theorem dMa_spread_11 : decode cMa_spread 11 = .ok (.if_icmp .ge 29, 3) := by decide +kernel
theorem dMa_spread_14 : decode cMa_spread 14 = .ok (.iconst 1, 1) := by decide +kernel
theorem dMa_spread_15 : decode cMa_spread 15 = .ok (.iload 4, 2) := by decide +kernel
theorem dMa_spread_17 : decode cMa_spread 17 = .ok (.ishl, 1) := by decide +kernel
theorem dMa_spread_18 : decode cMa_spread 18 = .ok (.istore 5, 2) := by decide +kernel
theorem dMa_spread_20 : decode cMa_spread 20 = .ok (.iload_n 1, 1) := by decide +kernel
theorem dMa_spread_21 : decode cMa_spread 21 = .ok (.iload 5, 2) := by decide +kernel
theorem dMa_spread_23 : decode cMa_spread 23 = .ok (.iand, 1) := by decide +kernel
theorem dMa_spread_24 : decode cMa_spread 24 = .ok (.ifCond .eq 10, 3) := by decide +kernel
theorem dMa_spread_27 : decode cMa_spread 27 = .ok (.lload_n 2, 1) := by decide +kernel
theorem dMa_spread_28 : decode cMa_spread 28 = .ok (.lload_n 2, 1) := by decide +kernel
theorem dMa_spread_29 : decode cMa_spread 29 = .ok (.iload 5, 2) := by decide +kernel
theorem dMa_spread_31 : decode cMa_spread 31 = .ok (.lshl, 1) := by decide +kernel
theorem dMa_spread_32 : decode cMa_spread 32 = .ok (.lor, 1) := by decide +kernel
theorem dMa_spread_33 : decode cMa_spread 33 = .ok (.lstore_n 2, 1) := by decide +kernel
theorem dMa_spread_34 : decode cMa_spread 34 = .ok (.iinc 4 1, 3) := by decide +kernel
theorem dMa_spread_37 : decode cMa_spread 37 = .ok (.goto (-30), 3) := by decide +kernel
theorem dMa_spread_40 : decode cMa_spread 40 = .ok (.lload_n 2, 1) := by decide +kernel
theorem dMa_spread_41 : decode cMa_spread 41 = .ok (.lreturn, 1) := by decide +kernel
theorem dLa_followers_0 : decode cLa_followers 0 = .ok (.aload_n 2, 1) := by decide +kernel
theorem dLa_followers_1 : decode cLa_followers 1 = .ok (.iconst 0, 1) := by decide +kernel
theorem dLa_followers_2 : decode cLa_followers 2 = .ok (.aload_n 0, 1) := by decide +kernel
theorem dLa_followers_3 : decode cLa_followers 3 = .ok (.iload_n 1, 1) := by decide +kernel
theorem dLa_followers_4 : decode cLa_followers 4 = .ok (.invokevirtual 17, 3) := by decide +kernel
theorem dLa_followers_7 : decode cLa_followers 7 = .ok (.lastore, 1) := by decide +kernel
theorem dLa_followers_8 : decode cLa_followers 8 = .ok (.goto 6, 3) := by decide +kernel
theorem dLa_followers_11 : decode cLa_followers 11 = .ok (.astore_n 3, 1) := by decide +kernel
theorem dLa_followers_12 : decode cLa_followers 12 = .ok (.iconst 1, 1) := by decide +kernel
theorem dLa_followers_13 : decode cLa_followers 13 = .ok (.ireturn, 1) := by decide +kernel
theorem dLa_followers_14 : decode cLa_followers 14 = .ok (.iconst 0, 1) := by decide +kernel
theorem dLa_followers_15 : decode cLa_followers 15 = .ok (.ireturn, 1) := by decide +kernel
theorem dWw_followers_0 : decode cWw_followers 0 = .ok (.iload_n 1, 1) := by decide +kernel
theorem dWw_followers_1 : decode cWw_followers 1 = .ok (.invokestatic 84, 3) := by decide +kernel
theorem dWw_followers_4 : decode cWw_followers 4 = .ok (.ifCond .ne 13, 3) := by decide +kernel
theorem dWw_followers_7 : decode cWw_followers 7 = .ok (.new 59, 3) := by decide +kernel
theorem dWw_followers_10 : decode cWw_followers 10 = .ok (.dup, 1) := by decide +kernel
theorem dWw_followers_11 : decode cWw_followers 11 = .ok (.ldc 87, 2) := by decide +kernel
theorem dWw_followers_13 : decode cWw_followers 13 = .ok (.invokespecial 63, 3) := by decide +kernel
theorem dWw_followers_16 : decode cWw_followers 16 = .ok (.athrow, 1) := by decide +kernel
theorem dWw_followers_17 : decode cWw_followers 17 = .ok (.aload_n 0, 1) := by decide +kernel
theorem dWw_followers_18 : decode cWw_followers 18 = .ok (.getfield 10, 3) := by decide +kernel
theorem dWw_followers_21 : decode cWw_followers 21 = .ok (.iload_n 1, 1) := by decide +kernel
theorem dWw_followers_22 : decode cWw_followers 22 = .ok (.invokevirtual 89, 3) := by decide +kernel
theorem dWw_followers_25 : decode cWw_followers 25 = .ok (.lreturn, 1) := by decide +kernel
theorem dWw_isState_0 : decode cWw_isState 0 = .ok (.iload_n 0, 1) := by decide +kernel
theorem dWw_isState_1 : decode cWw_isState 1 = .ok (.ifCond .lt 13, 3) := by decide +kernel
theorem dWw_isState_4 : decode cWw_isState 4 = .ok (.iload_n 0, 1) := by decide +kernel
theorem dWw_isState_5 : decode cWw_isState 5 = .ok (.bipush 64, 2) := by decide +kernel
theorem dWw_isState_7 : decode cWw_isState 7 = .ok (.if_icmp .ge 7, 3) := by decide +kernel
theorem dWw_isState_10 : decode cWw_isState 10 = .ok (.iconst 1, 1) := by decide +kernel
theorem dWw_isState_11 : decode cWw_isState 11 = .ok (.goto 4, 3) := by decide +kernel
theorem dWw_isState_14 : decode cWw_isState 14 = .ok (.iconst 0, 1) := by decide +kernel
theorem dWw_isState_15 : decode cWw_isState 15 = .ok (.ireturn, 1) := by decide +kernel
theorem dLa_formula_0 : decode cLa_formula 0 = .ok (.aload 4, 2) := by decide +kernel
theorem dLa_formula_2 : decode cLa_formula 2 = .ok (.iconst 0, 1) := by decide +kernel
theorem dLa_formula_3 : decode cLa_formula 3 = .ok (.aload_n 0, 1) := by decide +kernel
theorem dLa_formula_4 : decode cLa_formula 4 = .ok (.iload_n 1, 1) := by decide +kernel
theorem dLa_formula_5 : decode cLa_formula 5 = .ok (.iload_n 2, 1) := by decide +kernel
theorem dLa_formula_6 : decode cLa_formula 6 = .ok (.iload_n 3, 1) := by decide +kernel
theorem dLa_formula_7 : decode cLa_formula 7 = .ok (.invokevirtual 21, 3) := by decide +kernel
theorem dLa_formula_10 : decode cLa_formula 10 = .ok (.i2l, 1) := by decide +kernel
theorem dLa_formula_11 : decode cLa_formula 11 = .ok (.lastore, 1) := by decide +kernel
theorem dLa_formula_12 : decode cLa_formula 12 = .ok (.goto 11, 3) := by decide +kernel
theorem dLa_formula_15 : decode cLa_formula 15 = .ok (.astore 5, 2) := by decide +kernel
theorem dLa_formula_17 : decode cLa_formula 17 = .ok (.iconst 1, 1) := by decide +kernel
theorem dLa_formula_18 : decode cLa_formula 18 = .ok (.ireturn, 1) := by decide +kernel
theorem dLa_formula_19 : decode cLa_formula 19 = .ok (.astore 5, 2) := by decide +kernel
theorem dLa_formula_21 : decode cLa_formula 21 = .ok (.iconst 2, 1) := by decide +kernel
theorem dLa_formula_22 : decode cLa_formula 22 = .ok (.ireturn, 1) := by decide +kernel
theorem dLa_formula_23 : decode cLa_formula 23 = .ok (.iconst 0, 1) := by decide +kernel
theorem dLa_formula_24 : decode cLa_formula 24 = .ok (.ireturn, 1) := by decide +kernel
theorem dWw_formula_0 : decode cWw_formula 0 = .ok (.aload_n 0, 1) := by decide +kernel
theorem dWw_formula_1 : decode cWw_formula 1 = .ok (.getfield 19, 3) := by decide +kernel
theorem dWw_formula_4 : decode cWw_formula 4 = .ok (.iload_n 1, 1) := by decide +kernel
theorem dWw_formula_5 : decode cWw_formula 5 = .ok (.iload_n 2, 1) := by decide +kernel
theorem dWw_formula_6 : decode cWw_formula 6 = .ok (.iload_n 3, 1) := by decide +kernel
theorem dWw_formula_7 : decode cWw_formula 7 = .ok (.invokevirtual 93, 3) := by decide +kernel
theorem dWw_formula_10 : decode cWw_formula 10 = .ok (.ifCond .ne 13, 3) := by decide +kernel
theorem dWw_formula_13 : decode cWw_formula 13 = .ok (.new 59, 3) := by decide +kernel
theorem dWw_formula_16 : decode cWw_formula 16 = .ok (.dup, 1) := by decide +kernel
theorem dWw_formula_17 : decode cWw_formula 17 = .ok (.ldc 97, 2) := by decide +kernel
theorem dWw_formula_19 : decode cWw_formula 19 = .ok (.invokespecial 63, 3) := by decide +kernel
theorem dWw_formula_22 : decode cWw_formula 22 = .ok (.athrow, 1) := by decide +kernel
theorem dWw_formula_23 : decode cWw_formula 23 = .ok (.aload_n 0, 1) := by decide +kernel
theorem dWw_formula_24 : decode cWw_formula 24 = .ok (.getfield 19, 3) := by decide +kernel
theorem dWw_formula_27 : decode cWw_formula 27 = .ok (.invokevirtual 99, 3) := by decide +kernel
theorem dWw_formula_30 : decode cWw_formula 30 = .ok (.ifCond .eq 13, 3) := by decide +kernel
theorem dWw_formula_33 : decode cWw_formula 33 = .ok (.new 72, 3) := by decide +kernel
theorem dWw_formula_36 : decode cWw_formula 36 = .ok (.dup, 1) := by decide +kernel
theorem dWw_formula_37 : decode cWw_formula 37 = .ok (.ldc 100, 2) := by decide +kernel
theorem dWw_formula_39 : decode cWw_formula 39 = .ok (.invokespecial 76, 3) := by decide +kernel
theorem dWw_formula_42 : decode cWw_formula 42 = .ok (.athrow, 1) := by decide +kernel
theorem dWw_formula_43 : decode cWw_formula 43 = .ok (.aload_n 0, 1) := by decide +kernel
theorem dWw_formula_44 : decode cWw_formula 44 = .ok (.getfield 19, 3) := by decide +kernel
theorem dWw_formula_47 : decode cWw_formula 47 = .ok (.iload_n 1, 1) := by decide +kernel
theorem dWw_formula_48 : decode cWw_formula 48 = .ok (.iload_n 2, 1) := by decide +kernel
theorem dWw_formula_49 : decode cWw_formula 49 = .ok (.iload_n 3, 1) := by decide +kernel
theorem dWw_formula_50 : decode cWw_formula 50 = .ok (.invokevirtual 102, 3) := by decide +kernel
theorem dWw_formula_53 : decode cWw_formula 53 = .ok (.ireturn, 1) := by decide +kernel
theorem dFo_canBeMade_0 : decode cFo_canBeMade 0 = .ok (.iload_n 1, 1) := by decide +kernel
theorem dFo_canBeMade_1 : decode cFo_canBeMade 1 = .ok (.ifCond .lt 9, 3) := by decide +kernel
theorem dFo_canBeMade_4 : decode cFo_canBeMade 4 = .ok (.iload_n 1, 1) := by decide +kernel
theorem dFo_canBeMade_5 : decode cFo_canBeMade 5 = .ok (.bipush 12, 2) := by decide +kernel
theorem dFo_canBeMade_7 : decode cFo_canBeMade 7 = .ok (.if_icmp .le 5, 3) := by decide +kernel
theorem dFo_canBeMade_10 : decode cFo_canBeMade 10 = .ok (.iconst 0, 1) := by decide +kernel
theorem dFo_canBeMade_11 : decode cFo_canBeMade 11 = .ok (.ireturn, 1) := by decide +kernel
theorem dFo_canBeMade_12 : decode cFo_canBeMade 12 = .ok (.iload_n 1, 1) := by decide +kernel
theorem dFo_canBeMade_13 : decode cFo_canBeMade 13 = .ok (.ifCond .ne 19, 3) := by decide +kernel
theorem dFo_canBeMade_16 : decode cFo_canBeMade 16 = .ok (.iload_n 2, 1) := by decide +kernel
theorem dFo_canBeMade_17 : decode cFo_canBeMade 17 = .ok (.ifCond .lt 13, 3) := by decide +kernel
theorem dFo_canBeMade_20 : decode cFo_canBeMade 20 = .ok (.iload_n 2, 1) := by decide +kernel
theorem dFo_canBeMade_21 : decode cFo_canBeMade 21 = .ok (.bipush 6, 2) := by decide +kernel
theorem dFo_canBeMade_23 : decode cFo_canBeMade 23 = .ok (.if_icmp .ge 7, 3) := by decide +kernel
theorem dFo_canBeMade_26 : decode cFo_canBeMade 26 = .ok (.iconst 1, 1) := by decide +kernel
theorem dFo_canBeMade_27 : decode cFo_canBeMade 27 = .ok (.goto 4, 3) := by decide +kernel
theorem dFo_canBeMade_30 : decode cFo_canBeMade 30 = .ok (.iconst 0, 1) := by decide +kernel
theorem dFo_canBeMade_31 : decode cFo_canBeMade 31 = .ok (.ireturn, 1) := by decide +kernel
theorem dFo_canBeMade_32 : decode cFo_canBeMade 32 = .ok (.iload_n 1, 1) := by decide +kernel
theorem dFo_canBeMade_33 : decode cFo_canBeMade 33 = .ok (.iconst 1, 1) := by decide +kernel
theorem dFo_canBeMade_34 : decode cFo_canBeMade 34 = .ok (.if_icmp .eq 11, 3) := by decide +kernel
theorem dFo_canBeMade_37 : decode cFo_canBeMade 37 = .ok (.aload_n 0, 1) := by decide +kernel
theorem dFo_canBeMade_38 : decode cFo_canBeMade 38 = .ok (.iload_n 2, 1) := by decide +kernel
theorem dFo_canBeMade_39 : decode cFo_canBeMade 39 = .ok (.invokevirtual 29, 3) := by decide +kernel
theorem dFo_canBeMade_42 : decode cFo_canBeMade 42 = .ok (.ifCond .eq 22, 3) := by decide +kernel
theorem dFo_canBeMade_45 : decode cFo_canBeMade 45 = .ok (.iload_n 1, 1) := by decide +kernel
theorem dFo_canBeMade_46 : decode cFo_canBeMade 46 = .ok (.invokestatic 33, 3) := by decide +kernel
theorem dFo_canBeMade_49 : decode cFo_canBeMade 49 = .ok (.ifCond .eq 11, 3) := by decide +kernel
theorem dFo_canBeMade_52 : decode cFo_canBeMade 52 = .ok (.aload_n 0, 1) := by decide +kernel
theorem dFo_canBeMade_53 : decode cFo_canBeMade 53 = .ok (.iload_n 3, 1) := by decide +kernel
theorem dFo_canBeMade_54 : decode cFo_canBeMade 54 = .ok (.invokevirtual 29, 3) := by decide +kernel
theorem dFo_canBeMade_57 : decode cFo_canBeMade 57 = .ok (.ifCond .eq 7, 3) := by decide +kernel
theorem dFo_canBeMade_60 : decode cFo_canBeMade 60 = .ok (.iconst 1, 1) := by decide +kernel
theorem dFo_canBeMade_61 : decode cFo_canBeMade 61 = .ok (.goto 4, 3) := by decide +kernel
theorem dFo_canBeMade_64 : decode cFo_canBeMade 64 = .ok (.iconst 0, 1) := by decide +kernel
theorem dFo_canBeMade_65 : decode cFo_canBeMade 65 = .ok (.ireturn, 1) := by decide +kernel
theorem dFo_has_0 : decode cFo_has 0 = .ok (.iload_n 1, 1) := by decide +kernel
theorem dFo_has_1 : decode cFo_has 1 = .ok (.ifCond .lt 15, 3) := by decide +kernel
theorem dFo_has_4 : decode cFo_has 4 = .ok (.iload_n 1, 1) := by decide +kernel
theorem dFo_has_5 : decode cFo_has 5 = .ok (.aload_n 0, 1) := by decide +kernel
theorem dFo_has_6 : decode cFo_has 6 = .ok (.getfield 25, 3) := by decide +kernel
theorem dFo_has_9 : decode cFo_has 9 = .ok (.if_icmp .ge 7, 3) := by decide +kernel
theorem dFo_has_12 : decode cFo_has 12 = .ok (.iconst 1, 1) := by decide +kernel
theorem dFo_has_13 : decode cFo_has 13 = .ok (.goto 4, 3) := by decide +kernel
theorem dFo_has_16 : decode cFo_has 16 = .ok (.iconst 0, 1) := by decide +kernel
theorem dFo_has_17 : decode cFo_has 17 = .ok (.ireturn, 1) := by decide +kernel
theorem dFo_usesSecond_0 : decode cFo_usesSecond 0 = .ok (.iload_n 0, 1) := by decide +kernel
theorem dFo_usesSecond_1 : decode cFo_usesSecond 1 = .ok (.iconst 3, 1) := by decide +kernel
theorem dFo_usesSecond_2 : decode cFo_usesSecond 2 = .ok (.if_icmp .eq 20, 3) := by decide +kernel
theorem dFo_usesSecond_5 : decode cFo_usesSecond 5 = .ok (.iload_n 0, 1) := by decide +kernel
theorem dFo_usesSecond_6 : decode cFo_usesSecond 6 = .ok (.iconst 4, 1) := by decide +kernel
theorem dFo_usesSecond_7 : decode cFo_usesSecond 7 = .ok (.if_icmp .eq 15, 3) := by decide +kernel
theorem dFo_usesSecond_10 : decode cFo_usesSecond 10 = .ok (.iload_n 0, 1) := by decide +kernel
theorem dFo_usesSecond_11 : decode cFo_usesSecond 11 = .ok (.bipush 6, 2) := by decide +kernel
theorem dFo_usesSecond_13 : decode cFo_usesSecond 13 = .ok (.if_icmp .eq 9, 3) := by decide +kernel
theorem dFo_usesSecond_16 : decode cFo_usesSecond 16 = .ok (.iload_n 0, 1) := by decide +kernel
theorem dFo_usesSecond_17 : decode cFo_usesSecond 17 = .ok (.bipush 10, 2) := by decide +kernel
theorem dFo_usesSecond_19 : decode cFo_usesSecond 19 = .ok (.if_icmp .ne 7, 3) := by decide +kernel
theorem dFo_usesSecond_22 : decode cFo_usesSecond 22 = .ok (.iconst 1, 1) := by decide +kernel
theorem dFo_usesSecond_23 : decode cFo_usesSecond 23 = .ok (.goto 4, 3) := by decide +kernel
theorem dFo_usesSecond_26 : decode cFo_usesSecond 26 = .ok (.iconst 0, 1) := by decide +kernel
theorem dFo_usesSecond_27 : decode cFo_usesSecond 27 = .ok (.ireturn, 1) := by decide +kernel
theorem dFo_isFull_0 : decode cFo_isFull 0 = .ok (.aload_n 0, 1) := by decide +kernel
theorem dFo_isFull_1 : decode cFo_isFull 1 = .ok (.getfield 25, 3) := by decide +kernel
theorem dFo_isFull_4 : decode cFo_isFull 4 = .ok (.bipush 32, 2) := by decide +kernel
theorem dFo_isFull_6 : decode cFo_isFull 6 = .ok (.if_icmp .lt 7, 3) := by decide +kernel
theorem dFo_isFull_9 : decode cFo_isFull 9 = .ok (.iconst 1, 1) := by decide +kernel
theorem dFo_isFull_10 : decode cFo_isFull 10 = .ok (.goto 4, 3) := by decide +kernel
theorem dFo_isFull_13 : decode cFo_isFull 13 = .ok (.iconst 0, 1) := by decide +kernel
theorem dFo_isFull_14 : decode cFo_isFull 14 = .ok (.ireturn, 1) := by decide +kernel
theorem dFo_add_0 : decode cFo_add 0 = .ok (.aload_n 0, 1) := by decide +kernel
theorem dFo_add_1 : decode cFo_add 1 = .ok (.getfield 25, 3) := by decide +kernel
theorem dFo_add_4 : decode cFo_add 4 = .ok (.istore 4, 2) := by decide +kernel
theorem dFo_add_6 : decode cFo_add 6 = .ok (.aload_n 0, 1) := by decide +kernel
theorem dFo_add_7 : decode cFo_add 7 = .ok (.getfield 9, 3) := by decide +kernel
theorem dFo_add_10 : decode cFo_add 10 = .ok (.iload 4, 2) := by decide +kernel
theorem dFo_add_12 : decode cFo_add 12 = .ok (.iload_n 1, 1) := by decide +kernel
theorem dFo_add_13 : decode cFo_add 13 = .ok (.iastore, 1) := by decide +kernel
theorem dFo_add_14 : decode cFo_add 14 = .ok (.aload_n 0, 1) := by decide +kernel
theorem dFo_add_15 : decode cFo_add 15 = .ok (.getfield 15, 3) := by decide +kernel
theorem dFo_add_18 : decode cFo_add 18 = .ok (.iload 4, 2) := by decide +kernel
theorem dFo_add_20 : decode cFo_add 20 = .ok (.iload_n 1, 1) := by decide +kernel
theorem dFo_add_21 : decode cFo_add 21 = .ok (.iconst 1, 1) := by decide +kernel
theorem dFo_add_22 : decode cFo_add 22 = .ok (.if_icmp .ne 7, 3) := by decide +kernel
theorem dFo_add_25 : decode cFo_add 25 = .ok (.iconst 0, 1) := by decide +kernel
theorem dFo_add_26 : decode cFo_add 26 = .ok (.goto 4, 3) := by decide +kernel
theorem dFo_add_29 : decode cFo_add 29 = .ok (.iload_n 2, 1) := by decide +kernel
theorem dFo_add_30 : decode cFo_add 30 = .ok (.iastore, 1) := by decide +kernel
theorem dFo_add_31 : decode cFo_add 31 = .ok (.aload_n 0, 1) := by decide +kernel
theorem dFo_add_32 : decode cFo_add 32 = .ok (.getfield 18, 3) := by decide +kernel
theorem dFo_add_35 : decode cFo_add 35 = .ok (.iload 4, 2) := by decide +kernel
theorem dFo_add_37 : decode cFo_add 37 = .ok (.iload_n 1, 1) := by decide +kernel
theorem dFo_add_38 : decode cFo_add 38 = .ok (.invokestatic 33, 3) := by decide +kernel
theorem dFo_add_41 : decode cFo_add 41 = .ok (.ifCond .eq 7, 3) := by decide +kernel
theorem dFo_add_44 : decode cFo_add 44 = .ok (.iload_n 3, 1) := by decide +kernel
theorem dFo_add_45 : decode cFo_add 45 = .ok (.goto 4, 3) := by decide +kernel
theorem dFo_add_48 : decode cFo_add 48 = .ok (.iconst 0, 1) := by decide +kernel
theorem dFo_add_49 : decode cFo_add 49 = .ok (.iastore, 1) := by decide +kernel
theorem dFo_add_50 : decode cFo_add 50 = .ok (.aload_n 0, 1) := by decide +kernel
theorem dFo_add_51 : decode cFo_add 51 = .ok (.getfield 21, 3) := by decide +kernel
theorem dFo_add_54 : decode cFo_add 54 = .ok (.iload 4, 2) := by decide +kernel
theorem dFo_add_56 : decode cFo_add 56 = .ok (.aload_n 0, 1) := by decide +kernel
theorem dFo_add_57 : decode cFo_add 57 = .ok (.iload_n 1, 1) := by decide +kernel
theorem dFo_add_58 : decode cFo_add 58 = .ok (.iload_n 2, 1) := by decide +kernel
theorem dFo_add_59 : decode cFo_add 59 = .ok (.iload_n 3, 1) := by decide +kernel
theorem dFo_add_60 : decode cFo_add 60 = .ok (.invokevirtual 36, 3) := by decide +kernel
theorem dFo_add_63 : decode cFo_add 63 = .ok (.bastore, 1) := by decide +kernel
theorem dFo_add_64 : decode cFo_add 64 = .ok (.aload_n 0, 1) := by decide +kernel
theorem dFo_add_65 : decode cFo_add 65 = .ok (.dup, 1) := by decide +kernel
theorem dFo_add_66 : decode cFo_add 66 = .ok (.getfield 25, 3) := by decide +kernel
theorem dFo_add_69 : decode cFo_add 69 = .ok (.iconst 1, 1) := by decide +kernel
theorem dFo_add_70 : decode cFo_add 70 = .ok (.iadd, 1) := by decide +kernel
theorem dFo_add_71 : decode cFo_add 71 = .ok (.putfield 25, 3) := by decide +kernel
theorem dFo_add_74 : decode cFo_add 74 = .ok (.iload 4, 2) := by decide +kernel
theorem dFo_add_76 : decode cFo_add 76 = .ok (.ireturn, 1) := by decide +kernel
theorem dFo_partsArePlain_0 : decode cFo_partsArePlain 0 = .ok (.iload_n 1, 1) := by decide +kernel
theorem dFo_partsArePlain_1 : decode cFo_partsArePlain 1 = .ok (.tableswitch 68 0 4 #[35, 35, 37, 44, 44], 35) := by decide +kernel
theorem dFo_partsArePlain_36 : decode cFo_partsArePlain 36 = .ok (.iconst 1, 1) := by decide +kernel
theorem dFo_partsArePlain_37 : decode cFo_partsArePlain 37 = .ok (.ireturn, 1) := by decide +kernel
theorem dFo_partsArePlain_38 : decode cFo_partsArePlain 38 = .ok (.aload_n 0, 1) := by decide +kernel
theorem dFo_partsArePlain_39 : decode cFo_partsArePlain 39 = .ok (.getfield 21, 3) := by decide +kernel
theorem dFo_partsArePlain_42 : decode cFo_partsArePlain 42 = .ok (.iload_n 2, 1) := by decide +kernel
theorem dFo_partsArePlain_43 : decode cFo_partsArePlain 43 = .ok (.baload, 1) := by decide +kernel
theorem dFo_partsArePlain_44 : decode cFo_partsArePlain 44 = .ok (.ireturn, 1) := by decide +kernel
theorem dFo_partsArePlain_45 : decode cFo_partsArePlain 45 = .ok (.aload_n 0, 1) := by decide +kernel
theorem dFo_partsArePlain_46 : decode cFo_partsArePlain 46 = .ok (.getfield 21, 3) := by decide +kernel
theorem dFo_partsArePlain_49 : decode cFo_partsArePlain 49 = .ok (.iload_n 2, 1) := by decide +kernel
theorem dFo_partsArePlain_50 : decode cFo_partsArePlain 50 = .ok (.baload, 1) := by decide +kernel
theorem dFo_partsArePlain_51 : decode cFo_partsArePlain 51 = .ok (.ifCond .eq 16, 3) := by decide +kernel
theorem dFo_partsArePlain_54 : decode cFo_partsArePlain 54 = .ok (.aload_n 0, 1) := by decide +kernel
theorem dFo_partsArePlain_55 : decode cFo_partsArePlain 55 = .ok (.getfield 21, 3) := by decide +kernel
theorem dFo_partsArePlain_58 : decode cFo_partsArePlain 58 = .ok (.iload_n 3, 1) := by decide +kernel
theorem dFo_partsArePlain_59 : decode cFo_partsArePlain 59 = .ok (.baload, 1) := by decide +kernel
theorem dFo_partsArePlain_60 : decode cFo_partsArePlain 60 = .ok (.ifCond .eq 7, 3) := by decide +kernel
theorem dFo_partsArePlain_63 : decode cFo_partsArePlain 63 = .ok (.iconst 1, 1) := by decide +kernel
theorem dFo_partsArePlain_64 : decode cFo_partsArePlain 64 = .ok (.goto 4, 3) := by decide +kernel
theorem dFo_partsArePlain_67 : decode cFo_partsArePlain 67 = .ok (.iconst 0, 1) := by decide +kernel
theorem dFo_partsArePlain_68 : decode cFo_partsArePlain 68 = .ok (.ireturn, 1) := by decide +kernel
theorem dFo_partsArePlain_69 : decode cFo_partsArePlain 69 = .ok (.iconst 0, 1) := by decide +kernel
theorem dFo_partsArePlain_70 : decode cFo_partsArePlain 70 = .ok (.ireturn, 1) := by decide +kernel
theorem dLa_fair_0 : decode cLa_fair 0 = .ok (.aload_n 2, 1) := by decide +kernel
theorem dLa_fair_1 : decode cLa_fair 1 = .ok (.iconst 0, 1) := by decide +kernel
theorem dLa_fair_2 : decode cLa_fair 2 = .ok (.aload_n 0, 1) := by decide +kernel
theorem dLa_fair_3 : decode cLa_fair 3 = .ok (.iload_n 1, 1) := by decide +kernel
theorem dLa_fair_4 : decode cLa_fair 4 = .ok (.invokevirtual 25, 3) := by decide +kernel
theorem dLa_fair_7 : decode cLa_fair 7 = .ok (.i2l, 1) := by decide +kernel
theorem dLa_fair_8 : decode cLa_fair 8 = .ok (.lastore, 1) := by decide +kernel
theorem dLa_fair_9 : decode cLa_fair 9 = .ok (.goto 9, 3) := by decide +kernel
theorem dLa_fair_12 : decode cLa_fair 12 = .ok (.astore_n 3, 1) := by decide +kernel
theorem dLa_fair_13 : decode cLa_fair 13 = .ok (.iconst 1, 1) := by decide +kernel
theorem dLa_fair_14 : decode cLa_fair 14 = .ok (.ireturn, 1) := by decide +kernel
theorem dLa_fair_15 : decode cLa_fair 15 = .ok (.astore_n 3, 1) := by decide +kernel
theorem dLa_fair_16 : decode cLa_fair 16 = .ok (.iconst 2, 1) := by decide +kernel
theorem dLa_fair_17 : decode cLa_fair 17 = .ok (.ireturn, 1) := by decide +kernel
theorem dLa_fair_18 : decode cLa_fair 18 = .ok (.iconst 0, 1) := by decide +kernel
theorem dLa_fair_19 : decode cLa_fair 19 = .ok (.ireturn, 1) := by decide +kernel
theorem dWw_fair_0 : decode cWw_fair 0 = .ok (.aload_n 0, 1) := by decide +kernel
theorem dWw_fair_1 : decode cWw_fair 1 = .ok (.getfield 19, 3) := by decide +kernel
theorem dWw_fair_4 : decode cWw_fair 4 = .ok (.iload_n 1, 1) := by decide +kernel
theorem dWw_fair_5 : decode cWw_fair 5 = .ok (.invokevirtual 105, 3) := by decide +kernel
theorem dWw_fair_8 : decode cWw_fair 8 = .ok (.ifCond .eq 14, 3) := by decide +kernel
theorem dWw_fair_11 : decode cWw_fair 11 = .ok (.aload_n 0, 1) := by decide +kernel
theorem dWw_fair_12 : decode cWw_fair 12 = .ok (.getfield 19, 3) := by decide +kernel
theorem dWw_fair_15 : decode cWw_fair 15 = .ok (.iload_n 1, 1) := by decide +kernel
theorem dWw_fair_16 : decode cWw_fair 16 = .ok (.invokevirtual 108, 3) := by decide +kernel
theorem dWw_fair_19 : decode cWw_fair 19 = .ok (.ifCond .ne 13, 3) := by decide +kernel
theorem dWw_fair_22 : decode cWw_fair 22 = .ok (.new 59, 3) := by decide +kernel
theorem dWw_fair_25 : decode cWw_fair 25 = .ok (.dup, 1) := by decide +kernel
theorem dWw_fair_26 : decode cWw_fair 26 = .ok (.ldc 111, 2) := by decide +kernel
theorem dWw_fair_28 : decode cWw_fair 28 = .ok (.invokespecial 63, 3) := by decide +kernel
theorem dWw_fair_31 : decode cWw_fair 31 = .ok (.athrow, 1) := by decide +kernel
theorem dWw_fair_32 : decode cWw_fair 32 = .ok (.aload_n 0, 1) := by decide +kernel
theorem dWw_fair_33 : decode cWw_fair 33 = .ok (.getfield 26, 3) := by decide +kernel
theorem dWw_fair_36 : decode cWw_fair 36 = .ok (.invokevirtual 113, 3) := by decide +kernel
theorem dWw_fair_39 : decode cWw_fair 39 = .ok (.ifCond .eq 13, 3) := by decide +kernel
theorem dWw_fair_42 : decode cWw_fair 42 = .ok (.new 72, 3) := by decide +kernel
theorem dWw_fair_45 : decode cWw_fair 45 = .ok (.dup, 1) := by decide +kernel
theorem dWw_fair_46 : decode cWw_fair 46 = .ok (.ldc 114, 2) := by decide +kernel
theorem dWw_fair_48 : decode cWw_fair 48 = .ok (.invokespecial 76, 3) := by decide +kernel
theorem dWw_fair_51 : decode cWw_fair 51 = .ok (.athrow, 1) := by decide +kernel
theorem dWw_fair_52 : decode cWw_fair 52 = .ok (.aload_n 0, 1) := by decide +kernel
theorem dWw_fair_53 : decode cWw_fair 53 = .ok (.getfield 35, 3) := by decide +kernel
theorem dWw_fair_56 : decode cWw_fair 56 = .ok (.iload_n 1, 1) := by decide +kernel
theorem dWw_fair_57 : decode cWw_fair 57 = .ok (.invokevirtual 116, 3) := by decide +kernel
theorem dWw_fair_60 : decode cWw_fair 60 = .ok (.aload_n 0, 1) := by decide +kernel
theorem dWw_fair_61 : decode cWw_fair 61 = .ok (.getfield 35, 3) := by decide +kernel
theorem dWw_fair_64 : decode cWw_fair 64 = .ok (.iload_n 1, 1) := by decide +kernel
theorem dWw_fair_65 : decode cWw_fair 65 = .ok (.invokevirtual 120, 3) := by decide +kernel
theorem dWw_fair_68 : decode cWw_fair 68 = .ok (.lstore_n 2, 1) := by decide +kernel
theorem dWw_fair_69 : decode cWw_fair 69 = .ok (.aload_n 0, 1) := by decide +kernel
theorem dWw_fair_70 : decode cWw_fair 70 = .ok (.getfield 35, 3) := by decide +kernel
theorem dWw_fair_73 : decode cWw_fair 73 = .ok (.invokevirtual 77, 3) := by decide +kernel
theorem dWw_fair_76 : decode cWw_fair 76 = .ok (.aload_n 0, 1) := by decide +kernel
theorem dWw_fair_77 : decode cWw_fair 77 = .ok (.getfield 26, 3) := by decide +kernel
theorem dWw_fair_80 : decode cWw_fair 80 = .ok (.lload_n 2, 1) := by decide +kernel
theorem dWw_fair_81 : decode cWw_fair 81 = .ok (.invokevirtual 123, 3) := by decide +kernel
theorem dWw_fair_84 : decode cWw_fair 84 = .ok (.ireturn, 1) := by decide +kernel
theorem dFo_isPlain_0 : decode cFo_isPlain 0 = .ok (.aload_n 0, 1) := by decide +kernel
theorem dFo_isPlain_1 : decode cFo_isPlain 1 = .ok (.getfield 21, 3) := by decide +kernel
theorem dFo_isPlain_4 : decode cFo_isPlain 4 = .ok (.iload_n 1, 1) := by decide +kernel
theorem dFo_isPlain_5 : decode cFo_isPlain 5 = .ok (.baload, 1) := by decide +kernel
theorem dFo_isPlain_6 : decode cFo_isPlain 6 = .ok (.ireturn, 1) := by decide +kernel
