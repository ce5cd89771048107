/-! decode rows, by a program of mine. -/
theorem dWa_stepTo_0 : decode cWa_stepTo 0 = .ok (.aload_n 0, 1) := by decide +kernel
theorem dWa_stepTo_1 : decode cWa_stepTo 1 = .ok (.iload_n 1, 1) := by decide +kernel
theorem dWa_stepTo_2 : decode cWa_stepTo 2 = .ok (.putfield 54, 3) := by decide +kernel
theorem dWa_stepTo_5 : decode cWa_stepTo 5 = .ok (.aload_n 0, 1) := by decide +kernel
theorem dWa_stepTo_6 : decode cWa_stepTo 6 = .ok (.getfield 35, 3) := by decide +kernel
theorem dWa_stepTo_9 : decode cWa_stepTo 9 = .ok (.iload_n 1, 1) := by decide +kernel
theorem dWa_stepTo_10 : decode cWa_stepTo 10 = .ok (.invokevirtual 83, 3) := by decide +kernel
theorem dWa_stepTo_13 : decode cWa_stepTo 13 = .ok (.return_, 1) := by decide +kernel
theorem dWa_setOutUntil_0 : decode cWa_setOutUntil 0 = .ok (.aload_n 0, 1) := by decide +kernel
theorem dWa_setOutUntil_1 : decode cWa_setOutUntil 1 = .ok (.getfield 31, 3) := by decide +kernel
theorem dWa_setOutUntil_4 : decode cWa_setOutUntil 4 = .ok (.lload_n 1, 1) := by decide +kernel
theorem dWa_setOutUntil_5 : decode cWa_setOutUntil 5 = .ok (.lload_n 3, 1) := by decide +kernel
theorem dWa_setOutUntil_6 : decode cWa_setOutUntil 6 = .ok (.invokevirtual 100, 3) := by decide +kernel
theorem dWa_setOutUntil_9 : decode cWa_setOutUntil 9 = .ok (.lstore 5, 2) := by decide +kernel
theorem dWa_setOutUntil_11 : decode cWa_setOutUntil 11 = .ok (.lload 5, 2) := by decide +kernel
theorem dWa_setOutUntil_13 : decode cWa_setOutUntil 13 = .ok (.aload_n 0, 1) := by decide +kernel
theorem dWa_setOutUntil_14 : decode cWa_setOutUntil 14 = .ok (.getfield 54, 3) := by decide +kernel
theorem dWa_setOutUntil_17 : decode cWa_setOutUntil 17 = .ok (.invokestatic 104, 3) := by decide +kernel
theorem dWa_setOutUntil_20 : decode cWa_setOutUntil 20 = .ok (.ifCond .ne 5, 3) := by decide +kernel
theorem dWa_setOutUntil_23 : decode cWa_setOutUntil 23 = .ok (.iconst 0, 1) := by decide +kernel
theorem dWa_setOutUntil_24 : decode cWa_setOutUntil 24 = .ok (.ireturn, 1) := by decide +kernel
theorem dWa_setOutUntil_25 : decode cWa_setOutUntil 25 = .ok (.aload_n 0, 1) := by decide +kernel
theorem dWa_setOutUntil_26 : decode cWa_setOutUntil 26 = .ok (.getfield 35, 3) := by decide +kernel
theorem dWa_setOutUntil_29 : decode cWa_setOutUntil 29 = .ok (.aload_n 0, 1) := by decide +kernel
theorem dWa_setOutUntil_30 : decode cWa_setOutUntil 30 = .ok (.getfield 54, 3) := by decide +kernel
theorem dWa_setOutUntil_33 : decode cWa_setOutUntil 33 = .ok (.invokevirtual 83, 3) := by decide +kernel
theorem dWa_setOutUntil_36 : decode cWa_setOutUntil 36 = .ok (.aload_n 0, 1) := by decide +kernel
theorem dWa_setOutUntil_37 : decode cWa_setOutUntil 37 = .ok (.lload_n 3, 1) := by decide +kernel
theorem dWa_setOutUntil_38 : decode cWa_setOutUntil 38 = .ok (.aload_n 0, 1) := by decide +kernel
theorem dWa_setOutUntil_39 : decode cWa_setOutUntil 39 = .ok (.getfield 31, 3) := by decide +kernel
theorem dWa_setOutUntil_42 : decode cWa_setOutUntil 42 = .ok (.invokevirtual 79, 3) := by decide +kernel
theorem dWa_setOutUntil_45 : decode cWa_setOutUntil 45 = .ok (.land, 1) := by decide +kernel
theorem dWa_setOutUntil_46 : decode cWa_setOutUntil 46 = .ok (.lload 5, 2) := by decide +kernel
theorem dWa_setOutUntil_48 : decode cWa_setOutUntil 48 = .ok (.invokevirtual 108, 3) := by decide +kernel
theorem dWa_setOutUntil_51 : decode cWa_setOutUntil 51 = .ok (.aload_n 0, 1) := by decide +kernel
theorem dWa_setOutUntil_52 : decode cWa_setOutUntil 52 = .ok (.aload_n 0, 1) := by decide +kernel
theorem dWa_setOutUntil_53 : decode cWa_setOutUntil 53 = .ok (.getfield 31, 3) := by decide +kernel
theorem dWa_setOutUntil_56 : decode cWa_setOutUntil 56 = .ok (.invokevirtual 79, 3) := by decide +kernel
theorem dWa_setOutUntil_59 : decode cWa_setOutUntil 59 = .ok (.putfield 96, 3) := by decide +kernel
theorem dWa_setOutUntil_62 : decode cWa_setOutUntil 62 = .ok (.iconst 1, 1) := by decide +kernel
theorem dWa_setOutUntil_63 : decode cWa_setOutUntil 63 = .ok (.ireturn, 1) := by decide +kernel
theorem dWw_contains_0 : decode cWw_contains 0 = .ok (.lload_n 0, 1) := by decide +kernel
theorem dWw_contains_1 : decode cWw_contains 1 = .ok (.iload_n 2, 1) := by decide +kernel
theorem dWw_contains_2 : decode cWw_contains 2 = .ok (.lushr, 1) := by decide +kernel
theorem dWw_contains_3 : decode cWw_contains 3 = .ok (.lconst 1, 1) := by decide +kernel
theorem dWw_contains_4 : decode cWw_contains 4 = .ok (.land, 1) := by decide +kernel
theorem dWw_contains_5 : decode cWw_contains 5 = .ok (.lconst 0, 1) := by decide +kernel
theorem dWw_contains_6 : decode cWw_contains 6 = .ok (.lcmp, 1) := by decide +kernel
theorem dWw_contains_7 : decode cWw_contains 7 = .ok (.ifCond .eq 7, 3) := by decide +kernel
theorem dWw_contains_10 : decode cWw_contains 10 = .ok (.iconst 1, 1) := by decide +kernel
theorem dWw_contains_11 : decode cWw_contains 11 = .ok (.goto 4, 3) := by decide +kernel
theorem dWw_contains_14 : decode cWw_contains 14 = .ok (.iconst 0, 1) := by decide +kernel
theorem dWw_contains_15 : decode cWw_contains 15 = .ok (.ireturn, 1) := by decide +kernel
theorem dWa_goTo_0 : decode cWa_goTo 0 = .ok (.aload_n 0, 1) := by decide +kernel
theorem dWa_goTo_1 : decode cWa_goTo 1 = .ok (.lload_n 1, 1) := by decide +kernel
theorem dWa_goTo_2 : decode cWa_goTo 2 = .ok (.lload_n 3, 1) := by decide +kernel
theorem dWa_goTo_3 : decode cWa_goTo 3 = .ok (.invokevirtual 137, 3) := by decide +kernel
theorem dWa_goTo_6 : decode cWa_goTo 6 = .ok (.istore 5, 2) := by decide +kernel
theorem dWa_goTo_8 : decode cWa_goTo 8 = .ok (.iload 5, 2) := by decide +kernel
theorem dWa_goTo_10 : decode cWa_goTo 10 = .ok (.ifCond .le 37, 3) := by decide +kernel
theorem dWa_goTo_13 : decode cWa_goTo 13 = .ok (.aload_n 0, 1) := by decide +kernel
theorem dWa_goTo_14 : decode cWa_goTo 14 = .ok (.aload_n 0, 1) := by decide +kernel
theorem dWa_goTo_15 : decode cWa_goTo 15 = .ok (.getfield 19, 3) := by decide +kernel
theorem dWa_goTo_18 : decode cWa_goTo 18 = .ok (.aload_n 0, 1) := by decide +kernel
theorem dWa_goTo_19 : decode cWa_goTo 19 = .ok (.getfield 54, 3) := by decide +kernel
theorem dWa_goTo_22 : decode cWa_goTo 22 = .ok (.invokevirtual 74, 3) := by decide +kernel
theorem dWa_goTo_25 : decode cWa_goTo 25 = .ok (.aload_n 0, 1) := by decide +kernel
theorem dWa_goTo_26 : decode cWa_goTo 26 = .ok (.getfield 9, 3) := by decide +kernel
theorem dWa_goTo_29 : decode cWa_goTo 29 = .ok (.iload 5, 2) := by decide +kernel
theorem dWa_goTo_31 : decode cWa_goTo 31 = .ok (.iconst 1, 1) := by decide +kernel
theorem dWa_goTo_32 : decode cWa_goTo 32 = .ok (.isub, 1) := by decide +kernel
theorem dWa_goTo_33 : decode cWa_goTo 33 = .ok (.laload, 1) := by decide +kernel
theorem dWa_goTo_34 : decode cWa_goTo 34 = .ok (.land, 1) := by decide +kernel
theorem dWa_goTo_35 : decode cWa_goTo 35 = .ok (.invokestatic 89, 3) := by decide +kernel
theorem dWa_goTo_38 : decode cWa_goTo 38 = .ok (.invokevirtual 93, 3) := by decide +kernel
theorem dWa_goTo_41 : decode cWa_goTo 41 = .ok (.iinc 5 (-1), 3) := by decide +kernel
theorem dWa_goTo_44 : decode cWa_goTo 44 = .ok (.goto (-36), 3) := by decide +kernel
theorem dWa_goTo_47 : decode cWa_goTo 47 = .ok (.return_, 1) := by decide +kernel
theorem dWa_layOut_0 : decode cWa_layOut 0 = .ok (.lconst 0, 1) := by decide +kernel
theorem dWa_layOut_1 : decode cWa_layOut 1 = .ok (.lstore 5, 2) := by decide +kernel
theorem dWa_layOut_3 : decode cWa_layOut 3 = .ok (.lload_n 1, 1) := by decide +kernel
theorem dWa_layOut_4 : decode cWa_layOut 4 = .ok (.lstore 7, 2) := by decide +kernel
theorem dWa_layOut_6 : decode cWa_layOut 6 = .ok (.iconst 0, 1) := by decide +kernel
theorem dWa_layOut_7 : decode cWa_layOut 7 = .ok (.istore 9, 2) := by decide +kernel
theorem dWa_layOut_9 : decode cWa_layOut 9 = .ok (.iload 9, 2) := by decide +kernel
theorem dWa_layOut_11 : decode cWa_layOut 11 = .ok (.bipush 64, 2) := by decide +kernel
theorem dWa_layOut_13 : decode cWa_layOut 13 = .ok (.if_icmp .ge 67, 3) := by decide +kernel
theorem dWa_layOut_16 : decode cWa_layOut 16 = .ok (.lload 7, 2) := by decide +kernel
theorem dWa_layOut_18 : decode cWa_layOut 18 = .ok (.lconst 0, 1) := by decide +kernel
theorem dWa_layOut_19 : decode cWa_layOut 19 = .ok (.lcmp, 1) := by decide +kernel
theorem dWa_layOut_20 : decode cWa_layOut 20 = .ok (.ifCond .eq 60, 3) := by decide +kernel
theorem dWa_layOut_23 : decode cWa_layOut 23 = .ok (.aload_n 0, 1) := by decide +kernel
theorem dWa_layOut_24 : decode cWa_layOut 24 = .ok (.getfield 9, 3) := by decide +kernel
theorem dWa_layOut_27 : decode cWa_layOut 27 = .ok (.iload 9, 2) := by decide +kernel
theorem dWa_layOut_29 : decode cWa_layOut 29 = .ok (.lload 7, 2) := by decide +kernel
theorem dWa_layOut_31 : decode cWa_layOut 31 = .ok (.lastore, 1) := by decide +kernel
theorem dWa_layOut_32 : decode cWa_layOut 32 = .ok (.lload 7, 2) := by decide +kernel
theorem dWa_layOut_34 : decode cWa_layOut 34 = .ok (.aload_n 0, 1) := by decide +kernel
theorem dWa_layOut_35 : decode cWa_layOut 35 = .ok (.getfield 54, 3) := by decide +kernel
theorem dWa_layOut_38 : decode cWa_layOut 38 = .ok (.invokestatic 104, 3) := by decide +kernel
theorem dWa_layOut_41 : decode cWa_layOut 41 = .ok (.ifCond .eq 6, 3) := by decide +kernel
theorem dWa_layOut_44 : decode cWa_layOut 44 = .ok (.iload 9, 2) := by decide +kernel
theorem dWa_layOut_46 : decode cWa_layOut 46 = .ok (.ireturn, 1) := by decide +kernel
theorem dWa_layOut_47 : decode cWa_layOut 47 = .ok (.lload 5, 2) := by decide +kernel
theorem dWa_layOut_49 : decode cWa_layOut 49 = .ok (.lload 7, 2) := by decide +kernel
theorem dWa_layOut_51 : decode cWa_layOut 51 = .ok (.lor, 1) := by decide +kernel
theorem dWa_layOut_52 : decode cWa_layOut 52 = .ok (.lstore 5, 2) := by decide +kernel
theorem dWa_layOut_54 : decode cWa_layOut 54 = .ok (.aload_n 0, 1) := by decide +kernel
theorem dWa_layOut_55 : decode cWa_layOut 55 = .ok (.getfield 19, 3) := by decide +kernel
theorem dWa_layOut_58 : decode cWa_layOut 58 = .ok (.lload 7, 2) := by decide +kernel
theorem dWa_layOut_60 : decode cWa_layOut 60 = .ok (.invokevirtual 141, 3) := by decide +kernel
theorem dWa_layOut_63 : decode cWa_layOut 63 = .ok (.lload_n 3, 1) := by decide +kernel
theorem dWa_layOut_64 : decode cWa_layOut 64 = .ok (.land, 1) := by decide +kernel
theorem dWa_layOut_65 : decode cWa_layOut 65 = .ok (.lload 5, 2) := by decide +kernel
theorem dWa_layOut_67 : decode cWa_layOut 67 = .ok (.ldc2_w 72, 3) := by decide +kernel
theorem dWa_layOut_70 : decode cWa_layOut 70 = .ok (.lxor, 1) := by decide +kernel
theorem dWa_layOut_71 : decode cWa_layOut 71 = .ok (.land, 1) := by decide +kernel
theorem dWa_layOut_72 : decode cWa_layOut 72 = .ok (.lstore 7, 2) := by decide +kernel
theorem dWa_layOut_74 : decode cWa_layOut 74 = .ok (.iinc 9 1, 3) := by decide +kernel
theorem dWa_layOut_77 : decode cWa_layOut 77 = .ok (.goto (-68), 3) := by decide +kernel
theorem dWa_layOut_80 : decode cWa_layOut 80 = .ok (.iconst 0, 1) := by decide +kernel
theorem dWa_layOut_81 : decode cWa_layOut 81 = .ok (.ireturn, 1) := by decide +kernel
theorem dWa_setOutAlways_0 : decode cWa_setOutAlways 0 = .ok (.aload_n 0, 1) := by decide +kernel
theorem dWa_setOutAlways_1 : decode cWa_setOutAlways 1 = .ok (.getfield 31, 3) := by decide +kernel
theorem dWa_setOutAlways_4 : decode cWa_setOutAlways 4 = .ok (.lload_n 1, 1) := by decide +kernel
theorem dWa_setOutAlways_5 : decode cWa_setOutAlways 5 = .ok (.invokevirtual 112, 3) := by decide +kernel
theorem dWa_setOutAlways_8 : decode cWa_setOutAlways 8 = .ok (.lstore_n 3, 1) := by decide +kernel
theorem dWa_setOutAlways_9 : decode cWa_setOutAlways 9 = .ok (.lload_n 3, 1) := by decide +kernel
theorem dWa_setOutAlways_10 : decode cWa_setOutAlways 10 = .ok (.aload_n 0, 1) := by decide +kernel
theorem dWa_setOutAlways_11 : decode cWa_setOutAlways 11 = .ok (.getfield 54, 3) := by decide +kernel
theorem dWa_setOutAlways_14 : decode cWa_setOutAlways 14 = .ok (.invokestatic 104, 3) := by decide +kernel
theorem dWa_setOutAlways_17 : decode cWa_setOutAlways 17 = .ok (.ifCond .ne 5, 3) := by decide +kernel
theorem dWa_setOutAlways_20 : decode cWa_setOutAlways 20 = .ok (.iconst 0, 1) := by decide +kernel
theorem dWa_setOutAlways_21 : decode cWa_setOutAlways 21 = .ok (.ireturn, 1) := by decide +kernel
theorem dWa_setOutAlways_22 : decode cWa_setOutAlways 22 = .ok (.aload_n 0, 1) := by decide +kernel
theorem dWa_setOutAlways_23 : decode cWa_setOutAlways 23 = .ok (.getfield 35, 3) := by decide +kernel
theorem dWa_setOutAlways_26 : decode cWa_setOutAlways 26 = .ok (.aload_n 0, 1) := by decide +kernel
theorem dWa_setOutAlways_27 : decode cWa_setOutAlways 27 = .ok (.getfield 54, 3) := by decide +kernel
theorem dWa_setOutAlways_30 : decode cWa_setOutAlways 30 = .ok (.invokevirtual 83, 3) := by decide +kernel
theorem dWa_setOutAlways_33 : decode cWa_setOutAlways 33 = .ok (.aload_n 0, 1) := by decide +kernel
theorem dWa_setOutAlways_34 : decode cWa_setOutAlways 34 = .ok (.lload_n 3, 1) := by decide +kernel
theorem dWa_setOutAlways_35 : decode cWa_setOutAlways 35 = .ok (.putfield 96, 3) := by decide +kernel
theorem dWa_setOutAlways_38 : decode cWa_setOutAlways 38 = .ok (.iconst 1, 1) := by decide +kernel
theorem dWa_setOutAlways_39 : decode cWa_setOutAlways 39 = .ok (.ireturn, 1) := by decide +kernel
theorem dWa_goRound_0 : decode cWa_goRound 0 = .ok (.aload_n 0, 1) := by decide +kernel
theorem dWa_goRound_1 : decode cWa_goRound 1 = .ok (.getfield 15, 3) := by decide +kernel
theorem dWa_goRound_4 : decode cWa_goRound 4 = .ok (.iconst (-1), 1) := by decide +kernel
theorem dWa_goRound_5 : decode cWa_goRound 5 = .ok (.invokestatic 116, 3) := by decide +kernel
theorem dWa_goRound_8 : decode cWa_goRound 8 = .ok (.iconst 0, 1) := by decide +kernel
theorem dWa_goRound_9 : decode cWa_goRound 9 = .ok (.istore_n 1, 1) := by decide +kernel
theorem dWa_goRound_10 : decode cWa_goRound 10 = .ok (.iload_n 1, 1) := by decide +kernel
theorem dWa_goRound_11 : decode cWa_goRound 11 = .ok (.bipush 64, 2) := by decide +kernel
theorem dWa_goRound_13 : decode cWa_goRound 13 = .ok (.if_icmp .ge 103, 3) := by decide +kernel
theorem dWa_goRound_16 : decode cWa_goRound 16 = .ok (.aload_n 0, 1) := by decide +kernel
theorem dWa_goRound_17 : decode cWa_goRound 17 = .ok (.getfield 15, 3) := by decide +kernel
theorem dWa_goRound_20 : decode cWa_goRound 20 = .ok (.aload_n 0, 1) := by decide +kernel
theorem dWa_goRound_21 : decode cWa_goRound 21 = .ok (.getfield 54, 3) := by decide +kernel
theorem dWa_goRound_24 : decode cWa_goRound 24 = .ok (.iaload, 1) := by decide +kernel
theorem dWa_goRound_25 : decode cWa_goRound 25 = .ok (.iconst (-1), 1) := by decide +kernel
theorem dWa_goRound_26 : decode cWa_goRound 26 = .ok (.if_icmp .ne 90, 3) := by decide +kernel
theorem dWa_goRound_29 : decode cWa_goRound 29 = .ok (.aload_n 0, 1) := by decide +kernel
theorem dWa_goRound_30 : decode cWa_goRound 30 = .ok (.getfield 15, 3) := by decide +kernel
theorem dWa_goRound_33 : decode cWa_goRound 33 = .ok (.aload_n 0, 1) := by decide +kernel
theorem dWa_goRound_34 : decode cWa_goRound 34 = .ok (.getfield 54, 3) := by decide +kernel
theorem dWa_goRound_37 : decode cWa_goRound 37 = .ok (.aload_n 0, 1) := by decide +kernel
theorem dWa_goRound_38 : decode cWa_goRound 38 = .ok (.getfield 35, 3) := by decide +kernel
theorem dWa_goRound_41 : decode cWa_goRound 41 = .ok (.invokevirtual 122, 3) := by decide +kernel
theorem dWa_goRound_44 : decode cWa_goRound 44 = .ok (.iconst 1, 1) := by decide +kernel
theorem dWa_goRound_45 : decode cWa_goRound 45 = .ok (.isub, 1) := by decide +kernel
theorem dWa_goRound_46 : decode cWa_goRound 46 = .ok (.iastore, 1) := by decide +kernel
theorem dWa_goRound_47 : decode cWa_goRound 47 = .ok (.aload_n 0, 1) := by decide +kernel
theorem dWa_goRound_48 : decode cWa_goRound 48 = .ok (.aload_n 0, 1) := by decide +kernel
theorem dWa_goRound_49 : decode cWa_goRound 49 = .ok (.getfield 19, 3) := by decide +kernel
theorem dWa_goRound_52 : decode cWa_goRound 52 = .ok (.aload_n 0, 1) := by decide +kernel
theorem dWa_goRound_53 : decode cWa_goRound 53 = .ok (.getfield 54, 3) := by decide +kernel
theorem dWa_goRound_56 : decode cWa_goRound 56 = .ok (.invokevirtual 74, 3) := by decide +kernel
theorem dWa_goRound_59 : decode cWa_goRound 59 = .ok (.aload_n 0, 1) := by decide +kernel
theorem dWa_goRound_60 : decode cWa_goRound 60 = .ok (.getfield 96, 3) := by decide +kernel
theorem dWa_goRound_63 : decode cWa_goRound 63 = .ok (.land, 1) := by decide +kernel
theorem dWa_goRound_64 : decode cWa_goRound 64 = .ok (.invokestatic 89, 3) := by decide +kernel
theorem dWa_goRound_67 : decode cWa_goRound 67 = .ok (.invokevirtual 93, 3) := by decide +kernel
theorem dWa_goRound_70 : decode cWa_goRound 70 = .ok (.iconst 0, 1) := by decide +kernel
theorem dWa_goRound_71 : decode cWa_goRound 71 = .ok (.istore_n 2, 1) := by decide +kernel
theorem dWa_goRound_72 : decode cWa_goRound 72 = .ok (.iload_n 2, 1) := by decide +kernel
theorem dWa_goRound_73 : decode cWa_goRound 73 = .ok (.aload_n 0, 1) := by decide +kernel
theorem dWa_goRound_74 : decode cWa_goRound 74 = .ok (.getfield 27, 3) := by decide +kernel
theorem dWa_goRound_77 : decode cWa_goRound 77 = .ok (.invokevirtual 126, 3) := by decide +kernel
theorem dWa_goRound_80 : decode cWa_goRound 80 = .ok (.if_icmp .ge 30, 3) := by decide +kernel
theorem dWa_goRound_83 : decode cWa_goRound 83 = .ok (.aload_n 0, 1) := by decide +kernel
theorem dWa_goRound_84 : decode cWa_goRound 84 = .ok (.aload_n 0, 1) := by decide +kernel
theorem dWa_goRound_85 : decode cWa_goRound 85 = .ok (.getfield 27, 3) := by decide +kernel
theorem dWa_goRound_88 : decode cWa_goRound 88 = .ok (.iload_n 2, 1) := by decide +kernel
theorem dWa_goRound_89 : decode cWa_goRound 89 = .ok (.invokevirtual 131, 3) := by decide +kernel
theorem dWa_goRound_92 : decode cWa_goRound 92 = .ok (.aload_n 0, 1) := by decide +kernel
theorem dWa_goRound_93 : decode cWa_goRound 93 = .ok (.getfield 96, 3) := by decide +kernel
theorem dWa_goRound_96 : decode cWa_goRound 96 = .ok (.land, 1) := by decide +kernel
theorem dWa_goRound_97 : decode cWa_goRound 97 = .ok (.aload_n 0, 1) := by decide +kernel
theorem dWa_goRound_98 : decode cWa_goRound 98 = .ok (.getfield 96, 3) := by decide +kernel
theorem dWa_goRound_101 : decode cWa_goRound 101 = .ok (.invokevirtual 108, 3) := by decide +kernel
theorem dWa_goRound_104 : decode cWa_goRound 104 = .ok (.iinc 2 1, 3) := by decide +kernel
theorem dWa_goRound_107 : decode cWa_goRound 107 = .ok (.goto (-35), 3) := by decide +kernel
theorem dWa_goRound_110 : decode cWa_goRound 110 = .ok (.iinc 1 1, 3) := by decide +kernel
theorem dWa_goRound_113 : decode cWa_goRound 113 = .ok (.goto (-103), 3) := by decide +kernel
theorem dWa_goRound_116 : decode cWa_goRound 116 = .ok (.aload_n 0, 1) := by decide +kernel
theorem dWa_goRound_117 : decode cWa_goRound 117 = .ok (.getfield 35, 3) := by decide +kernel
theorem dWa_goRound_120 : decode cWa_goRound 120 = .ok (.aload_n 0, 1) := by decide +kernel
theorem dWa_goRound_121 : decode cWa_goRound 121 = .ok (.getfield 15, 3) := by decide +kernel
theorem dWa_goRound_124 : decode cWa_goRound 124 = .ok (.aload_n 0, 1) := by decide +kernel
theorem dWa_goRound_125 : decode cWa_goRound 125 = .ok (.getfield 54, 3) := by decide +kernel
theorem dWa_goRound_128 : decode cWa_goRound 128 = .ok (.iaload, 1) := by decide +kernel
theorem dWa_goRound_129 : decode cWa_goRound 129 = .ok (.invokevirtual 134, 3) := by decide +kernel
theorem dWa_goRound_132 : decode cWa_goRound 132 = .ok (.return_, 1) := by decide +kernel
theorem dAr_fill2_0 : decode cAr_fill2 0 = .ok (.iconst 0, 1) := by decide +kernel
theorem dAr_fill2_1 : decode cAr_fill2 1 = .ok (.istore_n 2, 1) := by decide +kernel
theorem dAr_fill2_2 : decode cAr_fill2 2 = .ok (.aload_n 0, 1) := by decide +kernel
theorem dAr_fill2_3 : decode cAr_fill2 3 = .ok (.arraylength, 1) := by decide +kernel
theorem dAr_fill2_4 : decode cAr_fill2 4 = .ok (.istore_n 3, 1) := by decide +kernel
theorem dAr_fill2_5 : decode cAr_fill2 5 = .ok (.iload_n 2, 1) := by decide +kernel
theorem dAr_fill2_6 : decode cAr_fill2 6 = .ok (.iload_n 3, 1) := by decide +kernel
theorem dAr_fill2_7 : decode cAr_fill2 7 = .ok (.if_icmp .ge 13, 3) := by decide +kernel
theorem dAr_fill2_10 : decode cAr_fill2 10 = .ok (.aload_n 0, 1) := by decide +kernel
theorem dAr_fill2_11 : decode cAr_fill2 11 = .ok (.iload_n 2, 1) := by decide +kernel
theorem dAr_fill2_12 : decode cAr_fill2 12 = .ok (.iload_n 1, 1) := by decide +kernel
theorem dAr_fill2_13 : decode cAr_fill2 13 = .ok (.iastore, 1) := by decide +kernel
theorem dAr_fill2_14 : decode cAr_fill2 14 = .ok (.iinc 2 1, 3) := by decide +kernel
theorem dAr_fill2_17 : decode cAr_fill2 17 = .ok (.goto (-12), 3) := by decide +kernel
theorem dAr_fill2_20 : decode cAr_fill2 20 = .ok (.return_, 1) := by decide +kernel
theorem dPa_length_0 : decode cPa_length 0 = .ok (.aload_n 0, 1) := by decide +kernel
theorem dPa_length_1 : decode cPa_length 1 = .ok (.getfield 19, 3) := by decide +kernel
theorem dPa_length_4 : decode cPa_length 4 = .ok (.ireturn, 1) := by decide +kernel
theorem dPa_close_0 : decode cPa_close 0 = .ok (.aload_n 0, 1) := by decide +kernel
theorem dPa_close_1 : decode cPa_close 1 = .ok (.dup, 1) := by decide +kernel
theorem dPa_close_2 : decode cPa_close 2 = .ok (.getfield 19, 3) := by decide +kernel
theorem dPa_close_5 : decode cPa_close 5 = .ok (.iconst 1, 1) := by decide +kernel
theorem dPa_close_6 : decode cPa_close 6 = .ok (.isub, 1) := by decide +kernel
theorem dPa_close_7 : decode cPa_close 7 = .ok (.putfield 19, 3) := by decide +kernel
theorem dPa_close_10 : decode cPa_close 10 = .ok (.aload_n 0, 1) := by decide +kernel
theorem dPa_close_11 : decode cPa_close 11 = .ok (.iload_n 1, 1) := by decide +kernel
theorem dPa_close_12 : decode cPa_close 12 = .ok (.putfield 15, 3) := by decide +kernel
theorem dPa_close_15 : decode cPa_close 15 = .ok (.return_, 1) := by decide +kernel
theorem dPa_isTooLong_0 : decode cPa_isTooLong 0 = .ok (.aload_n 0, 1) := by decide +kernel
theorem dPa_isTooLong_1 : decode cPa_isTooLong 1 = .ok (.getfield 19, 3) := by decide +kernel
theorem dPa_isTooLong_4 : decode cPa_isTooLong 4 = .ok (.sipush 250, 3) := by decide +kernel
theorem dPa_isTooLong_7 : decode cPa_isTooLong 7 = .ok (.if_icmp .le 7, 3) := by decide +kernel
theorem dPa_isTooLong_10 : decode cPa_isTooLong 10 = .ok (.iconst 1, 1) := by decide +kernel
theorem dPa_isTooLong_11 : decode cPa_isTooLong 11 = .ok (.goto 4, 3) := by decide +kernel
theorem dPa_isTooLong_14 : decode cPa_isTooLong 14 = .ok (.iconst 0, 1) := by decide +kernel
theorem dPa_isTooLong_15 : decode cPa_isTooLong 15 = .ok (.ireturn, 1) := by decide +kernel
theorem dLa_shown_0 : decode cLa_shown 0 = .ok (.aload_n 2, 1) := by decide +kernel
theorem dLa_shown_1 : decode cLa_shown 1 = .ok (.iconst 0, 1) := by decide +kernel
theorem dLa_shown_2 : decode cLa_shown 2 = .ok (.aload_n 0, 1) := by decide +kernel
theorem dLa_shown_3 : decode cLa_shown 3 = .ok (.iload_n 1, 1) := by decide +kernel
theorem dLa_shown_4 : decode cLa_shown 4 = .ok (.invokevirtual 38, 3) := by decide +kernel
theorem dLa_shown_7 : decode cLa_shown 7 = .ok (.i2l, 1) := by decide +kernel
theorem dLa_shown_8 : decode cLa_shown 8 = .ok (.lastore, 1) := by decide +kernel
theorem dLa_shown_9 : decode cLa_shown 9 = .ok (.goto 6, 3) := by decide +kernel
theorem dLa_shown_12 : decode cLa_shown 12 = .ok (.astore_n 3, 1) := by decide +kernel
theorem dLa_shown_13 : decode cLa_shown 13 = .ok (.iconst 1, 1) := by decide +kernel
theorem dLa_shown_14 : decode cLa_shown 14 = .ok (.ireturn, 1) := by decide +kernel
theorem dLa_shown_15 : decode cLa_shown 15 = .ok (.iconst 0, 1) := by decide +kernel
theorem dLa_shown_16 : decode cLa_shown 16 = .ok (.ireturn, 1) := by decide +kernel
theorem dWw_shown_0 : decode cWw_shown 0 = .ok (.iload_n 1, 1) := by decide +kernel
theorem dWw_shown_1 : decode cWw_shown 1 = .ok (.ifCond .lt 14, 3) := by decide +kernel
theorem dWw_shown_4 : decode cWw_shown 4 = .ok (.iload_n 1, 1) := by decide +kernel
theorem dWw_shown_5 : decode cWw_shown 5 = .ok (.aload_n 0, 1) := by decide +kernel
theorem dWw_shown_6 : decode cWw_shown 6 = .ok (.getfield 42, 3) := by decide +kernel
theorem dWw_shown_9 : decode cWw_shown 9 = .ok (.invokevirtual 158, 3) := by decide +kernel
theorem dWw_shown_12 : decode cWw_shown 12 = .ok (.if_icmp .lt 13, 3) := by decide +kernel
theorem dWw_shown_15 : decode cWw_shown 15 = .ok (.new 162, 3) := by decide +kernel
theorem dWw_shown_18 : decode cWw_shown 18 = .ok (.dup, 1) := by decide +kernel
theorem dWw_shown_19 : decode cWw_shown 19 = .ok (.ldc 164, 2) := by decide +kernel
theorem dWw_shown_21 : decode cWw_shown 21 = .ok (.invokespecial 166, 3) := by decide +kernel
theorem dWw_shown_24 : decode cWw_shown 24 = .ok (.athrow, 1) := by decide +kernel
theorem dWw_shown_25 : decode cWw_shown 25 = .ok (.aload_n 0, 1) := by decide +kernel
theorem dWw_shown_26 : decode cWw_shown 26 = .ok (.getfield 42, 3) := by decide +kernel
theorem dWw_shown_29 : decode cWw_shown 29 = .ok (.iload_n 1, 1) := by decide +kernel
theorem dWw_shown_30 : decode cWw_shown 30 = .ok (.invokevirtual 167, 3) := by decide +kernel
theorem dWw_shown_33 : decode cWw_shown 33 = .ok (.ireturn, 1) := by decide +kernel
theorem dPa_at_0 : decode cPa_at 0 = .ok (.aload_n 0, 1) := by decide +kernel
theorem dPa_at_1 : decode cPa_at 1 = .ok (.getfield 9, 3) := by decide +kernel
theorem dPa_at_4 : decode cPa_at 4 = .ok (.iload_n 1, 1) := by decide +kernel
theorem dPa_at_5 : decode cPa_at 5 = .ok (.iaload, 1) := by decide +kernel
theorem dPa_at_6 : decode cPa_at 6 = .ok (.ireturn, 1) := by decide +kernel
theorem dMo_init_0 : decode cMo_init 0 = .ok (.aload_n 0, 1) := by decide +kernel
theorem dMo_init_1 : decode cMo_init 1 = .ok (.invokespecial 1, 3) := by decide +kernel
theorem dMo_init_4 : decode cMo_init 4 = .ok (.aload_n 0, 1) := by decide +kernel
theorem dMo_init_5 : decode cMo_init 5 = .ok (.bipush 80, 2) := by decide +kernel
theorem dMo_init_7 : decode cMo_init 7 = .ok (.newarray .int, 2) := by decide +kernel
theorem dMo_init_9 : decode cMo_init 9 = .ok (.putfield 7, 3) := by decide +kernel
theorem dMo_init_12 : decode cMo_init 12 = .ok (.aload_n 0, 1) := by decide +kernel
theorem dMo_init_13 : decode cMo_init 13 = .ok (.bipush 64, 2) := by decide +kernel
theorem dMo_init_15 : decode cMo_init 15 = .ok (.newarray .long, 2) := by decide +kernel
theorem dMo_init_17 : decode cMo_init 17 = .ok (.putfield 13, 3) := by decide +kernel
theorem dMo_init_20 : decode cMo_init 20 = .ok (.aload_n 0, 1) := by decide +kernel
theorem dMo_init_21 : decode cMo_init 21 = .ok (.bipush 32, 2) := by decide +kernel
theorem dMo_init_23 : decode cMo_init 23 = .ok (.newarray .int, 2) := by decide +kernel
theorem dMo_init_25 : decode cMo_init 25 = .ok (.putfield 17, 3) := by decide +kernel
theorem dMo_init_28 : decode cMo_init 28 = .ok (.aload_n 0, 1) := by decide +kernel
theorem dMo_init_29 : decode cMo_init 29 = .ok (.bipush 32, 2) := by decide +kernel
theorem dMo_init_31 : decode cMo_init 31 = .ok (.newarray .int, 2) := by decide +kernel
theorem dMo_init_33 : decode cMo_init 33 = .ok (.putfield 20, 3) := by decide +kernel
theorem dMo_init_36 : decode cMo_init 36 = .ok (.aload_n 0, 1) := by decide +kernel
theorem dMo_init_37 : decode cMo_init 37 = .ok (.bipush 32, 2) := by decide +kernel
theorem dMo_init_39 : decode cMo_init 39 = .ok (.newarray .int, 2) := by decide +kernel
theorem dMo_init_41 : decode cMo_init 41 = .ok (.putfield 23, 3) := by decide +kernel
theorem dMo_init_44 : decode cMo_init 44 = .ok (.aload_n 0, 1) := by decide +kernel
theorem dMo_init_45 : decode cMo_init 45 = .ok (.bipush 32, 2) := by decide +kernel
theorem dMo_init_47 : decode cMo_init 47 = .ok (.newarray .long, 2) := by decide +kernel
theorem dMo_init_49 : decode cMo_init 49 = .ok (.putfield 26, 3) := by decide +kernel
theorem dMo_init_52 : decode cMo_init 52 = .ok (.aload_n 0, 1) := by decide +kernel
theorem dMo_init_53 : decode cMo_init 53 = .ok (.iconst 3, 1) := by decide +kernel
theorem dMo_init_54 : decode cMo_init 54 = .ok (.newarray .int, 2) := by decide +kernel
theorem dMo_init_56 : decode cMo_init 56 = .ok (.putfield 29, 3) := by decide +kernel
theorem dMo_init_59 : decode cMo_init 59 = .ok (.aload_n 0, 1) := by decide +kernel
theorem dMo_init_60 : decode cMo_init 60 = .ok (.iconst 3, 1) := by decide +kernel
theorem dMo_init_61 : decode cMo_init 61 = .ok (.newarray .long, 2) := by decide +kernel
theorem dMo_init_63 : decode cMo_init 63 = .ok (.putfield 32, 3) := by decide +kernel
theorem dMo_init_66 : decode cMo_init 66 = .ok (.aload_n 0, 1) := by decide +kernel
theorem dMo_init_67 : decode cMo_init 67 = .ok (.bipush 64, 2) := by decide +kernel
theorem dMo_init_69 : decode cMo_init 69 = .ok (.newarray .long, 2) := by decide +kernel
theorem dMo_init_71 : decode cMo_init 71 = .ok (.putfield 35, 3) := by decide +kernel
theorem dMo_init_74 : decode cMo_init 74 = .ok (.aload_n 0, 1) := by decide +kernel
theorem dMo_init_75 : decode cMo_init 75 = .ok (.sipush 260, 3) := by decide +kernel
theorem dMo_init_78 : decode cMo_init 78 = .ok (.newarray .int, 2) := by decide +kernel
theorem dMo_init_80 : decode cMo_init 80 = .ok (.putfield 38, 3) := by decide +kernel
theorem dMo_init_83 : decode cMo_init 83 = .ok (.aload_n 0, 1) := by decide +kernel
theorem dMo_init_84 : decode cMo_init 84 = .ok (.iconst (-1), 1) := by decide +kernel
theorem dMo_init_85 : decode cMo_init 85 = .ok (.putfield 41, 3) := by decide +kernel
theorem dMo_init_88 : decode cMo_init 88 = .ok (.aload_n 0, 1) := by decide +kernel
theorem dMo_init_89 : decode cMo_init 89 = .ok (.bipush 64, 2) := by decide +kernel
theorem dMo_init_91 : decode cMo_init 91 = .ok (.newarray .int, 2) := by decide +kernel
theorem dMo_init_93 : decode cMo_init 93 = .ok (.putfield 45, 3) := by decide +kernel
theorem dMo_init_96 : decode cMo_init 96 = .ok (.aload_n 0, 1) := by decide +kernel
theorem dMo_init_97 : decode cMo_init 97 = .ok (.bipush 64, 2) := by decide +kernel
theorem dMo_init_99 : decode cMo_init 99 = .ok (.newarray .int, 2) := by decide +kernel
theorem dMo_init_101 : decode cMo_init 101 = .ok (.putfield 48, 3) := by decide +kernel
theorem dMo_init_104 : decode cMo_init 104 = .ok (.return_, 1) := by decide +kernel
theorem dMo_thrown_0 : decode cMo_thrown 0 = .ok (.aload_n 0, 1) := by decide +kernel
theorem dMo_thrown_1 : decode cMo_thrown 1 = .ok (.getfield 51, 3) := by decide +kernel
theorem dMo_thrown_4 : decode cMo_thrown 4 = .ok (.ireturn, 1) := by decide +kernel
theorem dMo_move_0 : decode cMo_move 0 = .ok (.aload_n 0, 1) := by decide +kernel
theorem dMo_move_1 : decode cMo_move 1 = .ok (.iload_n 1, 1) := by decide +kernel
theorem dMo_move_2 : decode cMo_move 2 = .ok (.invokevirtual 54, 3) := by decide +kernel
theorem dMo_move_5 : decode cMo_move 5 = .ok (.ifCond .ne 37, 3) := by decide +kernel
theorem dMo_move_8 : decode cMo_move 8 = .ok (.aload_n 0, 1) := by decide +kernel
theorem dMo_move_9 : decode cMo_move 9 = .ok (.iload_n 2, 1) := by decide +kernel
theorem dMo_move_10 : decode cMo_move 10 = .ok (.invokevirtual 54, 3) := by decide +kernel
theorem dMo_move_13 : decode cMo_move 13 = .ok (.ifCond .ne 29, 3) := by decide +kernel
theorem dMo_move_16 : decode cMo_move 16 = .ok (.aload_n 0, 1) := by decide +kernel
theorem dMo_move_17 : decode cMo_move 17 = .ok (.iload_n 3, 1) := by decide +kernel
theorem dMo_move_18 : decode cMo_move 18 = .ok (.invokevirtual 54, 3) := by decide +kernel
theorem dMo_move_21 : decode cMo_move 21 = .ok (.ifCond .ne 21, 3) := by decide +kernel
theorem dMo_move_24 : decode cMo_move 24 = .ok (.aload_n 0, 1) := by decide +kernel
theorem dMo_move_25 : decode cMo_move 25 = .ok (.iload 4, 2) := by decide +kernel
theorem dMo_move_27 : decode cMo_move 27 = .ok (.invokevirtual 54, 3) := by decide +kernel
theorem dMo_move_30 : decode cMo_move 30 = .ok (.ifCond .ne 12, 3) := by decide +kernel
theorem dMo_move_33 : decode cMo_move 33 = .ok (.aload_n 0, 1) := by decide +kernel
theorem dMo_move_34 : decode cMo_move 34 = .ok (.iload 5, 2) := by decide +kernel
theorem dMo_move_36 : decode cMo_move 36 = .ok (.invokevirtual 54, 3) := by decide +kernel
theorem dMo_move_39 : decode cMo_move 39 = .ok (.ifCond .eq 7, 3) := by decide +kernel
theorem dMo_move_42 : decode cMo_move 42 = .ok (.iconst 1, 1) := by decide +kernel
theorem dMo_move_43 : decode cMo_move 43 = .ok (.goto 4, 3) := by decide +kernel
theorem dMo_move_46 : decode cMo_move 46 = .ok (.iconst 0, 1) := by decide +kernel
theorem dMo_move_47 : decode cMo_move 47 = .ok (.istore 6, 2) := by decide +kernel
theorem dMo_move_49 : decode cMo_move 49 = .ok (.aload_n 0, 1) := by decide +kernel
theorem dMo_move_50 : decode cMo_move 50 = .ok (.iload 6, 2) := by decide +kernel
theorem dMo_move_52 : decode cMo_move 52 = .ok (.ifCond .ne 10, 3) := by decide +kernel
theorem dMo_move_55 : decode cMo_move 55 = .ok (.iload_n 3, 1) := by decide +kernel
theorem dMo_move_56 : decode cMo_move 56 = .ok (.iload 4, 2) := by decide +kernel
theorem dMo_move_58 : decode cMo_move 58 = .ok (.iand, 1) := by decide +kernel
theorem dMo_move_59 : decode cMo_move 59 = .ok (.ifCond .eq 7, 3) := by decide +kernel
theorem dMo_move_62 : decode cMo_move 62 = .ok (.iconst 1, 1) := by decide +kernel
theorem dMo_move_63 : decode cMo_move 63 = .ok (.goto 17, 3) := by decide +kernel
theorem dMo_move_66 : decode cMo_move 66 = .ok (.aload_n 0, 1) := by decide +kernel
theorem dMo_move_67 : decode cMo_move 67 = .ok (.getfield 58, 3) := by decide +kernel
theorem dMo_move_70 : decode cMo_move 70 = .ok (.bipush 16, 2) := by decide +kernel
theorem dMo_move_72 : decode cMo_move 72 = .ok (.if_icmp .ne 7, 3) := by decide +kernel
theorem dMo_move_75 : decode cMo_move 75 = .ok (.iconst 2, 1) := by decide +kernel
theorem dMo_move_76 : decode cMo_move 76 = .ok (.goto 4, 3) := by decide +kernel
theorem dMo_move_79 : decode cMo_move 79 = .ok (.iconst 0, 1) := by decide +kernel
theorem dMo_move_80 : decode cMo_move 80 = .ok (.putfield 51, 3) := by decide +kernel
theorem dMo_move_83 : decode cMo_move 83 = .ok (.aload_n 0, 1) := by decide +kernel
theorem dMo_move_84 : decode cMo_move 84 = .ok (.getfield 51, 3) := by decide +kernel
theorem dMo_move_87 : decode cMo_move 87 = .ok (.ifCond .eq 5, 3) := by decide +kernel
theorem dMo_move_90 : decode cMo_move 90 = .ok (.iconst 0, 1) := by decide +kernel
theorem dMo_move_91 : decode cMo_move 91 = .ok (.ireturn, 1) := by decide +kernel
theorem dMo_move_92 : decode cMo_move 92 = .ok (.aload_n 0, 1) := by decide +kernel
theorem dMo_move_93 : decode cMo_move 93 = .ok (.getfield 7, 3) := by decide +kernel
theorem dMo_move_96 : decode cMo_move 96 = .ok (.iconst 5, 1) := by decide +kernel
theorem dMo_move_97 : decode cMo_move 97 = .ok (.aload_n 0, 1) := by decide +kernel
theorem dMo_move_98 : decode cMo_move 98 = .ok (.getfield 58, 3) := by decide +kernel
theorem dMo_move_101 : decode cMo_move 101 = .ok (.imul, 1) := by decide +kernel
theorem dMo_move_102 : decode cMo_move 102 = .ok (.iload_n 1, 1) := by decide +kernel
theorem dMo_move_103 : decode cMo_move 103 = .ok (.iastore, 1) := by decide +kernel
theorem dMo_move_104 : decode cMo_move 104 = .ok (.aload_n 0, 1) := by decide +kernel
theorem dMo_move_105 : decode cMo_move 105 = .ok (.getfield 7, 3) := by decide +kernel
theorem dMo_move_108 : decode cMo_move 108 = .ok (.iconst 5, 1) := by decide +kernel
theorem dMo_move_109 : decode cMo_move 109 = .ok (.aload_n 0, 1) := by decide +kernel
theorem dMo_move_110 : decode cMo_move 110 = .ok (.getfield 58, 3) := by decide +kernel
theorem dMo_move_113 : decode cMo_move 113 = .ok (.imul, 1) := by decide +kernel
theorem dMo_move_114 : decode cMo_move 114 = .ok (.iconst 1, 1) := by decide +kernel
theorem dMo_move_115 : decode cMo_move 115 = .ok (.iadd, 1) := by decide +kernel
theorem dMo_move_116 : decode cMo_move 116 = .ok (.iload_n 2, 1) := by decide +kernel
theorem dMo_move_117 : decode cMo_move 117 = .ok (.iastore, 1) := by decide +kernel
theorem dMo_move_118 : decode cMo_move 118 = .ok (.aload_n 0, 1) := by decide +kernel
theorem dMo_move_119 : decode cMo_move 119 = .ok (.getfield 7, 3) := by decide +kernel
theorem dMo_move_122 : decode cMo_move 122 = .ok (.iconst 5, 1) := by decide +kernel
theorem dMo_move_123 : decode cMo_move 123 = .ok (.aload_n 0, 1) := by decide +kernel
theorem dMo_move_124 : decode cMo_move 124 = .ok (.getfield 58, 3) := by decide +kernel
theorem dMo_move_127 : decode cMo_move 127 = .ok (.imul, 1) := by decide +kernel
theorem dMo_move_128 : decode cMo_move 128 = .ok (.iconst 2, 1) := by decide +kernel
theorem dMo_move_129 : decode cMo_move 129 = .ok (.iadd, 1) := by decide +kernel
theorem dMo_move_130 : decode cMo_move 130 = .ok (.iload_n 3, 1) := by decide +kernel
theorem dMo_move_131 : decode cMo_move 131 = .ok (.iastore, 1) := by decide +kernel
theorem dMo_move_132 : decode cMo_move 132 = .ok (.aload_n 0, 1) := by decide +kernel
theorem dMo_move_133 : decode cMo_move 133 = .ok (.getfield 7, 3) := by decide +kernel
theorem dMo_move_136 : decode cMo_move 136 = .ok (.iconst 5, 1) := by decide +kernel
theorem dMo_move_137 : decode cMo_move 137 = .ok (.aload_n 0, 1) := by decide +kernel
theorem dMo_move_138 : decode cMo_move 138 = .ok (.getfield 58, 3) := by decide +kernel
theorem dMo_move_141 : decode cMo_move 141 = .ok (.imul, 1) := by decide +kernel
theorem dMo_move_142 : decode cMo_move 142 = .ok (.iconst 3, 1) := by decide +kernel
theorem dMo_move_143 : decode cMo_move 143 = .ok (.iadd, 1) := by decide +kernel
theorem dMo_move_144 : decode cMo_move 144 = .ok (.iload 4, 2) := by decide +kernel
theorem dMo_move_146 : decode cMo_move 146 = .ok (.iastore, 1) := by decide +kernel
theorem dMo_move_147 : decode cMo_move 147 = .ok (.aload_n 0, 1) := by decide +kernel
theorem dMo_move_148 : decode cMo_move 148 = .ok (.getfield 7, 3) := by decide +kernel
theorem dMo_move_151 : decode cMo_move 151 = .ok (.iconst 5, 1) := by decide +kernel
theorem dMo_move_152 : decode cMo_move 152 = .ok (.aload_n 0, 1) := by decide +kernel
theorem dMo_move_153 : decode cMo_move 153 = .ok (.getfield 58, 3) := by decide +kernel
theorem dMo_move_156 : decode cMo_move 156 = .ok (.imul, 1) := by decide +kernel
theorem dMo_move_157 : decode cMo_move 157 = .ok (.iconst 4, 1) := by decide +kernel
theorem dMo_move_158 : decode cMo_move 158 = .ok (.iadd, 1) := by decide +kernel
theorem dMo_move_159 : decode cMo_move 159 = .ok (.iload 5, 2) := by decide +kernel
theorem dMo_move_161 : decode cMo_move 161 = .ok (.iastore, 1) := by decide +kernel
theorem dMo_move_162 : decode cMo_move 162 = .ok (.aload_n 0, 1) := by decide +kernel
theorem dMo_move_163 : decode cMo_move 163 = .ok (.dup, 1) := by decide +kernel
theorem dMo_move_164 : decode cMo_move 164 = .ok (.getfield 58, 3) := by decide +kernel
theorem dMo_move_167 : decode cMo_move 167 = .ok (.iconst 1, 1) := by decide +kernel
theorem dMo_move_168 : decode cMo_move 168 = .ok (.iadd, 1) := by decide +kernel
theorem dMo_move_169 : decode cMo_move 169 = .ok (.putfield 58, 3) := by decide +kernel
theorem dMo_move_172 : decode cMo_move 172 = .ok (.aload_n 0, 1) := by decide +kernel
theorem dMo_move_173 : decode cMo_move 173 = .ok (.getfield 58, 3) := by decide +kernel
theorem dMo_move_176 : decode cMo_move 176 = .ok (.ireturn, 1) := by decide +kernel
