theorem dX0_init_0 : decode cX0_init 0 = .ok (.aload_n 0, 1) := by decide +kernel
theorem dX0_init_1 : decode cX0_init 1 = .ok (.invokespecial 3, 3) := by decide +kernel
theorem dX0_init_4 : decode cX0_init 4 = .ok (.aload_n 0, 1) := by decide +kernel
theorem dX0_init_5 : decode cX0_init 5 = .ok (.sipush 1681, 3) := by decide +kernel
theorem dX0_init_8 : decode cX0_init 8 = .ok (.newarray .long, 2) := by decide +kernel
theorem dX0_init_10 : decode cX0_init 10 = .ok (.putfield 11, 3) := by decide +kernel
theorem dX0_init_13 : decode cX0_init 13 = .ok (.aload_n 0, 1) := by decide +kernel
theorem dX0_init_14 : decode cX0_init 14 = .ok (.bipush 41, 2) := by decide +kernel
theorem dX0_init_16 : decode cX0_init 16 = .ok (.newarray .long, 2) := by decide +kernel
theorem dX0_init_18 : decode cX0_init 18 = .ok (.putfield 15, 3) := by decide +kernel
theorem dX0_init_21 : decode cX0_init 21 = .ok (.iconst 0, 1) := by decide +kernel
theorem dX0_init_22 : decode cX0_init 22 = .ok (.istore_n 1, 1) := by decide +kernel
theorem dX0_init_23 : decode cX0_init 23 = .ok (.iload_n 1, 1) := by decide +kernel
theorem dX0_init_24 : decode cX0_init 24 = .ok (.bipush 41, 2) := by decide +kernel
theorem dX0_init_26 : decode cX0_init 26 = .ok (.if_icmp .ge 72, 3) := by decide +kernel
theorem dX0_init_29 : decode cX0_init 29 = .ok (.aload_n 0, 1) := by decide +kernel
theorem dX0_init_30 : decode cX0_init 30 = .ok (.getfield 11, 3) := by decide +kernel
theorem dX0_init_33 : decode cX0_init 33 = .ok (.iload_n 1, 1) := by decide +kernel
theorem dX0_init_34 : decode cX0_init 34 = .ok (.bipush 41, 2) := by decide +kernel
theorem dX0_init_36 : decode cX0_init 36 = .ok (.imul, 1) := by decide +kernel
theorem dX0_init_37 : decode cX0_init 37 = .ok (.lconst 1, 1) := by decide +kernel
theorem dX0_init_38 : decode cX0_init 38 = .ok (.lastore, 1) := by decide +kernel
theorem dX0_init_39 : decode cX0_init 39 = .ok (.iconst 1, 1) := by decide +kernel
theorem dX0_init_40 : decode cX0_init 40 = .ok (.istore_n 2, 1) := by decide +kernel
theorem dX0_init_41 : decode cX0_init 41 = .ok (.iload_n 2, 1) := by decide +kernel
theorem dX0_init_42 : decode cX0_init 42 = .ok (.iload_n 1, 1) := by decide +kernel
theorem dX0_init_43 : decode cX0_init 43 = .ok (.if_icmp .gt 49, 3) := by decide +kernel
theorem dX0_init_46 : decode cX0_init 46 = .ok (.aload_n 0, 1) := by decide +kernel
theorem dX0_init_47 : decode cX0_init 47 = .ok (.getfield 11, 3) := by decide +kernel
theorem dX0_init_50 : decode cX0_init 50 = .ok (.iload_n 1, 1) := by decide +kernel
theorem dX0_init_51 : decode cX0_init 51 = .ok (.bipush 41, 2) := by decide +kernel
theorem dX0_init_53 : decode cX0_init 53 = .ok (.imul, 1) := by decide +kernel
theorem dX0_init_54 : decode cX0_init 54 = .ok (.iload_n 2, 1) := by decide +kernel
theorem dX0_init_55 : decode cX0_init 55 = .ok (.iadd, 1) := by decide +kernel
theorem dX0_init_56 : decode cX0_init 56 = .ok (.aload_n 0, 1) := by decide +kernel
theorem dX0_init_57 : decode cX0_init 57 = .ok (.getfield 11, 3) := by decide +kernel
theorem dX0_init_60 : decode cX0_init 60 = .ok (.iload_n 1, 1) := by decide +kernel
theorem dX0_init_61 : decode cX0_init 61 = .ok (.iconst 1, 1) := by decide +kernel
theorem dX0_init_62 : decode cX0_init 62 = .ok (.isub, 1) := by decide +kernel
theorem dX0_init_63 : decode cX0_init 63 = .ok (.bipush 41, 2) := by decide +kernel
theorem dX0_init_65 : decode cX0_init 65 = .ok (.imul, 1) := by decide +kernel
theorem dX0_init_66 : decode cX0_init 66 = .ok (.iload_n 2, 1) := by decide +kernel
theorem dX0_init_67 : decode cX0_init 67 = .ok (.iadd, 1) := by decide +kernel
theorem dX0_init_68 : decode cX0_init 68 = .ok (.iconst 1, 1) := by decide +kernel
theorem dX0_init_69 : decode cX0_init 69 = .ok (.isub, 1) := by decide +kernel
theorem dX0_init_70 : decode cX0_init 70 = .ok (.laload, 1) := by decide +kernel
theorem dX0_init_71 : decode cX0_init 71 = .ok (.aload_n 0, 1) := by decide +kernel
theorem dX0_init_72 : decode cX0_init 72 = .ok (.getfield 11, 3) := by decide +kernel
theorem dX0_init_75 : decode cX0_init 75 = .ok (.iload_n 1, 1) := by decide +kernel
theorem dX0_init_76 : decode cX0_init 76 = .ok (.iconst 1, 1) := by decide +kernel
theorem dX0_init_77 : decode cX0_init 77 = .ok (.isub, 1) := by decide +kernel
theorem dX0_init_78 : decode cX0_init 78 = .ok (.bipush 41, 2) := by decide +kernel
theorem dX0_init_80 : decode cX0_init 80 = .ok (.imul, 1) := by decide +kernel
theorem dX0_init_81 : decode cX0_init 81 = .ok (.iload_n 2, 1) := by decide +kernel
theorem dX0_init_82 : decode cX0_init 82 = .ok (.iadd, 1) := by decide +kernel
theorem dX0_init_83 : decode cX0_init 83 = .ok (.laload, 1) := by decide +kernel
theorem dX0_init_84 : decode cX0_init 84 = .ok (.ladd, 1) := by decide +kernel
theorem dX0_init_85 : decode cX0_init 85 = .ok (.lastore, 1) := by decide +kernel
theorem dX0_init_86 : decode cX0_init 86 = .ok (.iinc 2 1, 3) := by decide +kernel
theorem dX0_init_89 : decode cX0_init 89 = .ok (.goto (-48), 3) := by decide +kernel
theorem dX0_init_92 : decode cX0_init 92 = .ok (.iinc 1 1, 3) := by decide +kernel
theorem dX0_init_95 : decode cX0_init 95 = .ok (.goto (-72), 3) := by decide +kernel
theorem dX0_init_98 : decode cX0_init 98 = .ok (.return_, 1) := by decide +kernel
theorem dX0_choose_0 : decode cX0_choose 0 = .ok (.iload_n 1, 1) := by decide +kernel
theorem dX0_choose_1 : decode cX0_choose 1 = .ok (.ifCond .lt 18, 3) := by decide +kernel
theorem dX0_choose_4 : decode cX0_choose 4 = .ok (.iload_n 1, 1) := by decide +kernel
theorem dX0_choose_5 : decode cX0_choose 5 = .ok (.bipush 40, 2) := by decide +kernel
theorem dX0_choose_7 : decode cX0_choose 7 = .ok (.if_icmp .gt 12, 3) := by decide +kernel
theorem dX0_choose_10 : decode cX0_choose 10 = .ok (.iload_n 2, 1) := by decide +kernel
theorem dX0_choose_11 : decode cX0_choose 11 = .ok (.ifCond .lt 8, 3) := by decide +kernel
theorem dX0_choose_14 : decode cX0_choose 14 = .ok (.iload_n 2, 1) := by decide +kernel
theorem dX0_choose_15 : decode cX0_choose 15 = .ok (.iload_n 1, 1) := by decide +kernel
theorem dX0_choose_16 : decode cX0_choose 16 = .ok (.if_icmp .le 5, 3) := by decide +kernel
theorem dX0_choose_19 : decode cX0_choose 19 = .ok (.lconst 0, 1) := by decide +kernel
theorem dX0_choose_20 : decode cX0_choose 20 = .ok (.lreturn, 1) := by decide +kernel
theorem dX0_choose_21 : decode cX0_choose 21 = .ok (.aload_n 0, 1) := by decide +kernel
theorem dX0_choose_22 : decode cX0_choose 22 = .ok (.getfield 11, 3) := by decide +kernel
theorem dX0_choose_25 : decode cX0_choose 25 = .ok (.iload_n 1, 1) := by decide +kernel
theorem dX0_choose_26 : decode cX0_choose 26 = .ok (.bipush 41, 2) := by decide +kernel
theorem dX0_choose_28 : decode cX0_choose 28 = .ok (.imul, 1) := by decide +kernel
theorem dX0_choose_29 : decode cX0_choose 29 = .ok (.iload_n 2, 1) := by decide +kernel
theorem dX0_choose_30 : decode cX0_choose 30 = .ok (.iadd, 1) := by decide +kernel
theorem dX0_choose_31 : decode cX0_choose 31 = .ok (.laload, 1) := by decide +kernel
theorem dX0_choose_32 : decode cX0_choose 32 = .ok (.lreturn, 1) := by decide +kernel
theorem dX0_lowBound_0 : decode cX0_lowBound 0 = .ok (.iload 4, 2) := by decide +kernel
theorem dX0_lowBound_2 : decode cX0_lowBound 2 = .ok (.i2l, 1) := by decide +kernel
theorem dX0_lowBound_3 : decode cX0_lowBound 3 = .ok (.aload_n 0, 1) := by decide +kernel
theorem dX0_lowBound_4 : decode cX0_lowBound 4 = .ok (.iload_n 1, 1) := by decide +kernel
theorem dX0_lowBound_5 : decode cX0_lowBound 5 = .ok (.iload_n 2, 1) := by decide +kernel
theorem dX0_lowBound_6 : decode cX0_lowBound 6 = .ok (.invokevirtual 18, 3) := by decide +kernel
theorem dX0_lowBound_9 : decode cX0_lowBound 9 = .ok (.lmul, 1) := by decide +kernel
theorem dX0_lowBound_10 : decode cX0_lowBound 10 = .ok (.lstore 5, 2) := by decide +kernel
theorem dX0_lowBound_12 : decode cX0_lowBound 12 = .ok (.iconst 0, 1) := by decide +kernel
theorem dX0_lowBound_13 : decode cX0_lowBound 13 = .ok (.istore 7, 2) := by decide +kernel
theorem dX0_lowBound_15 : decode cX0_lowBound 15 = .ok (.iload 7, 2) := by decide +kernel
theorem dX0_lowBound_17 : decode cX0_lowBound 17 = .ok (.iload_n 1, 1) := by decide +kernel
theorem dX0_lowBound_18 : decode cX0_lowBound 18 = .ok (.if_icmp .ge 32, 3) := by decide +kernel
theorem dX0_lowBound_21 : decode cX0_lowBound 21 = .ok (.ldc2_w 22, 3) := by decide +kernel
theorem dX0_lowBound_24 : decode cX0_lowBound 24 = .ok (.aload_n 0, 1) := by decide +kernel
theorem dX0_lowBound_25 : decode cX0_lowBound 25 = .ok (.iload_n 1, 1) := by decide +kernel
theorem dX0_lowBound_26 : decode cX0_lowBound 26 = .ok (.iload_n 2, 1) := by decide +kernel
theorem dX0_lowBound_27 : decode cX0_lowBound 27 = .ok (.iload 7, 2) := by decide +kernel
theorem dX0_lowBound_29 : decode cX0_lowBound 29 = .ok (.iload_n 3, 1) := by decide +kernel
theorem dX0_lowBound_30 : decode cX0_lowBound 30 = .ok (.iload_n 2, 1) := by decide +kernel
theorem dX0_lowBound_31 : decode cX0_lowBound 31 = .ok (.invokevirtual 24, 3) := by decide +kernel
theorem dX0_lowBound_34 : decode cX0_lowBound 34 = .ok (.lmul, 1) := by decide +kernel
theorem dX0_lowBound_35 : decode cX0_lowBound 35 = .ok (.lload 5, 2) := by decide +kernel
theorem dX0_lowBound_37 : decode cX0_lowBound 37 = .ok (.lcmp, 1) := by decide +kernel
theorem dX0_lowBound_38 : decode cX0_lowBound 38 = .ok (.ifCond .le 6, 3) := by decide +kernel
theorem dX0_lowBound_41 : decode cX0_lowBound 41 = .ok (.iload 7, 2) := by decide +kernel
theorem dX0_lowBound_43 : decode cX0_lowBound 43 = .ok (.ireturn, 1) := by decide +kernel
theorem dX0_lowBound_44 : decode cX0_lowBound 44 = .ok (.iinc 7 1, 3) := by decide +kernel
theorem dX0_lowBound_47 : decode cX0_lowBound 47 = .ok (.goto (-32), 3) := by decide +kernel
theorem dX0_lowBound_50 : decode cX0_lowBound 50 = .ok (.iload_n 1, 1) := by decide +kernel
theorem dX0_lowBound_51 : decode cX0_lowBound 51 = .ok (.ireturn, 1) := by decide +kernel
theorem dX0_highBound_0 : decode cX0_highBound 0 = .ok (.iload 4, 2) := by decide +kernel
theorem dX0_highBound_2 : decode cX0_highBound 2 = .ok (.i2l, 1) := by decide +kernel
theorem dX0_highBound_3 : decode cX0_highBound 3 = .ok (.aload_n 0, 1) := by decide +kernel
theorem dX0_highBound_4 : decode cX0_highBound 4 = .ok (.iload_n 1, 1) := by decide +kernel
theorem dX0_highBound_5 : decode cX0_highBound 5 = .ok (.iload_n 2, 1) := by decide +kernel
theorem dX0_highBound_6 : decode cX0_highBound 6 = .ok (.invokevirtual 18, 3) := by decide +kernel
theorem dX0_highBound_9 : decode cX0_highBound 9 = .ok (.lmul, 1) := by decide +kernel
theorem dX0_highBound_10 : decode cX0_highBound 10 = .ok (.lstore 5, 2) := by decide +kernel
theorem dX0_highBound_12 : decode cX0_highBound 12 = .ok (.iload_n 1, 1) := by decide +kernel
theorem dX0_highBound_13 : decode cX0_highBound 13 = .ok (.istore 7, 2) := by decide +kernel
theorem dX0_highBound_15 : decode cX0_highBound 15 = .ok (.iload 7, 2) := by decide +kernel
theorem dX0_highBound_17 : decode cX0_highBound 17 = .ok (.ifCond .le 32, 3) := by decide +kernel
theorem dX0_highBound_20 : decode cX0_highBound 20 = .ok (.ldc2_w 22, 3) := by decide +kernel
theorem dX0_highBound_23 : decode cX0_highBound 23 = .ok (.aload_n 0, 1) := by decide +kernel
theorem dX0_highBound_24 : decode cX0_highBound 24 = .ok (.iload_n 1, 1) := by decide +kernel
theorem dX0_highBound_25 : decode cX0_highBound 25 = .ok (.iload_n 2, 1) := by decide +kernel
theorem dX0_highBound_26 : decode cX0_highBound 26 = .ok (.iload 7, 2) := by decide +kernel
theorem dX0_highBound_28 : decode cX0_highBound 28 = .ok (.iconst 0, 1) := by decide +kernel
theorem dX0_highBound_29 : decode cX0_highBound 29 = .ok (.iload_n 3, 1) := by decide +kernel
theorem dX0_highBound_30 : decode cX0_highBound 30 = .ok (.invokevirtual 24, 3) := by decide +kernel
theorem dX0_highBound_33 : decode cX0_highBound 33 = .ok (.lmul, 1) := by decide +kernel
theorem dX0_highBound_34 : decode cX0_highBound 34 = .ok (.lload 5, 2) := by decide +kernel
theorem dX0_highBound_36 : decode cX0_highBound 36 = .ok (.lcmp, 1) := by decide +kernel
theorem dX0_highBound_37 : decode cX0_highBound 37 = .ok (.ifCond .le 6, 3) := by decide +kernel
theorem dX0_highBound_40 : decode cX0_highBound 40 = .ok (.iload 7, 2) := by decide +kernel
theorem dX0_highBound_42 : decode cX0_highBound 42 = .ok (.ireturn, 1) := by decide +kernel
theorem dX0_highBound_43 : decode cX0_highBound 43 = .ok (.iinc 7 (-1), 3) := by decide +kernel
theorem dX0_highBound_46 : decode cX0_highBound 46 = .ok (.goto (-31), 3) := by decide +kernel
theorem dX0_highBound_49 : decode cX0_highBound 49 = .ok (.iconst 0, 1) := by decide +kernel
theorem dX0_highBound_50 : decode cX0_highBound 50 = .ok (.ireturn, 1) := by decide +kernel
theorem dX0_waysWithMarked_0 : decode cX0_waysWithMarked 0 = .ok (.lconst 0, 1) := by decide +kernel
theorem dX0_waysWithMarked_1 : decode cX0_waysWithMarked 1 = .ok (.lstore 6, 2) := by decide +kernel
theorem dX0_waysWithMarked_3 : decode cX0_waysWithMarked 3 = .ok (.iload 4, 2) := by decide +kernel
theorem dX0_waysWithMarked_5 : decode cX0_waysWithMarked 5 = .ok (.istore 8, 2) := by decide +kernel
theorem dX0_waysWithMarked_7 : decode cX0_waysWithMarked 7 = .ok (.iload 8, 2) := by decide +kernel
theorem dX0_waysWithMarked_9 : decode cX0_waysWithMarked 9 = .ok (.iload 5, 2) := by decide +kernel
theorem dX0_waysWithMarked_11 : decode cX0_waysWithMarked 11 = .ok (.if_icmp .gt 39, 3) := by decide +kernel
theorem dX0_waysWithMarked_14 : decode cX0_waysWithMarked 14 = .ok (.iload 8, 2) := by decide +kernel
theorem dX0_waysWithMarked_16 : decode cX0_waysWithMarked 16 = .ok (.iload_n 2, 1) := by decide +kernel
theorem dX0_waysWithMarked_17 : decode cX0_waysWithMarked 17 = .ok (.if_icmp .gt 33, 3) := by decide +kernel
theorem dX0_waysWithMarked_20 : decode cX0_waysWithMarked 20 = .ok (.lload 6, 2) := by decide +kernel
theorem dX0_waysWithMarked_22 : decode cX0_waysWithMarked 22 = .ok (.aload_n 0, 1) := by decide +kernel
theorem dX0_waysWithMarked_23 : decode cX0_waysWithMarked 23 = .ok (.iload_n 3, 1) := by decide +kernel
theorem dX0_waysWithMarked_24 : decode cX0_waysWithMarked 24 = .ok (.iload 8, 2) := by decide +kernel
theorem dX0_waysWithMarked_26 : decode cX0_waysWithMarked 26 = .ok (.invokevirtual 18, 3) := by decide +kernel
theorem dX0_waysWithMarked_29 : decode cX0_waysWithMarked 29 = .ok (.aload_n 0, 1) := by decide +kernel
theorem dX0_waysWithMarked_30 : decode cX0_waysWithMarked 30 = .ok (.iload_n 1, 1) := by decide +kernel
theorem dX0_waysWithMarked_31 : decode cX0_waysWithMarked 31 = .ok (.iload_n 3, 1) := by decide +kernel
theorem dX0_waysWithMarked_32 : decode cX0_waysWithMarked 32 = .ok (.isub, 1) := by decide +kernel
theorem dX0_waysWithMarked_33 : decode cX0_waysWithMarked 33 = .ok (.iload_n 2, 1) := by decide +kernel
theorem dX0_waysWithMarked_34 : decode cX0_waysWithMarked 34 = .ok (.iload 8, 2) := by decide +kernel
theorem dX0_waysWithMarked_36 : decode cX0_waysWithMarked 36 = .ok (.isub, 1) := by decide +kernel
theorem dX0_waysWithMarked_37 : decode cX0_waysWithMarked 37 = .ok (.invokevirtual 18, 3) := by decide +kernel
theorem dX0_waysWithMarked_40 : decode cX0_waysWithMarked 40 = .ok (.lmul, 1) := by decide +kernel
theorem dX0_waysWithMarked_41 : decode cX0_waysWithMarked 41 = .ok (.ladd, 1) := by decide +kernel
theorem dX0_waysWithMarked_42 : decode cX0_waysWithMarked 42 = .ok (.lstore 6, 2) := by decide +kernel
theorem dX0_waysWithMarked_44 : decode cX0_waysWithMarked 44 = .ok (.iinc 8 1, 3) := by decide +kernel
theorem dX0_waysWithMarked_47 : decode cX0_waysWithMarked 47 = .ok (.goto (-40), 3) := by decide +kernel
theorem dX0_waysWithMarked_50 : decode cX0_waysWithMarked 50 = .ok (.lload 6, 2) := by decide +kernel
theorem dX0_waysWithMarked_52 : decode cX0_waysWithMarked 52 = .ok (.lreturn, 1) := by decide +kernel
theorem dX0_waysWithoutPair_0 : decode cX0_waysWithoutPair 0 = .ok (.iload_n 3, 1) := by decide +kernel
theorem dX0_waysWithoutPair_1 : decode cX0_waysWithoutPair 1 = .ok (.ifCond .lt 9, 3) := by decide +kernel
theorem dX0_waysWithoutPair_4 : decode cX0_waysWithoutPair 4 = .ok (.iload_n 3, 1) := by decide +kernel
theorem dX0_waysWithoutPair_5 : decode cX0_waysWithoutPair 5 = .ok (.bipush 40, 2) := by decide +kernel
theorem dX0_waysWithoutPair_7 : decode cX0_waysWithoutPair 7 = .ok (.if_icmp .le 5, 3) := by decide +kernel
theorem dX0_waysWithoutPair_10 : decode cX0_waysWithoutPair 10 = .ok (.lconst 0, 1) := by decide +kernel
theorem dX0_waysWithoutPair_11 : decode cX0_waysWithoutPair 11 = .ok (.lreturn, 1) := by decide +kernel
theorem dX0_waysWithoutPair_12 : decode cX0_waysWithoutPair 12 = .ok (.iload_n 2, 1) := by decide +kernel
theorem dX0_waysWithoutPair_13 : decode cX0_waysWithoutPair 13 = .ok (.istore 4, 2) := by decide +kernel
theorem dX0_waysWithoutPair_15 : decode cX0_waysWithoutPair 15 = .ok (.iconst 0, 1) := by decide +kernel
theorem dX0_waysWithoutPair_16 : decode cX0_waysWithoutPair 16 = .ok (.istore 5, 2) := by decide +kernel
theorem dX0_waysWithoutPair_18 : decode cX0_waysWithoutPair 18 = .ok (.iload 5, 2) := by decide +kernel
theorem dX0_waysWithoutPair_20 : decode cX0_waysWithoutPair 20 = .ok (.aload_n 1, 1) := by decide +kernel
theorem dX0_waysWithoutPair_21 : decode cX0_waysWithoutPair 21 = .ok (.arraylength, 1) := by decide +kernel
theorem dX0_waysWithoutPair_22 : decode cX0_waysWithoutPair 22 = .ok (.if_icmp .ge 18, 3) := by decide +kernel
theorem dX0_waysWithoutPair_25 : decode cX0_waysWithoutPair 25 = .ok (.iload 4, 2) := by decide +kernel
theorem dX0_waysWithoutPair_27 : decode cX0_waysWithoutPair 27 = .ok (.aload_n 1, 1) := by decide +kernel
theorem dX0_waysWithoutPair_28 : decode cX0_waysWithoutPair 28 = .ok (.iload 5, 2) := by decide +kernel
theorem dX0_waysWithoutPair_30 : decode cX0_waysWithoutPair 30 = .ok (.iaload, 1) := by decide +kernel
theorem dX0_waysWithoutPair_31 : decode cX0_waysWithoutPair 31 = .ok (.isub, 1) := by decide +kernel
theorem dX0_waysWithoutPair_32 : decode cX0_waysWithoutPair 32 = .ok (.istore 4, 2) := by decide +kernel
theorem dX0_waysWithoutPair_34 : decode cX0_waysWithoutPair 34 = .ok (.iinc 5 1, 3) := by decide +kernel
theorem dX0_waysWithoutPair_37 : decode cX0_waysWithoutPair 37 = .ok (.goto (-19), 3) := by decide +kernel
theorem dX0_waysWithoutPair_40 : decode cX0_waysWithoutPair 40 = .ok (.iconst 0, 1) := by decide +kernel
theorem dX0_waysWithoutPair_41 : decode cX0_waysWithoutPair 41 = .ok (.istore 5, 2) := by decide +kernel
theorem dX0_waysWithoutPair_43 : decode cX0_waysWithoutPair 43 = .ok (.iload 5, 2) := by decide +kernel
theorem dX0_waysWithoutPair_45 : decode cX0_waysWithoutPair 45 = .ok (.bipush 41, 2) := by decide +kernel
theorem dX0_waysWithoutPair_47 : decode cX0_waysWithoutPair 47 = .ok (.if_icmp .ge 24, 3) := by decide +kernel
theorem dX0_waysWithoutPair_50 : decode cX0_waysWithoutPair 50 = .ok (.aload_n 0, 1) := by decide +kernel
theorem dX0_waysWithoutPair_51 : decode cX0_waysWithoutPair 51 = .ok (.getfield 15, 3) := by decide +kernel
theorem dX0_waysWithoutPair_54 : decode cX0_waysWithoutPair 54 = .ok (.iload 5, 2) := by decide +kernel
theorem dX0_waysWithoutPair_56 : decode cX0_waysWithoutPair 56 = .ok (.aload_n 0, 1) := by decide +kernel
theorem dX0_waysWithoutPair_57 : decode cX0_waysWithoutPair 57 = .ok (.iload 4, 2) := by decide +kernel
theorem dX0_waysWithoutPair_59 : decode cX0_waysWithoutPair 59 = .ok (.iload 5, 2) := by decide +kernel
theorem dX0_waysWithoutPair_61 : decode cX0_waysWithoutPair 61 = .ok (.invokevirtual 18, 3) := by decide +kernel
theorem dX0_waysWithoutPair_64 : decode cX0_waysWithoutPair 64 = .ok (.lastore, 1) := by decide +kernel
theorem dX0_waysWithoutPair_65 : decode cX0_waysWithoutPair 65 = .ok (.iinc 5 1, 3) := by decide +kernel
theorem dX0_waysWithoutPair_68 : decode cX0_waysWithoutPair 68 = .ok (.goto (-25), 3) := by decide +kernel
theorem dX0_waysWithoutPair_71 : decode cX0_waysWithoutPair 71 = .ok (.iconst 0, 1) := by decide +kernel
theorem dX0_waysWithoutPair_72 : decode cX0_waysWithoutPair 72 = .ok (.istore 5, 2) := by decide +kernel
theorem dX0_waysWithoutPair_74 : decode cX0_waysWithoutPair 74 = .ok (.iload 5, 2) := by decide +kernel
theorem dX0_waysWithoutPair_76 : decode cX0_waysWithoutPair 76 = .ok (.aload_n 1, 1) := by decide +kernel
theorem dX0_waysWithoutPair_77 : decode cX0_waysWithoutPair 77 = .ok (.arraylength, 1) := by decide +kernel
theorem dX0_waysWithoutPair_78 : decode cX0_waysWithoutPair 78 = .ok (.if_icmp .ge 49, 3) := by decide +kernel
theorem dX0_waysWithoutPair_81 : decode cX0_waysWithoutPair 81 = .ok (.bipush 40, 2) := by decide +kernel
theorem dX0_waysWithoutPair_83 : decode cX0_waysWithoutPair 83 = .ok (.istore 6, 2) := by decide +kernel
theorem dX0_waysWithoutPair_85 : decode cX0_waysWithoutPair 85 = .ok (.iload 6, 2) := by decide +kernel
theorem dX0_waysWithoutPair_87 : decode cX0_waysWithoutPair 87 = .ok (.ifCond .le 34, 3) := by decide +kernel
theorem dX0_waysWithoutPair_90 : decode cX0_waysWithoutPair 90 = .ok (.aload_n 0, 1) := by decide +kernel
theorem dX0_waysWithoutPair_91 : decode cX0_waysWithoutPair 91 = .ok (.getfield 15, 3) := by decide +kernel
theorem dX0_waysWithoutPair_94 : decode cX0_waysWithoutPair 94 = .ok (.iload 6, 2) := by decide +kernel
theorem dX0_waysWithoutPair_96 : decode cX0_waysWithoutPair 96 = .ok (.dup2, 1) := by decide +kernel
theorem dX0_waysWithoutPair_97 : decode cX0_waysWithoutPair 97 = .ok (.laload, 1) := by decide +kernel
theorem dX0_waysWithoutPair_98 : decode cX0_waysWithoutPair 98 = .ok (.aload_n 1, 1) := by decide +kernel
theorem dX0_waysWithoutPair_99 : decode cX0_waysWithoutPair 99 = .ok (.iload 5, 2) := by decide +kernel
theorem dX0_waysWithoutPair_101 : decode cX0_waysWithoutPair 101 = .ok (.iaload, 1) := by decide +kernel
theorem dX0_waysWithoutPair_102 : decode cX0_waysWithoutPair 102 = .ok (.i2l, 1) := by decide +kernel
theorem dX0_waysWithoutPair_103 : decode cX0_waysWithoutPair 103 = .ok (.aload_n 0, 1) := by decide +kernel
theorem dX0_waysWithoutPair_104 : decode cX0_waysWithoutPair 104 = .ok (.getfield 15, 3) := by decide +kernel
theorem dX0_waysWithoutPair_107 : decode cX0_waysWithoutPair 107 = .ok (.iload 6, 2) := by decide +kernel
theorem dX0_waysWithoutPair_109 : decode cX0_waysWithoutPair 109 = .ok (.iconst 1, 1) := by decide +kernel
theorem dX0_waysWithoutPair_110 : decode cX0_waysWithoutPair 110 = .ok (.isub, 1) := by decide +kernel
theorem dX0_waysWithoutPair_111 : decode cX0_waysWithoutPair 111 = .ok (.laload, 1) := by decide +kernel
theorem dX0_waysWithoutPair_112 : decode cX0_waysWithoutPair 112 = .ok (.lmul, 1) := by decide +kernel
theorem dX0_waysWithoutPair_113 : decode cX0_waysWithoutPair 113 = .ok (.ladd, 1) := by decide +kernel
theorem dX0_waysWithoutPair_114 : decode cX0_waysWithoutPair 114 = .ok (.lastore, 1) := by decide +kernel
theorem dX0_waysWithoutPair_115 : decode cX0_waysWithoutPair 115 = .ok (.iinc 6 (-1), 3) := by decide +kernel
theorem dX0_waysWithoutPair_118 : decode cX0_waysWithoutPair 118 = .ok (.goto (-33), 3) := by decide +kernel
theorem dX0_waysWithoutPair_121 : decode cX0_waysWithoutPair 121 = .ok (.iinc 5 1, 3) := by decide +kernel
theorem dX0_waysWithoutPair_124 : decode cX0_waysWithoutPair 124 = .ok (.goto (-50), 3) := by decide +kernel
theorem dX0_waysWithoutPair_127 : decode cX0_waysWithoutPair 127 = .ok (.aload_n 0, 1) := by decide +kernel
theorem dX0_waysWithoutPair_128 : decode cX0_waysWithoutPair 128 = .ok (.getfield 15, 3) := by decide +kernel
theorem dX0_waysWithoutPair_131 : decode cX0_waysWithoutPair 131 = .ok (.iload_n 3, 1) := by decide +kernel
theorem dX0_waysWithoutPair_132 : decode cX0_waysWithoutPair 132 = .ok (.laload, 1) := by decide +kernel
theorem dX0_waysWithoutPair_133 : decode cX0_waysWithoutPair 133 = .ok (.lreturn, 1) := by decide +kernel
theorem dX0_commonDivisor_0 : decode cX0_commonDivisor 0 = .ok (.lload_n 0, 1) := by decide +kernel
theorem dX0_commonDivisor_1 : decode cX0_commonDivisor 1 = .ok (.invokestatic 28, 3) := by decide +kernel
theorem dX0_commonDivisor_4 : decode cX0_commonDivisor 4 = .ok (.lstore 4, 2) := by decide +kernel
theorem dX0_commonDivisor_6 : decode cX0_commonDivisor 6 = .ok (.lload_n 2, 1) := by decide +kernel
theorem dX0_commonDivisor_7 : decode cX0_commonDivisor 7 = .ok (.invokestatic 28, 3) := by decide +kernel
theorem dX0_commonDivisor_10 : decode cX0_commonDivisor 10 = .ok (.lstore 6, 2) := by decide +kernel
theorem dX0_commonDivisor_12 : decode cX0_commonDivisor 12 = .ok (.iconst 0, 1) := by decide +kernel
theorem dX0_commonDivisor_13 : decode cX0_commonDivisor 13 = .ok (.istore 8, 2) := by decide +kernel
theorem dX0_commonDivisor_15 : decode cX0_commonDivisor 15 = .ok (.iload 8, 2) := by decide +kernel
theorem dX0_commonDivisor_17 : decode cX0_commonDivisor 17 = .ok (.sipush 200, 3) := by decide +kernel
theorem dX0_commonDivisor_20 : decode cX0_commonDivisor 20 = .ok (.if_icmp .ge 31, 3) := by decide +kernel
theorem dX0_commonDivisor_23 : decode cX0_commonDivisor 23 = .ok (.lload 6, 2) := by decide +kernel
theorem dX0_commonDivisor_25 : decode cX0_commonDivisor 25 = .ok (.lconst 0, 1) := by decide +kernel
theorem dX0_commonDivisor_26 : decode cX0_commonDivisor 26 = .ok (.lcmp, 1) := by decide +kernel
theorem dX0_commonDivisor_27 : decode cX0_commonDivisor 27 = .ok (.ifCond .eq 24, 3) := by decide +kernel
theorem dX0_commonDivisor_30 : decode cX0_commonDivisor 30 = .ok (.lload 4, 2) := by decide +kernel
theorem dX0_commonDivisor_32 : decode cX0_commonDivisor 32 = .ok (.lload 6, 2) := by decide +kernel
theorem dX0_commonDivisor_34 : decode cX0_commonDivisor 34 = .ok (.lrem, 1) := by decide +kernel
theorem dX0_commonDivisor_35 : decode cX0_commonDivisor 35 = .ok (.lstore 9, 2) := by decide +kernel
theorem dX0_commonDivisor_37 : decode cX0_commonDivisor 37 = .ok (.lload 6, 2) := by decide +kernel
theorem dX0_commonDivisor_39 : decode cX0_commonDivisor 39 = .ok (.lstore 4, 2) := by decide +kernel
theorem dX0_commonDivisor_41 : decode cX0_commonDivisor 41 = .ok (.lload 9, 2) := by decide +kernel
theorem dX0_commonDivisor_43 : decode cX0_commonDivisor 43 = .ok (.lstore 6, 2) := by decide +kernel
theorem dX0_commonDivisor_45 : decode cX0_commonDivisor 45 = .ok (.iinc 8 1, 3) := by decide +kernel
theorem dX0_commonDivisor_48 : decode cX0_commonDivisor 48 = .ok (.goto (-33), 3) := by decide +kernel
theorem dX0_commonDivisor_51 : decode cX0_commonDivisor 51 = .ok (.lload 4, 2) := by decide +kernel
theorem dX0_commonDivisor_53 : decode cX0_commonDivisor 53 = .ok (.lreturn, 1) := by decide +kernel
theorem dX1_init_0 : decode cX1_init 0 = .ok (.aload_n 0, 1) := by decide +kernel
theorem dX1_init_1 : decode cX1_init 1 = .ok (.invokespecial 3, 3) := by decide +kernel
theorem dX1_init_4 : decode cX1_init 4 = .ok (.aload_n 0, 1) := by decide +kernel
theorem dX1_init_5 : decode cX1_init 5 = .ok (.bipush 40, 2) := by decide +kernel
theorem dX1_init_7 : decode cX1_init 7 = .ok (.newarray .int, 2) := by decide +kernel
theorem dX1_init_9 : decode cX1_init 9 = .ok (.putfield 9, 3) := by decide +kernel
theorem dX1_init_12 : decode cX1_init 12 = .ok (.aload_n 0, 1) := by decide +kernel
theorem dX1_init_13 : decode cX1_init 13 = .ok (.bipush 40, 2) := by decide +kernel
theorem dX1_init_15 : decode cX1_init 15 = .ok (.newarray .int, 2) := by decide +kernel
theorem dX1_init_17 : decode cX1_init 17 = .ok (.putfield 15, 3) := by decide +kernel
theorem dX1_init_20 : decode cX1_init 20 = .ok (.aload_n 0, 1) := by decide +kernel
theorem dX1_init_21 : decode cX1_init 21 = .ok (.bipush 16, 2) := by decide +kernel
theorem dX1_init_23 : decode cX1_init 23 = .ok (.newarray .int, 2) := by decide +kernel
theorem dX1_init_25 : decode cX1_init 25 = .ok (.putfield 18, 3) := by decide +kernel
theorem dX1_init_28 : decode cX1_init 28 = .ok (.aload_n 0, 1) := by decide +kernel
theorem dX1_init_29 : decode cX1_init 29 = .ok (.bipush 8, 2) := by decide +kernel
theorem dX1_init_31 : decode cX1_init 31 = .ok (.newarray .int, 2) := by decide +kernel
theorem dX1_init_33 : decode cX1_init 33 = .ok (.putfield 21, 3) := by decide +kernel
theorem dX1_init_36 : decode cX1_init 36 = .ok (.aload_n 0, 1) := by decide +kernel
theorem dX1_init_37 : decode cX1_init 37 = .ok (.bipush 6, 2) := by decide +kernel
theorem dX1_init_39 : decode cX1_init 39 = .ok (.newarray .int, 2) := by decide +kernel
theorem dX1_init_41 : decode cX1_init 41 = .ok (.putfield 26, 3) := by decide +kernel
theorem dX1_init_44 : decode cX1_init 44 = .ok (.aload_n 0, 1) := by decide +kernel
theorem dX1_init_45 : decode cX1_init 45 = .ok (.bipush 40, 2) := by decide +kernel
theorem dX1_init_47 : decode cX1_init 47 = .ok (.newarray .int, 2) := by decide +kernel
theorem dX1_init_49 : decode cX1_init 49 = .ok (.putfield 29, 3) := by decide +kernel
theorem dX1_init_52 : decode cX1_init 52 = .ok (.return_, 1) := by decide +kernel
theorem dX1_judge_0 : decode cX1_judge 0 = .ok (.aload_n 0, 1) := by decide +kernel
theorem dX1_judge_1 : decode cX1_judge 1 = .ok (.iconst 0, 1) := by decide +kernel
theorem dX1_judge_2 : decode cX1_judge 2 = .ok (.aload_n 1, 1) := by decide +kernel
theorem dX1_judge_3 : decode cX1_judge 3 = .ok (.getfield 32, 3) := by decide +kernel
theorem dX1_judge_6 : decode cX1_judge 6 = .ok (.bipush 40, 2) := by decide +kernel
theorem dX1_judge_8 : decode cX1_judge 8 = .ok (.invokestatic 38, 3) := by decide +kernel
theorem dX1_judge_11 : decode cX1_judge 11 = .ok (.invokestatic 44, 3) := by decide +kernel
theorem dX1_judge_14 : decode cX1_judge 14 = .ok (.putfield 47, 3) := by decide +kernel
theorem dX1_judge_17 : decode cX1_judge 17 = .ok (.aload_n 0, 1) := by decide +kernel
theorem dX1_judge_18 : decode cX1_judge 18 = .ok (.aload_n 1, 1) := by decide +kernel
theorem dX1_judge_19 : decode cX1_judge 19 = .ok (.invokevirtual 48, 3) := by decide +kernel
theorem dX1_judge_22 : decode cX1_judge 22 = .ok (.aload_n 0, 1) := by decide +kernel
theorem dX1_judge_23 : decode cX1_judge 23 = .ok (.aload_n 1, 1) := by decide +kernel
theorem dX1_judge_24 : decode cX1_judge 24 = .ok (.invokevirtual 52, 3) := by decide +kernel
theorem dX1_judge_27 : decode cX1_judge 27 = .ok (.aload_n 0, 1) := by decide +kernel
theorem dX1_judge_28 : decode cX1_judge 28 = .ok (.aload_n 1, 1) := by decide +kernel
theorem dX1_judge_29 : decode cX1_judge 29 = .ok (.invokevirtual 55, 3) := by decide +kernel
theorem dX1_judge_32 : decode cX1_judge 32 = .ok (.aload_n 0, 1) := by decide +kernel
theorem dX1_judge_33 : decode cX1_judge 33 = .ok (.invokevirtual 58, 3) := by decide +kernel
theorem dX1_judge_36 : decode cX1_judge 36 = .ok (.return_, 1) := by decide +kernel
theorem dX1_findVoters_0 : decode cX1_findVoters 0 = .ok (.iconst 0, 1) := by decide +kernel
theorem dX1_findVoters_1 : decode cX1_findVoters 1 = .ok (.istore_n 2, 1) := by decide +kernel
theorem dX1_findVoters_2 : decode cX1_findVoters 2 = .ok (.iload_n 2, 1) := by decide +kernel
theorem dX1_findVoters_3 : decode cX1_findVoters 3 = .ok (.aload_n 0, 1) := by decide +kernel
theorem dX1_findVoters_4 : decode cX1_findVoters 4 = .ok (.getfield 47, 3) := by decide +kernel
theorem dX1_findVoters_7 : decode cX1_findVoters 7 = .ok (.if_icmp .ge 43, 3) := by decide +kernel
theorem dX1_findVoters_10 : decode cX1_findVoters 10 = .ok (.aload_n 0, 1) := by decide +kernel
theorem dX1_findVoters_11 : decode cX1_findVoters 11 = .ok (.getfield 9, 3) := by decide +kernel
theorem dX1_findVoters_14 : decode cX1_findVoters 14 = .ok (.iload_n 2, 1) := by decide +kernel
theorem dX1_findVoters_15 : decode cX1_findVoters 15 = .ok (.aload_n 1, 1) := by decide +kernel
theorem dX1_findVoters_16 : decode cX1_findVoters 16 = .ok (.aload_n 1, 1) := by decide +kernel
theorem dX1_findVoters_17 : decode cX1_findVoters 17 = .ok (.getfield 61, 3) := by decide +kernel
theorem dX1_findVoters_20 : decode cX1_findVoters 20 = .ok (.iload_n 2, 1) := by decide +kernel
theorem dX1_findVoters_21 : decode cX1_findVoters 21 = .ok (.iaload, 1) := by decide +kernel
theorem dX1_findVoters_22 : decode cX1_findVoters 22 = .ok (.aload_n 1, 1) := by decide +kernel
theorem dX1_findVoters_23 : decode cX1_findVoters 23 = .ok (.getfield 64, 3) := by decide +kernel
theorem dX1_findVoters_26 : decode cX1_findVoters 26 = .ok (.iload_n 2, 1) := by decide +kernel
theorem dX1_findVoters_27 : decode cX1_findVoters 27 = .ok (.iaload, 1) := by decide +kernel
theorem dX1_findVoters_28 : decode cX1_findVoters 28 = .ok (.invokevirtual 67, 3) := by decide +kernel
theorem dX1_findVoters_31 : decode cX1_findVoters 31 = .ok (.iastore, 1) := by decide +kernel
theorem dX1_findVoters_32 : decode cX1_findVoters 32 = .ok (.aload_n 0, 1) := by decide +kernel
theorem dX1_findVoters_33 : decode cX1_findVoters 33 = .ok (.getfield 29, 3) := by decide +kernel
theorem dX1_findVoters_36 : decode cX1_findVoters 36 = .ok (.iload_n 2, 1) := by decide +kernel
theorem dX1_findVoters_37 : decode cX1_findVoters 37 = .ok (.aload_n 1, 1) := by decide +kernel
theorem dX1_findVoters_38 : decode cX1_findVoters 38 = .ok (.getfield 70, 3) := by decide +kernel
theorem dX1_findVoters_41 : decode cX1_findVoters 41 = .ok (.iload_n 2, 1) := by decide +kernel
theorem dX1_findVoters_42 : decode cX1_findVoters 42 = .ok (.iaload, 1) := by decide +kernel
theorem dX1_findVoters_43 : decode cX1_findVoters 43 = .ok (.iastore, 1) := by decide +kernel
theorem dX1_findVoters_44 : decode cX1_findVoters 44 = .ok (.iinc 2 1, 3) := by decide +kernel
theorem dX1_findVoters_47 : decode cX1_findVoters 47 = .ok (.goto (-45), 3) := by decide +kernel
theorem dX1_findVoters_50 : decode cX1_findVoters 50 = .ok (.return_, 1) := by decide +kernel
theorem dX1_findWrongs_0 : decode cX1_findWrongs 0 = .ok (.aload_n 0, 1) := by decide +kernel
theorem dX1_findWrongs_1 : decode cX1_findWrongs 1 = .ok (.getfield 18, 3) := by decide +kernel
theorem dX1_findWrongs_4 : decode cX1_findWrongs 4 = .ok (.iconst 0, 1) := by decide +kernel
theorem dX1_findWrongs_5 : decode cX1_findWrongs 5 = .ok (.invokestatic 73, 3) := by decide +kernel
theorem dX1_findWrongs_8 : decode cX1_findWrongs 8 = .ok (.iconst 0, 1) := by decide +kernel
theorem dX1_findWrongs_9 : decode cX1_findWrongs 9 = .ok (.istore_n 2, 1) := by decide +kernel
theorem dX1_findWrongs_10 : decode cX1_findWrongs 10 = .ok (.iconst 0, 1) := by decide +kernel
theorem dX1_findWrongs_11 : decode cX1_findWrongs 11 = .ok (.istore_n 3, 1) := by decide +kernel
theorem dX1_findWrongs_12 : decode cX1_findWrongs 12 = .ok (.iload_n 3, 1) := by decide +kernel
theorem dX1_findWrongs_13 : decode cX1_findWrongs 13 = .ok (.aload_n 0, 1) := by decide +kernel
theorem dX1_findWrongs_14 : decode cX1_findWrongs 14 = .ok (.getfield 47, 3) := by decide +kernel
theorem dX1_findWrongs_17 : decode cX1_findWrongs 17 = .ok (.if_icmp .ge 74, 3) := by decide +kernel
theorem dX1_findWrongs_20 : decode cX1_findWrongs 20 = .ok (.iload_n 3, 1) := by decide +kernel
theorem dX1_findWrongs_21 : decode cX1_findWrongs 21 = .ok (.ifCond .le 26, 3) := by decide +kernel
theorem dX1_findWrongs_24 : decode cX1_findWrongs 24 = .ok (.aload_n 0, 1) := by decide +kernel
theorem dX1_findWrongs_25 : decode cX1_findWrongs 25 = .ok (.getfield 29, 3) := by decide +kernel
theorem dX1_findWrongs_28 : decode cX1_findWrongs 28 = .ok (.iload_n 3, 1) := by decide +kernel
theorem dX1_findWrongs_29 : decode cX1_findWrongs 29 = .ok (.iaload, 1) := by decide +kernel
theorem dX1_findWrongs_30 : decode cX1_findWrongs 30 = .ok (.aload_n 0, 1) := by decide +kernel
theorem dX1_findWrongs_31 : decode cX1_findWrongs 31 = .ok (.getfield 29, 3) := by decide +kernel
theorem dX1_findWrongs_34 : decode cX1_findWrongs 34 = .ok (.iload_n 3, 1) := by decide +kernel
theorem dX1_findWrongs_35 : decode cX1_findWrongs 35 = .ok (.iconst 1, 1) := by decide +kernel
theorem dX1_findWrongs_36 : decode cX1_findWrongs 36 = .ok (.isub, 1) := by decide +kernel
theorem dX1_findWrongs_37 : decode cX1_findWrongs 37 = .ok (.iaload, 1) := by decide +kernel
theorem dX1_findWrongs_38 : decode cX1_findWrongs 38 = .ok (.if_icmp .ne 9, 3) := by decide +kernel
theorem dX1_findWrongs_41 : decode cX1_findWrongs 41 = .ok (.iload_n 2, 1) := by decide +kernel
theorem dX1_findWrongs_42 : decode cX1_findWrongs 42 = .ok (.iconst 1, 1) := by decide +kernel
theorem dX1_findWrongs_43 : decode cX1_findWrongs 43 = .ok (.iadd, 1) := by decide +kernel
theorem dX1_findWrongs_44 : decode cX1_findWrongs 44 = .ok (.goto 4, 3) := by decide +kernel
theorem dX1_findWrongs_47 : decode cX1_findWrongs 47 = .ok (.iconst 0, 1) := by decide +kernel
theorem dX1_findWrongs_48 : decode cX1_findWrongs 48 = .ok (.istore_n 2, 1) := by decide +kernel
theorem dX1_findWrongs_49 : decode cX1_findWrongs 49 = .ok (.aload_n 0, 1) := by decide +kernel
theorem dX1_findWrongs_50 : decode cX1_findWrongs 50 = .ok (.getfield 15, 3) := by decide +kernel
theorem dX1_findWrongs_53 : decode cX1_findWrongs 53 = .ok (.iload_n 3, 1) := by decide +kernel
theorem dX1_findWrongs_54 : decode cX1_findWrongs 54 = .ok (.aload_n 0, 1) := by decide +kernel
theorem dX1_findWrongs_55 : decode cX1_findWrongs 55 = .ok (.aload_n 1, 1) := by decide +kernel
theorem dX1_findWrongs_56 : decode cX1_findWrongs 56 = .ok (.iload_n 3, 1) := by decide +kernel
theorem dX1_findWrongs_57 : decode cX1_findWrongs 57 = .ok (.iload_n 2, 1) := by decide +kernel
theorem dX1_findWrongs_58 : decode cX1_findWrongs 58 = .ok (.invokevirtual 79, 3) := by decide +kernel
theorem dX1_findWrongs_61 : decode cX1_findWrongs 61 = .ok (.iastore, 1) := by decide +kernel
theorem dX1_findWrongs_62 : decode cX1_findWrongs 62 = .ok (.aload_n 0, 1) := by decide +kernel
theorem dX1_findWrongs_63 : decode cX1_findWrongs 63 = .ok (.iload_n 3, 1) := by decide +kernel
theorem dX1_findWrongs_64 : decode cX1_findWrongs 64 = .ok (.invokevirtual 83, 3) := by decide +kernel
theorem dX1_findWrongs_67 : decode cX1_findWrongs 67 = .ok (.ifCond .eq 18, 3) := by decide +kernel
theorem dX1_findWrongs_70 : decode cX1_findWrongs 70 = .ok (.aload_n 0, 1) := by decide +kernel
theorem dX1_findWrongs_71 : decode cX1_findWrongs 71 = .ok (.getfield 18, 3) := by decide +kernel
theorem dX1_findWrongs_74 : decode cX1_findWrongs 74 = .ok (.aload_n 0, 1) := by decide +kernel
theorem dX1_findWrongs_75 : decode cX1_findWrongs 75 = .ok (.getfield 9, 3) := by decide +kernel
theorem dX1_findWrongs_78 : decode cX1_findWrongs 78 = .ok (.iload_n 3, 1) := by decide +kernel
theorem dX1_findWrongs_79 : decode cX1_findWrongs 79 = .ok (.iaload, 1) := by decide +kernel
theorem dX1_findWrongs_80 : decode cX1_findWrongs 80 = .ok (.dup2, 1) := by decide +kernel
theorem dX1_findWrongs_81 : decode cX1_findWrongs 81 = .ok (.iaload, 1) := by decide +kernel
theorem dX1_findWrongs_82 : decode cX1_findWrongs 82 = .ok (.iconst 1, 1) := by decide +kernel
theorem dX1_findWrongs_83 : decode cX1_findWrongs 83 = .ok (.iadd, 1) := by decide +kernel
theorem dX1_findWrongs_84 : decode cX1_findWrongs 84 = .ok (.iastore, 1) := by decide +kernel
theorem dX1_findWrongs_85 : decode cX1_findWrongs 85 = .ok (.iinc 3 1, 3) := by decide +kernel
theorem dX1_findWrongs_88 : decode cX1_findWrongs 88 = .ok (.goto (-76), 3) := by decide +kernel
theorem dX1_findWrongs_91 : decode cX1_findWrongs 91 = .ok (.return_, 1) := by decide +kernel
theorem dX1_wrongOf_0 : decode cX1_wrongOf 0 = .ok (.aload_n 0, 1) := by decide +kernel
theorem dX1_wrongOf_1 : decode cX1_wrongOf 1 = .ok (.iload_n 2, 1) := by decide +kernel
theorem dX1_wrongOf_2 : decode cX1_wrongOf 2 = .ok (.invokevirtual 83, 3) := by decide +kernel
theorem dX1_wrongOf_5 : decode cX1_wrongOf 5 = .ok (.ifCond .ne 5, 3) := by decide +kernel
theorem dX1_wrongOf_8 : decode cX1_wrongOf 8 = .ok (.iconst 1, 1) := by decide +kernel
theorem dX1_wrongOf_9 : decode cX1_wrongOf 9 = .ok (.ireturn, 1) := by decide +kernel
theorem dX1_wrongOf_10 : decode cX1_wrongOf 10 = .ok (.aload_n 1, 1) := by decide +kernel
theorem dX1_wrongOf_11 : decode cX1_wrongOf 11 = .ok (.getfield 87, 3) := by decide +kernel
theorem dX1_wrongOf_14 : decode cX1_wrongOf 14 = .ok (.iload_n 2, 1) := by decide +kernel
theorem dX1_wrongOf_15 : decode cX1_wrongOf 15 = .ok (.iaload, 1) := by decide +kernel
theorem dX1_wrongOf_16 : decode cX1_wrongOf 16 = .ok (.istore 4, 2) := by decide +kernel
theorem dX1_wrongOf_18 : decode cX1_wrongOf 18 = .ok (.aload_n 1, 1) := by decide +kernel
theorem dX1_wrongOf_19 : decode cX1_wrongOf 19 = .ok (.getfield 90, 3) := by decide +kernel
theorem dX1_wrongOf_22 : decode cX1_wrongOf 22 = .ok (.aload_n 0, 1) := by decide +kernel
theorem dX1_wrongOf_23 : decode cX1_wrongOf 23 = .ok (.getfield 9, 3) := by decide +kernel
theorem dX1_wrongOf_26 : decode cX1_wrongOf 26 = .ok (.iload_n 2, 1) := by decide +kernel
theorem dX1_wrongOf_27 : decode cX1_wrongOf 27 = .ok (.iaload, 1) := by decide +kernel
theorem dX1_wrongOf_28 : decode cX1_wrongOf 28 = .ok (.iaload, 1) := by decide +kernel
theorem dX1_wrongOf_29 : decode cX1_wrongOf 29 = .ok (.istore 5, 2) := by decide +kernel
theorem dX1_wrongOf_31 : decode cX1_wrongOf 31 = .ok (.iload 4, 2) := by decide +kernel
theorem dX1_wrongOf_33 : decode cX1_wrongOf 33 = .ok (.aload_n 1, 1) := by decide +kernel
theorem dX1_wrongOf_34 : decode cX1_wrongOf 34 = .ok (.getfield 93, 3) := by decide +kernel
theorem dX1_wrongOf_37 : decode cX1_wrongOf 37 = .ok (.if_icmp .lt 19, 3) := by decide +kernel
theorem dX1_wrongOf_40 : decode cX1_wrongOf 40 = .ok (.iload 4, 2) := by decide +kernel
theorem dX1_wrongOf_42 : decode cX1_wrongOf 42 = .ok (.aload_n 1, 1) := by decide +kernel
theorem dX1_wrongOf_43 : decode cX1_wrongOf 43 = .ok (.getfield 96, 3) := by decide +kernel
theorem dX1_wrongOf_46 : decode cX1_wrongOf 46 = .ok (.if_icmp .gt 10, 3) := by decide +kernel
theorem dX1_wrongOf_49 : decode cX1_wrongOf 49 = .ok (.iload 5, 2) := by decide +kernel
theorem dX1_wrongOf_51 : decode cX1_wrongOf 51 = .ok (.iload 4, 2) := by decide +kernel
theorem dX1_wrongOf_53 : decode cX1_wrongOf 53 = .ok (.if_icmp .le 5, 3) := by decide +kernel
theorem dX1_wrongOf_56 : decode cX1_wrongOf 56 = .ok (.iconst 2, 1) := by decide +kernel
theorem dX1_wrongOf_57 : decode cX1_wrongOf 57 = .ok (.ireturn, 1) := by decide +kernel
theorem dX1_wrongOf_58 : decode cX1_wrongOf 58 = .ok (.aload_n 0, 1) := by decide +kernel
theorem dX1_wrongOf_59 : decode cX1_wrongOf 59 = .ok (.getfield 26, 3) := by decide +kernel
theorem dX1_wrongOf_62 : decode cX1_wrongOf 62 = .ok (.iconst 0, 1) := by decide +kernel
theorem dX1_wrongOf_63 : decode cX1_wrongOf 63 = .ok (.iload 4, 2) := by decide +kernel
theorem dX1_wrongOf_65 : decode cX1_wrongOf 65 = .ok (.iastore, 1) := by decide +kernel
theorem dX1_wrongOf_66 : decode cX1_wrongOf 66 = .ok (.aload_n 0, 1) := by decide +kernel
theorem dX1_wrongOf_67 : decode cX1_wrongOf 67 = .ok (.getfield 26, 3) := by decide +kernel
theorem dX1_wrongOf_70 : decode cX1_wrongOf 70 = .ok (.iconst 1, 1) := by decide +kernel
theorem dX1_wrongOf_71 : decode cX1_wrongOf 71 = .ok (.aload_n 1, 1) := by decide +kernel
theorem dX1_wrongOf_72 : decode cX1_wrongOf 72 = .ok (.getfield 64, 3) := by decide +kernel
theorem dX1_wrongOf_75 : decode cX1_wrongOf 75 = .ok (.iload_n 2, 1) := by decide +kernel
theorem dX1_wrongOf_76 : decode cX1_wrongOf 76 = .ok (.iaload, 1) := by decide +kernel
theorem dX1_wrongOf_77 : decode cX1_wrongOf 77 = .ok (.iastore, 1) := by decide +kernel
theorem dX1_wrongOf_78 : decode cX1_wrongOf 78 = .ok (.aload_n 0, 1) := by decide +kernel
theorem dX1_wrongOf_79 : decode cX1_wrongOf 79 = .ok (.getfield 26, 3) := by decide +kernel
theorem dX1_wrongOf_82 : decode cX1_wrongOf 82 = .ok (.iconst 2, 1) := by decide +kernel
theorem dX1_wrongOf_83 : decode cX1_wrongOf 83 = .ok (.iload_n 3, 1) := by decide +kernel
theorem dX1_wrongOf_84 : decode cX1_wrongOf 84 = .ok (.iastore, 1) := by decide +kernel
theorem dX1_wrongOf_85 : decode cX1_wrongOf 85 = .ok (.aload_n 0, 1) := by decide +kernel
theorem dX1_wrongOf_86 : decode cX1_wrongOf 86 = .ok (.getfield 26, 3) := by decide +kernel
theorem dX1_wrongOf_89 : decode cX1_wrongOf 89 = .ok (.iconst 3, 1) := by decide +kernel
theorem dX1_wrongOf_90 : decode cX1_wrongOf 90 = .ok (.aload_n 0, 1) := by decide +kernel
theorem dX1_wrongOf_91 : decode cX1_wrongOf 91 = .ok (.getfield 29, 3) := by decide +kernel
theorem dX1_wrongOf_94 : decode cX1_wrongOf 94 = .ok (.iload_n 2, 1) := by decide +kernel
theorem dX1_wrongOf_95 : decode cX1_wrongOf 95 = .ok (.iaload, 1) := by decide +kernel
theorem dX1_wrongOf_96 : decode cX1_wrongOf 96 = .ok (.iastore, 1) := by decide +kernel
theorem dX1_wrongOf_97 : decode cX1_wrongOf 97 = .ok (.aload_n 0, 1) := by decide +kernel
theorem dX1_wrongOf_98 : decode cX1_wrongOf 98 = .ok (.getfield 26, 3) := by decide +kernel
theorem dX1_wrongOf_101 : decode cX1_wrongOf 101 = .ok (.iconst 4, 1) := by decide +kernel
theorem dX1_wrongOf_102 : decode cX1_wrongOf 102 = .ok (.iload 5, 2) := by decide +kernel
theorem dX1_wrongOf_104 : decode cX1_wrongOf 104 = .ok (.iastore, 1) := by decide +kernel
theorem dX1_wrongOf_105 : decode cX1_wrongOf 105 = .ok (.aload_n 0, 1) := by decide +kernel
theorem dX1_wrongOf_106 : decode cX1_wrongOf 106 = .ok (.getfield 26, 3) := by decide +kernel
theorem dX1_wrongOf_109 : decode cX1_wrongOf 109 = .ok (.iconst 5, 1) := by decide +kernel
theorem dX1_wrongOf_110 : decode cX1_wrongOf 110 = .ok (.aload_n 0, 1) := by decide +kernel
theorem dX1_wrongOf_111 : decode cX1_wrongOf 111 = .ok (.getfield 18, 3) := by decide +kernel
theorem dX1_wrongOf_114 : decode cX1_wrongOf 114 = .ok (.aload_n 0, 1) := by decide +kernel
theorem dX1_wrongOf_115 : decode cX1_wrongOf 115 = .ok (.getfield 9, 3) := by decide +kernel
theorem dX1_wrongOf_118 : decode cX1_wrongOf 118 = .ok (.iload_n 2, 1) := by decide +kernel
theorem dX1_wrongOf_119 : decode cX1_wrongOf 119 = .ok (.iaload, 1) := by decide +kernel
theorem dX1_wrongOf_120 : decode cX1_wrongOf 120 = .ok (.iaload, 1) := by decide +kernel
theorem dX1_wrongOf_121 : decode cX1_wrongOf 121 = .ok (.iastore, 1) := by decide +kernel
theorem dX1_wrongOf_122 : decode cX1_wrongOf 122 = .ok (.aload_n 1, 1) := by decide +kernel
theorem dX1_wrongOf_123 : decode cX1_wrongOf 123 = .ok (.getfield 99, 3) := by decide +kernel
theorem dX1_wrongOf_126 : decode cX1_wrongOf 126 = .ok (.aload_n 0, 1) := by decide +kernel
theorem dX1_wrongOf_127 : decode cX1_wrongOf 127 = .ok (.getfield 26, 3) := by decide +kernel
theorem dX1_wrongOf_130 : decode cX1_wrongOf 130 = .ok (.invokevirtual 103, 3) := by decide +kernel
theorem dX1_wrongOf_133 : decode cX1_wrongOf 133 = .ok (.ifCond .eq 7, 3) := by decide +kernel
theorem dX1_wrongOf_136 : decode cX1_wrongOf 136 = .ok (.iconst 0, 1) := by decide +kernel
theorem dX1_wrongOf_137 : decode cX1_wrongOf 137 = .ok (.goto 4, 3) := by decide +kernel
theorem dX1_wrongOf_140 : decode cX1_wrongOf 140 = .ok (.iconst 3, 1) := by decide +kernel
theorem dX1_wrongOf_141 : decode cX1_wrongOf 141 = .ok (.ireturn, 1) := by decide +kernel
theorem dX1_strikeSheets_0 : decode cX1_strikeSheets 0 = .ok (.aload_n 0, 1) := by decide +kernel
theorem dX1_strikeSheets_1 : decode cX1_strikeSheets 1 = .ok (.aload_n 1, 1) := by decide +kernel
theorem dX1_strikeSheets_2 : decode cX1_strikeSheets 2 = .ok (.getfield 107, 3) := by decide +kernel
theorem dX1_strikeSheets_5 : decode cX1_strikeSheets 5 = .ok (.putfield 110, 3) := by decide +kernel
theorem dX1_strikeSheets_8 : decode cX1_strikeSheets 8 = .ok (.iconst 0, 1) := by decide +kernel
theorem dX1_strikeSheets_9 : decode cX1_strikeSheets 9 = .ok (.istore_n 2, 1) := by decide +kernel
theorem dX1_strikeSheets_10 : decode cX1_strikeSheets 10 = .ok (.iload_n 2, 1) := by decide +kernel
theorem dX1_strikeSheets_11 : decode cX1_strikeSheets 11 = .ok (.aload_n 1, 1) := by decide +kernel
theorem dX1_strikeSheets_12 : decode cX1_strikeSheets 12 = .ok (.getfield 113, 3) := by decide +kernel
theorem dX1_strikeSheets_15 : decode cX1_strikeSheets 15 = .ok (.if_icmp .ge 92, 3) := by decide +kernel
theorem dX1_strikeSheets_18 : decode cX1_strikeSheets 18 = .ok (.iconst 0, 1) := by decide +kernel
theorem dX1_strikeSheets_19 : decode cX1_strikeSheets 19 = .ok (.istore_n 3, 1) := by decide +kernel
theorem dX1_strikeSheets_20 : decode cX1_strikeSheets 20 = .ok (.iconst 0, 1) := by decide +kernel
theorem dX1_strikeSheets_21 : decode cX1_strikeSheets 21 = .ok (.istore 4, 2) := by decide +kernel
theorem dX1_strikeSheets_23 : decode cX1_strikeSheets 23 = .ok (.iconst 0, 1) := by decide +kernel
theorem dX1_strikeSheets_24 : decode cX1_strikeSheets 24 = .ok (.istore 5, 2) := by decide +kernel
theorem dX1_strikeSheets_26 : decode cX1_strikeSheets 26 = .ok (.iload 5, 2) := by decide +kernel
theorem dX1_strikeSheets_28 : decode cX1_strikeSheets 28 = .ok (.aload_n 0, 1) := by decide +kernel
theorem dX1_strikeSheets_29 : decode cX1_strikeSheets 29 = .ok (.getfield 47, 3) := by decide +kernel
theorem dX1_strikeSheets_32 : decode cX1_strikeSheets 32 = .ok (.if_icmp .ge 43, 3) := by decide +kernel
theorem dX1_strikeSheets_35 : decode cX1_strikeSheets 35 = .ok (.aload_n 0, 1) := by decide +kernel
theorem dX1_strikeSheets_36 : decode cX1_strikeSheets 36 = .ok (.getfield 29, 3) := by decide +kernel
theorem dX1_strikeSheets_39 : decode cX1_strikeSheets 39 = .ok (.iload 5, 2) := by decide +kernel
theorem dX1_strikeSheets_41 : decode cX1_strikeSheets 41 = .ok (.iaload, 1) := by decide +kernel
theorem dX1_strikeSheets_42 : decode cX1_strikeSheets 42 = .ok (.iload_n 2, 1) := by decide +kernel
theorem dX1_strikeSheets_43 : decode cX1_strikeSheets 43 = .ok (.if_icmp .ne 26, 3) := by decide +kernel
theorem dX1_strikeSheets_46 : decode cX1_strikeSheets 46 = .ok (.iinc 3 1, 3) := by decide +kernel
theorem dX1_strikeSheets_49 : decode cX1_strikeSheets 49 = .ok (.iload 4, 2) := by decide +kernel
theorem dX1_strikeSheets_51 : decode cX1_strikeSheets 51 = .ok (.aload_n 0, 1) := by decide +kernel
theorem dX1_strikeSheets_52 : decode cX1_strikeSheets 52 = .ok (.getfield 15, 3) := by decide +kernel
theorem dX1_strikeSheets_55 : decode cX1_strikeSheets 55 = .ok (.iload 5, 2) := by decide +kernel
theorem dX1_strikeSheets_57 : decode cX1_strikeSheets 57 = .ok (.iaload, 1) := by decide +kernel
theorem dX1_strikeSheets_58 : decode cX1_strikeSheets 58 = .ok (.ifCond .ne 7, 3) := by decide +kernel
theorem dX1_strikeSheets_61 : decode cX1_strikeSheets 61 = .ok (.iconst 0, 1) := by decide +kernel
theorem dX1_strikeSheets_62 : decode cX1_strikeSheets 62 = .ok (.goto 4, 3) := by decide +kernel
theorem dX1_strikeSheets_65 : decode cX1_strikeSheets 65 = .ok (.iconst 1, 1) := by decide +kernel
theorem dX1_strikeSheets_66 : decode cX1_strikeSheets 66 = .ok (.iadd, 1) := by decide +kernel
theorem dX1_strikeSheets_67 : decode cX1_strikeSheets 67 = .ok (.istore 4, 2) := by decide +kernel
theorem dX1_strikeSheets_69 : decode cX1_strikeSheets 69 = .ok (.iinc 5 1, 3) := by decide +kernel
theorem dX1_strikeSheets_72 : decode cX1_strikeSheets 72 = .ok (.goto (-46), 3) := by decide +kernel
theorem dX1_strikeSheets_75 : decode cX1_strikeSheets 75 = .ok (.iload 4, 2) := by decide +kernel
theorem dX1_strikeSheets_77 : decode cX1_strikeSheets 77 = .ok (.bipush 100, 2) := by decide +kernel
theorem dX1_strikeSheets_79 : decode cX1_strikeSheets 79 = .ok (.imul, 1) := by decide +kernel
theorem dX1_strikeSheets_80 : decode cX1_strikeSheets 80 = .ok (.aload_n 1, 1) := by decide +kernel
theorem dX1_strikeSheets_81 : decode cX1_strikeSheets 81 = .ok (.getfield 116, 3) := by decide +kernel
theorem dX1_strikeSheets_84 : decode cX1_strikeSheets 84 = .ok (.iload_n 3, 1) := by decide +kernel
theorem dX1_strikeSheets_85 : decode cX1_strikeSheets 85 = .ok (.imul, 1) := by decide +kernel
theorem dX1_strikeSheets_86 : decode cX1_strikeSheets 86 = .ok (.if_icmp .le 15, 3) := by decide +kernel
theorem dX1_strikeSheets_89 : decode cX1_strikeSheets 89 = .ok (.aload_n 0, 1) := by decide +kernel
theorem dX1_strikeSheets_90 : decode cX1_strikeSheets 90 = .ok (.dup, 1) := by decide +kernel
theorem dX1_strikeSheets_91 : decode cX1_strikeSheets 91 = .ok (.getfield 110, 3) := by decide +kernel
theorem dX1_strikeSheets_94 : decode cX1_strikeSheets 94 = .ok (.iconst 1, 1) := by decide +kernel
theorem dX1_strikeSheets_95 : decode cX1_strikeSheets 95 = .ok (.iload_n 2, 1) := by decide +kernel
theorem dX1_strikeSheets_96 : decode cX1_strikeSheets 96 = .ok (.ishl, 1) := by decide +kernel
theorem dX1_strikeSheets_97 : decode cX1_strikeSheets 97 = .ok (.ior, 1) := by decide +kernel
theorem dX1_strikeSheets_98 : decode cX1_strikeSheets 98 = .ok (.putfield 110, 3) := by decide +kernel
theorem dX1_strikeSheets_101 : decode cX1_strikeSheets 101 = .ok (.iinc 2 1, 3) := by decide +kernel
theorem dX1_strikeSheets_104 : decode cX1_strikeSheets 104 = .ok (.goto (-94), 3) := by decide +kernel
theorem dX1_strikeSheets_107 : decode cX1_strikeSheets 107 = .ok (.return_, 1) := by decide +kernel
theorem dX1_findDoubles_0 : decode cX1_findDoubles 0 = .ok (.aload_n 0, 1) := by decide +kernel
theorem dX1_findDoubles_1 : decode cX1_findDoubles 1 = .ok (.getfield 21, 3) := by decide +kernel
theorem dX1_findDoubles_4 : decode cX1_findDoubles 4 = .ok (.iconst 0, 1) := by decide +kernel
theorem dX1_findDoubles_5 : decode cX1_findDoubles 5 = .ok (.invokestatic 73, 3) := by decide +kernel
theorem dX1_findDoubles_8 : decode cX1_findDoubles 8 = .ok (.iconst 0, 1) := by decide +kernel
theorem dX1_findDoubles_9 : decode cX1_findDoubles 9 = .ok (.istore_n 1, 1) := by decide +kernel
theorem dX1_findDoubles_10 : decode cX1_findDoubles 10 = .ok (.iconst 0, 1) := by decide +kernel
theorem dX1_findDoubles_11 : decode cX1_findDoubles 11 = .ok (.istore_n 2, 1) := by decide +kernel
theorem dX1_findDoubles_12 : decode cX1_findDoubles 12 = .ok (.iload_n 2, 1) := by decide +kernel
theorem dX1_findDoubles_13 : decode cX1_findDoubles 13 = .ok (.aload_n 0, 1) := by decide +kernel
theorem dX1_findDoubles_14 : decode cX1_findDoubles 14 = .ok (.getfield 47, 3) := by decide +kernel
theorem dX1_findDoubles_17 : decode cX1_findDoubles 17 = .ok (.if_icmp .ge 101, 3) := by decide +kernel
theorem dX1_findDoubles_20 : decode cX1_findDoubles 20 = .ok (.aload_n 0, 1) := by decide +kernel
theorem dX1_findDoubles_21 : decode cX1_findDoubles 21 = .ok (.getfield 15, 3) := by decide +kernel
theorem dX1_findDoubles_24 : decode cX1_findDoubles 24 = .ok (.iload_n 2, 1) := by decide +kernel
theorem dX1_findDoubles_25 : decode cX1_findDoubles 25 = .ok (.iaload, 1) := by decide +kernel
theorem dX1_findDoubles_26 : decode cX1_findDoubles 26 = .ok (.ifCond .ne 86, 3) := by decide +kernel
theorem dX1_findDoubles_29 : decode cX1_findDoubles 29 = .ok (.aload_n 0, 1) := by decide +kernel
theorem dX1_findDoubles_30 : decode cX1_findDoubles 30 = .ok (.getfield 29, 3) := by decide +kernel
theorem dX1_findDoubles_33 : decode cX1_findDoubles 33 = .ok (.iload_n 2, 1) := by decide +kernel
theorem dX1_findDoubles_34 : decode cX1_findDoubles 34 = .ok (.iaload, 1) := by decide +kernel
theorem dX1_findDoubles_35 : decode cX1_findDoubles 35 = .ok (.istore_n 3, 1) := by decide +kernel
theorem dX1_findDoubles_36 : decode cX1_findDoubles 36 = .ok (.iconst 1, 1) := by decide +kernel
theorem dX1_findDoubles_37 : decode cX1_findDoubles 37 = .ok (.aload_n 0, 1) := by decide +kernel
theorem dX1_findDoubles_38 : decode cX1_findDoubles 38 = .ok (.getfield 9, 3) := by decide +kernel
theorem dX1_findDoubles_41 : decode cX1_findDoubles 41 = .ok (.iload_n 2, 1) := by decide +kernel
theorem dX1_findDoubles_42 : decode cX1_findDoubles 42 = .ok (.iaload, 1) := by decide +kernel
theorem dX1_findDoubles_43 : decode cX1_findDoubles 43 = .ok (.ishl, 1) := by decide +kernel
theorem dX1_findDoubles_44 : decode cX1_findDoubles 44 = .ok (.istore 4, 2) := by decide +kernel
theorem dX1_findDoubles_46 : decode cX1_findDoubles 46 = .ok (.aload_n 0, 1) := by decide +kernel
theorem dX1_findDoubles_47 : decode cX1_findDoubles 47 = .ok (.getfield 110, 3) := by decide +kernel
theorem dX1_findDoubles_50 : decode cX1_findDoubles 50 = .ok (.iload_n 3, 1) := by decide +kernel
theorem dX1_findDoubles_51 : decode cX1_findDoubles 51 = .ok (.ishr, 1) := by decide +kernel
theorem dX1_findDoubles_52 : decode cX1_findDoubles 52 = .ok (.iconst 1, 1) := by decide +kernel
theorem dX1_findDoubles_53 : decode cX1_findDoubles 53 = .ok (.iand, 1) := by decide +kernel
theorem dX1_findDoubles_54 : decode cX1_findDoubles 54 = .ok (.iconst 1, 1) := by decide +kernel
theorem dX1_findDoubles_55 : decode cX1_findDoubles 55 = .ok (.if_icmp .ne 13, 3) := by decide +kernel
theorem dX1_findDoubles_58 : decode cX1_findDoubles 58 = .ok (.aload_n 0, 1) := by decide +kernel
theorem dX1_findDoubles_59 : decode cX1_findDoubles 59 = .ok (.getfield 15, 3) := by decide +kernel
theorem dX1_findDoubles_62 : decode cX1_findDoubles 62 = .ok (.iload_n 2, 1) := by decide +kernel
theorem dX1_findDoubles_63 : decode cX1_findDoubles 63 = .ok (.iconst 4, 1) := by decide +kernel
theorem dX1_findDoubles_64 : decode cX1_findDoubles 64 = .ok (.iastore, 1) := by decide +kernel
theorem dX1_findDoubles_65 : decode cX1_findDoubles 65 = .ok (.goto 47, 3) := by decide +kernel
theorem dX1_findDoubles_68 : decode cX1_findDoubles 68 = .ok (.iload_n 3, 1) := by decide +kernel
theorem dX1_findDoubles_69 : decode cX1_findDoubles 69 = .ok (.ifCond .lt 43, 3) := by decide +kernel
theorem dX1_findDoubles_72 : decode cX1_findDoubles 72 = .ok (.iload_n 3, 1) := by decide +kernel
theorem dX1_findDoubles_73 : decode cX1_findDoubles 73 = .ok (.bipush 8, 2) := by decide +kernel
theorem dX1_findDoubles_75 : decode cX1_findDoubles 75 = .ok (.if_icmp .ge 37, 3) := by decide +kernel
theorem dX1_findDoubles_78 : decode cX1_findDoubles 78 = .ok (.aload_n 0, 1) := by decide +kernel
theorem dX1_findDoubles_79 : decode cX1_findDoubles 79 = .ok (.getfield 15, 3) := by decide +kernel
theorem dX1_findDoubles_82 : decode cX1_findDoubles 82 = .ok (.iload_n 2, 1) := by decide +kernel
theorem dX1_findDoubles_83 : decode cX1_findDoubles 83 = .ok (.iload_n 1, 1) := by decide +kernel
theorem dX1_findDoubles_84 : decode cX1_findDoubles 84 = .ok (.iload 4, 2) := by decide +kernel
theorem dX1_findDoubles_86 : decode cX1_findDoubles 86 = .ok (.iand, 1) := by decide +kernel
theorem dX1_findDoubles_87 : decode cX1_findDoubles 87 = .ok (.ifCond .ne 7, 3) := by decide +kernel
theorem dX1_findDoubles_90 : decode cX1_findDoubles 90 = .ok (.iconst 0, 1) := by decide +kernel
theorem dX1_findDoubles_91 : decode cX1_findDoubles 91 = .ok (.goto 4, 3) := by decide +kernel
theorem dX1_findDoubles_94 : decode cX1_findDoubles 94 = .ok (.iconst 5, 1) := by decide +kernel
theorem dX1_findDoubles_95 : decode cX1_findDoubles 95 = .ok (.iastore, 1) := by decide +kernel
theorem dX1_findDoubles_96 : decode cX1_findDoubles 96 = .ok (.iload_n 1, 1) := by decide +kernel
theorem dX1_findDoubles_97 : decode cX1_findDoubles 97 = .ok (.iload 4, 2) := by decide +kernel
theorem dX1_findDoubles_99 : decode cX1_findDoubles 99 = .ok (.ior, 1) := by decide +kernel
theorem dX1_findDoubles_100 : decode cX1_findDoubles 100 = .ok (.istore_n 1, 1) := by decide +kernel
theorem dX1_findDoubles_101 : decode cX1_findDoubles 101 = .ok (.aload_n 0, 1) := by decide +kernel
theorem dX1_findDoubles_102 : decode cX1_findDoubles 102 = .ok (.getfield 21, 3) := by decide +kernel
theorem dX1_findDoubles_105 : decode cX1_findDoubles 105 = .ok (.iload_n 3, 1) := by decide +kernel
theorem dX1_findDoubles_106 : decode cX1_findDoubles 106 = .ok (.dup2, 1) := by decide +kernel
theorem dX1_findDoubles_107 : decode cX1_findDoubles 107 = .ok (.iaload, 1) := by decide +kernel
theorem dX1_findDoubles_108 : decode cX1_findDoubles 108 = .ok (.iload 4, 2) := by decide +kernel
theorem dX1_findDoubles_110 : decode cX1_findDoubles 110 = .ok (.ior, 1) := by decide +kernel
theorem dX1_findDoubles_111 : decode cX1_findDoubles 111 = .ok (.iastore, 1) := by decide +kernel
theorem dX1_findDoubles_112 : decode cX1_findDoubles 112 = .ok (.iinc 2 1, 3) := by decide +kernel
theorem dX1_findDoubles_115 : decode cX1_findDoubles 115 = .ok (.goto (-103), 3) := by decide +kernel
theorem dX1_findDoubles_118 : decode cX1_findDoubles 118 = .ok (.return_, 1) := by decide +kernel
theorem dX1_hasVoter_0 : decode cX1_hasVoter 0 = .ok (.aload_n 0, 1) := by decide +kernel
theorem dX1_hasVoter_1 : decode cX1_hasVoter 1 = .ok (.getfield 9, 3) := by decide +kernel
theorem dX1_hasVoter_4 : decode cX1_hasVoter 4 = .ok (.iload_n 1, 1) := by decide +kernel
theorem dX1_hasVoter_5 : decode cX1_hasVoter 5 = .ok (.iaload, 1) := by decide +kernel
theorem dX1_hasVoter_6 : decode cX1_hasVoter 6 = .ok (.ifCond .lt 18, 3) := by decide +kernel
theorem dX1_hasVoter_9 : decode cX1_hasVoter 9 = .ok (.aload_n 0, 1) := by decide +kernel
theorem dX1_hasVoter_10 : decode cX1_hasVoter 10 = .ok (.getfield 9, 3) := by decide +kernel
theorem dX1_hasVoter_13 : decode cX1_hasVoter 13 = .ok (.iload_n 1, 1) := by decide +kernel
theorem dX1_hasVoter_14 : decode cX1_hasVoter 14 = .ok (.iaload, 1) := by decide +kernel
theorem dX1_hasVoter_15 : decode cX1_hasVoter 15 = .ok (.bipush 16, 2) := by decide +kernel
theorem dX1_hasVoter_17 : decode cX1_hasVoter 17 = .ok (.if_icmp .ge 7, 3) := by decide +kernel
theorem dX1_hasVoter_20 : decode cX1_hasVoter 20 = .ok (.iconst 1, 1) := by decide +kernel
theorem dX1_hasVoter_21 : decode cX1_hasVoter 21 = .ok (.goto 4, 3) := by decide +kernel
theorem dX1_hasVoter_24 : decode cX1_hasVoter 24 = .ok (.iconst 0, 1) := by decide +kernel
theorem dX1_hasVoter_25 : decode cX1_hasVoter 25 = .ok (.ireturn, 1) := by decide +kernel
theorem dX1_isGood_0 : decode cX1_isGood 0 = .ok (.aload_n 0, 1) := by decide +kernel
theorem dX1_isGood_1 : decode cX1_isGood 1 = .ok (.getfield 15, 3) := by decide +kernel
theorem dX1_isGood_4 : decode cX1_isGood 4 = .ok (.iload_n 1, 1) := by decide +kernel
theorem dX1_isGood_5 : decode cX1_isGood 5 = .ok (.iaload, 1) := by decide +kernel
theorem dX1_isGood_6 : decode cX1_isGood 6 = .ok (.ifCond .eq 13, 3) := by decide +kernel
theorem dX1_isGood_9 : decode cX1_isGood 9 = .ok (.aload_n 0, 1) := by decide +kernel
theorem dX1_isGood_10 : decode cX1_isGood 10 = .ok (.getfield 15, 3) := by decide +kernel
theorem dX1_isGood_13 : decode cX1_isGood 13 = .ok (.iload_n 1, 1) := by decide +kernel
theorem dX1_isGood_14 : decode cX1_isGood 14 = .ok (.iaload, 1) := by decide +kernel
theorem dX1_isGood_15 : decode cX1_isGood 15 = .ok (.iconst 5, 1) := by decide +kernel
theorem dX1_isGood_16 : decode cX1_isGood 16 = .ok (.if_icmp .ne 7, 3) := by decide +kernel
theorem dX1_isGood_19 : decode cX1_isGood 19 = .ok (.iconst 1, 1) := by decide +kernel
theorem dX1_isGood_20 : decode cX1_isGood 20 = .ok (.goto 4, 3) := by decide +kernel
theorem dX1_isGood_23 : decode cX1_isGood 23 = .ok (.iconst 0, 1) := by decide +kernel
theorem dX1_isGood_24 : decode cX1_isGood 24 = .ok (.ireturn, 1) := by decide +kernel
theorem dX1_isGoodIn_0 : decode cX1_isGoodIn 0 = .ok (.lload_n 1, 1) := by decide +kernel
theorem dX1_isGoodIn_1 : decode cX1_isGoodIn 1 = .ok (.iload_n 3, 1) := by decide +kernel
theorem dX1_isGoodIn_2 : decode cX1_isGoodIn 2 = .ok (.lshr, 1) := by decide +kernel
theorem dX1_isGoodIn_3 : decode cX1_isGoodIn 3 = .ok (.lconst 1, 1) := by decide +kernel
theorem dX1_isGoodIn_4 : decode cX1_isGoodIn 4 = .ok (.land, 1) := by decide +kernel
theorem dX1_isGoodIn_5 : decode cX1_isGoodIn 5 = .ok (.lconst 1, 1) := by decide +kernel
theorem dX1_isGoodIn_6 : decode cX1_isGoodIn 6 = .ok (.lcmp, 1) := by decide +kernel
theorem dX1_isGoodIn_7 : decode cX1_isGoodIn 7 = .ok (.ifCond .ne 23, 3) := by decide +kernel
theorem dX1_isGoodIn_10 : decode cX1_isGoodIn 10 = .ok (.aload_n 0, 1) := by decide +kernel
theorem dX1_isGoodIn_11 : decode cX1_isGoodIn 11 = .ok (.iload_n 3, 1) := by decide +kernel
theorem dX1_isGoodIn_12 : decode cX1_isGoodIn 12 = .ok (.invokevirtual 119, 3) := by decide +kernel
theorem dX1_isGoodIn_15 : decode cX1_isGoodIn 15 = .ok (.ifCond .eq 15, 3) := by decide +kernel
theorem dX1_isGoodIn_18 : decode cX1_isGoodIn 18 = .ok (.aload_n 0, 1) := by decide +kernel
theorem dX1_isGoodIn_19 : decode cX1_isGoodIn 19 = .ok (.iload_n 3, 1) := by decide +kernel
theorem dX1_isGoodIn_20 : decode cX1_isGoodIn 20 = .ok (.invokevirtual 83, 3) := by decide +kernel
theorem dX1_isGoodIn_23 : decode cX1_isGoodIn 23 = .ok (.ifCond .eq 7, 3) := by decide +kernel
theorem dX1_isGoodIn_26 : decode cX1_isGoodIn 26 = .ok (.iconst 1, 1) := by decide +kernel
theorem dX1_isGoodIn_27 : decode cX1_isGoodIn 27 = .ok (.goto 4, 3) := by decide +kernel
theorem dX1_isGoodIn_30 : decode cX1_isGoodIn 30 = .ok (.iconst 0, 1) := by decide +kernel
theorem dX1_isGoodIn_31 : decode cX1_isGoodIn 31 = .ok (.ireturn, 1) := by decide +kernel
theorem dX1_countJudged_0 : decode cX1_countJudged 0 = .ok (.iconst 0, 1) := by decide +kernel
theorem dX1_countJudged_1 : decode cX1_countJudged 1 = .ok (.istore 4, 2) := by decide +kernel
theorem dX1_countJudged_3 : decode cX1_countJudged 3 = .ok (.iconst 0, 1) := by decide +kernel
theorem dX1_countJudged_4 : decode cX1_countJudged 4 = .ok (.iload_n 2, 1) := by decide +kernel
theorem dX1_countJudged_5 : decode cX1_countJudged 5 = .ok (.invokestatic 44, 3) := by decide +kernel
theorem dX1_countJudged_8 : decode cX1_countJudged 8 = .ok (.istore 5, 2) := by decide +kernel
theorem dX1_countJudged_10 : decode cX1_countJudged 10 = .ok (.iload 5, 2) := by decide +kernel
theorem dX1_countJudged_12 : decode cX1_countJudged 12 = .ok (.iload_n 3, 1) := by decide +kernel
theorem dX1_countJudged_13 : decode cX1_countJudged 13 = .ok (.if_icmp .ge 39, 3) := by decide +kernel
theorem dX1_countJudged_16 : decode cX1_countJudged 16 = .ok (.iload 5, 2) := by decide +kernel
theorem dX1_countJudged_18 : decode cX1_countJudged 18 = .ok (.aload_n 0, 1) := by decide +kernel
theorem dX1_countJudged_19 : decode cX1_countJudged 19 = .ok (.getfield 47, 3) := by decide +kernel
theorem dX1_countJudged_22 : decode cX1_countJudged 22 = .ok (.if_icmp .ge 30, 3) := by decide +kernel
theorem dX1_countJudged_25 : decode cX1_countJudged 25 = .ok (.iload 4, 2) := by decide +kernel
theorem dX1_countJudged_27 : decode cX1_countJudged 27 = .ok (.aload_n 0, 1) := by decide +kernel
theorem dX1_countJudged_28 : decode cX1_countJudged 28 = .ok (.getfield 15, 3) := by decide +kernel
theorem dX1_countJudged_31 : decode cX1_countJudged 31 = .ok (.iload 5, 2) := by decide +kernel
theorem dX1_countJudged_33 : decode cX1_countJudged 33 = .ok (.iaload, 1) := by decide +kernel
theorem dX1_countJudged_34 : decode cX1_countJudged 34 = .ok (.iload_n 1, 1) := by decide +kernel
theorem dX1_countJudged_35 : decode cX1_countJudged 35 = .ok (.if_icmp .ne 7, 3) := by decide +kernel
theorem dX1_countJudged_38 : decode cX1_countJudged 38 = .ok (.iconst 1, 1) := by decide +kernel
theorem dX1_countJudged_39 : decode cX1_countJudged 39 = .ok (.goto 4, 3) := by decide +kernel
theorem dX1_countJudged_42 : decode cX1_countJudged 42 = .ok (.iconst 0, 1) := by decide +kernel
theorem dX1_countJudged_43 : decode cX1_countJudged 43 = .ok (.iadd, 1) := by decide +kernel
theorem dX1_countJudged_44 : decode cX1_countJudged 44 = .ok (.istore 4, 2) := by decide +kernel
theorem dX1_countJudged_46 : decode cX1_countJudged 46 = .ok (.iinc 5 1, 3) := by decide +kernel
theorem dX1_countJudged_49 : decode cX1_countJudged 49 = .ok (.goto (-39), 3) := by decide +kernel
theorem dX1_countJudged_52 : decode cX1_countJudged 52 = .ok (.iload 4, 2) := by decide +kernel
theorem dX1_countJudged_54 : decode cX1_countJudged 54 = .ok (.ireturn, 1) := by decide +kernel
theorem dX1_linesOf_0 : decode cX1_linesOf 0 = .ok (.iconst 0, 1) := by decide +kernel
theorem dX1_linesOf_1 : decode cX1_linesOf 1 = .ok (.istore_n 2, 1) := by decide +kernel
theorem dX1_linesOf_2 : decode cX1_linesOf 2 = .ok (.iconst 0, 1) := by decide +kernel
theorem dX1_linesOf_3 : decode cX1_linesOf 3 = .ok (.istore_n 3, 1) := by decide +kernel
theorem dX1_linesOf_4 : decode cX1_linesOf 4 = .ok (.iload_n 3, 1) := by decide +kernel
theorem dX1_linesOf_5 : decode cX1_linesOf 5 = .ok (.aload_n 0, 1) := by decide +kernel
theorem dX1_linesOf_6 : decode cX1_linesOf 6 = .ok (.getfield 47, 3) := by decide +kernel
theorem dX1_linesOf_9 : decode cX1_linesOf 9 = .ok (.if_icmp .ge 27, 3) := by decide +kernel
theorem dX1_linesOf_12 : decode cX1_linesOf 12 = .ok (.iload_n 2, 1) := by decide +kernel
theorem dX1_linesOf_13 : decode cX1_linesOf 13 = .ok (.aload_n 0, 1) := by decide +kernel
theorem dX1_linesOf_14 : decode cX1_linesOf 14 = .ok (.getfield 9, 3) := by decide +kernel
theorem dX1_linesOf_17 : decode cX1_linesOf 17 = .ok (.iload_n 3, 1) := by decide +kernel
theorem dX1_linesOf_18 : decode cX1_linesOf 18 = .ok (.iaload, 1) := by decide +kernel
theorem dX1_linesOf_19 : decode cX1_linesOf 19 = .ok (.iload_n 1, 1) := by decide +kernel
theorem dX1_linesOf_20 : decode cX1_linesOf 20 = .ok (.if_icmp .ne 7, 3) := by decide +kernel
theorem dX1_linesOf_23 : decode cX1_linesOf 23 = .ok (.iconst 1, 1) := by decide +kernel
theorem dX1_linesOf_24 : decode cX1_linesOf 24 = .ok (.goto 4, 3) := by decide +kernel
theorem dX1_linesOf_27 : decode cX1_linesOf 27 = .ok (.iconst 0, 1) := by decide +kernel
theorem dX1_linesOf_28 : decode cX1_linesOf 28 = .ok (.iadd, 1) := by decide +kernel
theorem dX1_linesOf_29 : decode cX1_linesOf 29 = .ok (.istore_n 2, 1) := by decide +kernel
theorem dX1_linesOf_30 : decode cX1_linesOf 30 = .ok (.iinc 3 1, 3) := by decide +kernel
theorem dX1_linesOf_33 : decode cX1_linesOf 33 = .ok (.goto (-29), 3) := by decide +kernel
theorem dX1_linesOf_36 : decode cX1_linesOf 36 = .ok (.iload_n 2, 1) := by decide +kernel
theorem dX1_linesOf_37 : decode cX1_linesOf 37 = .ok (.ireturn, 1) := by decide +kernel
theorem dX1_trueLinesOf_0 : decode cX1_trueLinesOf 0 = .ok (.iconst 0, 1) := by decide +kernel
theorem dX1_trueLinesOf_1 : decode cX1_trueLinesOf 1 = .ok (.istore_n 2, 1) := by decide +kernel
theorem dX1_trueLinesOf_2 : decode cX1_trueLinesOf 2 = .ok (.iconst 0, 1) := by decide +kernel
theorem dX1_trueLinesOf_3 : decode cX1_trueLinesOf 3 = .ok (.istore_n 3, 1) := by decide +kernel
theorem dX1_trueLinesOf_4 : decode cX1_trueLinesOf 4 = .ok (.iload_n 3, 1) := by decide +kernel
theorem dX1_trueLinesOf_5 : decode cX1_trueLinesOf 5 = .ok (.aload_n 0, 1) := by decide +kernel
theorem dX1_trueLinesOf_6 : decode cX1_trueLinesOf 6 = .ok (.getfield 47, 3) := by decide +kernel
theorem dX1_trueLinesOf_9 : decode cX1_trueLinesOf 9 = .ok (.if_icmp .ge 36, 3) := by decide +kernel
theorem dX1_trueLinesOf_12 : decode cX1_trueLinesOf 12 = .ok (.iload_n 2, 1) := by decide +kernel
theorem dX1_trueLinesOf_13 : decode cX1_trueLinesOf 13 = .ok (.aload_n 0, 1) := by decide +kernel
theorem dX1_trueLinesOf_14 : decode cX1_trueLinesOf 14 = .ok (.getfield 9, 3) := by decide +kernel
theorem dX1_trueLinesOf_17 : decode cX1_trueLinesOf 17 = .ok (.iload_n 3, 1) := by decide +kernel
theorem dX1_trueLinesOf_18 : decode cX1_trueLinesOf 18 = .ok (.iaload, 1) := by decide +kernel
theorem dX1_trueLinesOf_19 : decode cX1_trueLinesOf 19 = .ok (.iload_n 1, 1) := by decide +kernel
theorem dX1_trueLinesOf_20 : decode cX1_trueLinesOf 20 = .ok (.if_icmp .ne 16, 3) := by decide +kernel
theorem dX1_trueLinesOf_23 : decode cX1_trueLinesOf 23 = .ok (.aload_n 0, 1) := by decide +kernel
theorem dX1_trueLinesOf_24 : decode cX1_trueLinesOf 24 = .ok (.getfield 15, 3) := by decide +kernel
theorem dX1_trueLinesOf_27 : decode cX1_trueLinesOf 27 = .ok (.iload_n 3, 1) := by decide +kernel
theorem dX1_trueLinesOf_28 : decode cX1_trueLinesOf 28 = .ok (.iaload, 1) := by decide +kernel
theorem dX1_trueLinesOf_29 : decode cX1_trueLinesOf 29 = .ok (.ifCond .ne 7, 3) := by decide +kernel
theorem dX1_trueLinesOf_32 : decode cX1_trueLinesOf 32 = .ok (.iconst 1, 1) := by decide +kernel
theorem dX1_trueLinesOf_33 : decode cX1_trueLinesOf 33 = .ok (.goto 4, 3) := by decide +kernel
theorem dX1_trueLinesOf_36 : decode cX1_trueLinesOf 36 = .ok (.iconst 0, 1) := by decide +kernel
theorem dX1_trueLinesOf_37 : decode cX1_trueLinesOf 37 = .ok (.iadd, 1) := by decide +kernel
theorem dX1_trueLinesOf_38 : decode cX1_trueLinesOf 38 = .ok (.istore_n 2, 1) := by decide +kernel
theorem dX1_trueLinesOf_39 : decode cX1_trueLinesOf 39 = .ok (.iinc 3 1, 3) := by decide +kernel
theorem dX1_trueLinesOf_42 : decode cX1_trueLinesOf 42 = .ok (.goto (-38), 3) := by decide +kernel
theorem dX1_trueLinesOf_45 : decode cX1_trueLinesOf 45 = .ok (.iload_n 2, 1) := by decide +kernel
theorem dX1_trueLinesOf_46 : decode cX1_trueLinesOf 46 = .ok (.ireturn, 1) := by decide +kernel
theorem dX1_goodIn_0 : decode cX1_goodIn 0 = .ok (.iconst 0, 1) := by decide +kernel
theorem dX1_goodIn_1 : decode cX1_goodIn 1 = .ok (.istore_n 3, 1) := by decide +kernel
theorem dX1_goodIn_2 : decode cX1_goodIn 2 = .ok (.iconst 0, 1) := by decide +kernel
theorem dX1_goodIn_3 : decode cX1_goodIn 3 = .ok (.istore 4, 2) := by decide +kernel
theorem dX1_goodIn_5 : decode cX1_goodIn 5 = .ok (.iload 4, 2) := by decide +kernel
theorem dX1_goodIn_7 : decode cX1_goodIn 7 = .ok (.aload_n 0, 1) := by decide +kernel
theorem dX1_goodIn_8 : decode cX1_goodIn 8 = .ok (.getfield 47, 3) := by decide +kernel
theorem dX1_goodIn_11 : decode cX1_goodIn 11 = .ok (.if_icmp .ge 27, 3) := by decide +kernel
theorem dX1_goodIn_14 : decode cX1_goodIn 14 = .ok (.iload_n 3, 1) := by decide +kernel
theorem dX1_goodIn_15 : decode cX1_goodIn 15 = .ok (.aload_n 0, 1) := by decide +kernel
theorem dX1_goodIn_16 : decode cX1_goodIn 16 = .ok (.lload_n 1, 1) := by decide +kernel
theorem dX1_goodIn_17 : decode cX1_goodIn 17 = .ok (.iload 4, 2) := by decide +kernel
theorem dX1_goodIn_19 : decode cX1_goodIn 19 = .ok (.invokevirtual 122, 3) := by decide +kernel
theorem dX1_goodIn_22 : decode cX1_goodIn 22 = .ok (.ifCond .eq 7, 3) := by decide +kernel
theorem dX1_goodIn_25 : decode cX1_goodIn 25 = .ok (.iconst 1, 1) := by decide +kernel
theorem dX1_goodIn_26 : decode cX1_goodIn 26 = .ok (.goto 4, 3) := by decide +kernel
theorem dX1_goodIn_29 : decode cX1_goodIn 29 = .ok (.iconst 0, 1) := by decide +kernel
theorem dX1_goodIn_30 : decode cX1_goodIn 30 = .ok (.iadd, 1) := by decide +kernel
theorem dX1_goodIn_31 : decode cX1_goodIn 31 = .ok (.istore_n 3, 1) := by decide +kernel
theorem dX1_goodIn_32 : decode cX1_goodIn 32 = .ok (.iinc 4 1, 3) := by decide +kernel
theorem dX1_goodIn_35 : decode cX1_goodIn 35 = .ok (.goto (-30), 3) := by decide +kernel
theorem dX1_goodIn_38 : decode cX1_goodIn 38 = .ok (.iload_n 3, 1) := by decide +kernel
theorem dX1_goodIn_39 : decode cX1_goodIn 39 = .ok (.ireturn, 1) := by decide +kernel
theorem dX1_tallyGood_0 : decode cX1_tallyGood 0 = .ok (.aload_n 0, 1) := by decide +kernel
theorem dX1_tallyGood_1 : decode cX1_tallyGood 1 = .ok (.getfield 18, 3) := by decide +kernel
theorem dX1_tallyGood_4 : decode cX1_tallyGood 4 = .ok (.iconst 0, 1) := by decide +kernel
theorem dX1_tallyGood_5 : decode cX1_tallyGood 5 = .ok (.invokestatic 73, 3) := by decide +kernel
theorem dX1_tallyGood_8 : decode cX1_tallyGood 8 = .ok (.iconst 0, 1) := by decide +kernel
theorem dX1_tallyGood_9 : decode cX1_tallyGood 9 = .ok (.istore_n 3, 1) := by decide +kernel
theorem dX1_tallyGood_10 : decode cX1_tallyGood 10 = .ok (.iload_n 3, 1) := by decide +kernel
theorem dX1_tallyGood_11 : decode cX1_tallyGood 11 = .ok (.aload_n 0, 1) := by decide +kernel
theorem dX1_tallyGood_12 : decode cX1_tallyGood 12 = .ok (.getfield 47, 3) := by decide +kernel
theorem dX1_tallyGood_15 : decode cX1_tallyGood 15 = .ok (.if_icmp .ge 33, 3) := by decide +kernel
theorem dX1_tallyGood_18 : decode cX1_tallyGood 18 = .ok (.aload_n 0, 1) := by decide +kernel
theorem dX1_tallyGood_19 : decode cX1_tallyGood 19 = .ok (.lload_n 1, 1) := by decide +kernel
theorem dX1_tallyGood_20 : decode cX1_tallyGood 20 = .ok (.iload_n 3, 1) := by decide +kernel
theorem dX1_tallyGood_21 : decode cX1_tallyGood 21 = .ok (.invokevirtual 122, 3) := by decide +kernel
theorem dX1_tallyGood_24 : decode cX1_tallyGood 24 = .ok (.ifCond .eq 18, 3) := by decide +kernel
theorem dX1_tallyGood_27 : decode cX1_tallyGood 27 = .ok (.aload_n 0, 1) := by decide +kernel
theorem dX1_tallyGood_28 : decode cX1_tallyGood 28 = .ok (.getfield 18, 3) := by decide +kernel
theorem dX1_tallyGood_31 : decode cX1_tallyGood 31 = .ok (.aload_n 0, 1) := by decide +kernel
theorem dX1_tallyGood_32 : decode cX1_tallyGood 32 = .ok (.getfield 9, 3) := by decide +kernel
theorem dX1_tallyGood_35 : decode cX1_tallyGood 35 = .ok (.iload_n 3, 1) := by decide +kernel
theorem dX1_tallyGood_36 : decode cX1_tallyGood 36 = .ok (.iaload, 1) := by decide +kernel
theorem dX1_tallyGood_37 : decode cX1_tallyGood 37 = .ok (.dup2, 1) := by decide +kernel
theorem dX1_tallyGood_38 : decode cX1_tallyGood 38 = .ok (.iaload, 1) := by decide +kernel
theorem dX1_tallyGood_39 : decode cX1_tallyGood 39 = .ok (.iconst 1, 1) := by decide +kernel
theorem dX1_tallyGood_40 : decode cX1_tallyGood 40 = .ok (.iadd, 1) := by decide +kernel
theorem dX1_tallyGood_41 : decode cX1_tallyGood 41 = .ok (.iastore, 1) := by decide +kernel
theorem dX1_tallyGood_42 : decode cX1_tallyGood 42 = .ok (.iinc 3 1, 3) := by decide +kernel
theorem dX1_tallyGood_45 : decode cX1_tallyGood 45 = .ok (.goto (-35), 3) := by decide +kernel
theorem dX1_tallyGood_48 : decode cX1_tallyGood 48 = .ok (.return_, 1) := by decide +kernel
theorem dX1_pairsIn_0 : decode cX1_pairsIn 0 = .ok (.aload_n 0, 1) := by decide +kernel
theorem dX1_pairsIn_1 : decode cX1_pairsIn 1 = .ok (.lload_n 1, 1) := by decide +kernel
theorem dX1_pairsIn_2 : decode cX1_pairsIn 2 = .ok (.invokevirtual 126, 3) := by decide +kernel
theorem dX1_pairsIn_5 : decode cX1_pairsIn 5 = .ok (.iconst 0, 1) := by decide +kernel
theorem dX1_pairsIn_6 : decode cX1_pairsIn 6 = .ok (.istore_n 3, 1) := by decide +kernel
theorem dX1_pairsIn_7 : decode cX1_pairsIn 7 = .ok (.iconst 0, 1) := by decide +kernel
theorem dX1_pairsIn_8 : decode cX1_pairsIn 8 = .ok (.istore 4, 2) := by decide +kernel
theorem dX1_pairsIn_10 : decode cX1_pairsIn 10 = .ok (.iload 4, 2) := by decide +kernel
theorem dX1_pairsIn_12 : decode cX1_pairsIn 12 = .ok (.bipush 16, 2) := by decide +kernel
theorem dX1_pairsIn_14 : decode cX1_pairsIn 14 = .ok (.if_icmp .ge 31, 3) := by decide +kernel
theorem dX1_pairsIn_17 : decode cX1_pairsIn 17 = .ok (.iload_n 3, 1) := by decide +kernel
theorem dX1_pairsIn_18 : decode cX1_pairsIn 18 = .ok (.aload_n 0, 1) := by decide +kernel
theorem dX1_pairsIn_19 : decode cX1_pairsIn 19 = .ok (.getfield 18, 3) := by decide +kernel
theorem dX1_pairsIn_22 : decode cX1_pairsIn 22 = .ok (.iload 4, 2) := by decide +kernel
theorem dX1_pairsIn_24 : decode cX1_pairsIn 24 = .ok (.iaload, 1) := by decide +kernel
theorem dX1_pairsIn_25 : decode cX1_pairsIn 25 = .ok (.aload_n 0, 1) := by decide +kernel
theorem dX1_pairsIn_26 : decode cX1_pairsIn 26 = .ok (.getfield 18, 3) := by decide +kernel
theorem dX1_pairsIn_29 : decode cX1_pairsIn 29 = .ok (.iload 4, 2) := by decide +kernel
theorem dX1_pairsIn_31 : decode cX1_pairsIn 31 = .ok (.iaload, 1) := by decide +kernel
theorem dX1_pairsIn_32 : decode cX1_pairsIn 32 = .ok (.iconst 1, 1) := by decide +kernel
theorem dX1_pairsIn_33 : decode cX1_pairsIn 33 = .ok (.isub, 1) := by decide +kernel
theorem dX1_pairsIn_34 : decode cX1_pairsIn 34 = .ok (.imul, 1) := by decide +kernel
theorem dX1_pairsIn_35 : decode cX1_pairsIn 35 = .ok (.iconst 2, 1) := by decide +kernel
theorem dX1_pairsIn_36 : decode cX1_pairsIn 36 = .ok (.idiv, 1) := by decide +kernel
theorem dX1_pairsIn_37 : decode cX1_pairsIn 37 = .ok (.iadd, 1) := by decide +kernel
theorem dX1_pairsIn_38 : decode cX1_pairsIn 38 = .ok (.istore_n 3, 1) := by decide +kernel
theorem dX1_pairsIn_39 : decode cX1_pairsIn 39 = .ok (.iinc 4 1, 3) := by decide +kernel
theorem dX1_pairsIn_42 : decode cX1_pairsIn 42 = .ok (.goto (-32), 3) := by decide +kernel
theorem dX1_pairsIn_45 : decode cX1_pairsIn 45 = .ok (.iload_n 3, 1) := by decide +kernel
theorem dX1_pairsIn_46 : decode cX1_pairsIn 46 = .ok (.ireturn, 1) := by decide +kernel
theorem dX1_votersIn_0 : decode cX1_votersIn 0 = .ok (.iconst 0, 1) := by decide +kernel
theorem dX1_votersIn_1 : decode cX1_votersIn 1 = .ok (.istore_n 3, 1) := by decide +kernel
theorem dX1_votersIn_2 : decode cX1_votersIn 2 = .ok (.iconst 0, 1) := by decide +kernel
theorem dX1_votersIn_3 : decode cX1_votersIn 3 = .ok (.istore 4, 2) := by decide +kernel
theorem dX1_votersIn_5 : decode cX1_votersIn 5 = .ok (.iload 4, 2) := by decide +kernel
theorem dX1_votersIn_7 : decode cX1_votersIn 7 = .ok (.aload_n 0, 1) := by decide +kernel
theorem dX1_votersIn_8 : decode cX1_votersIn 8 = .ok (.getfield 47, 3) := by decide +kernel
theorem dX1_votersIn_11 : decode cX1_votersIn 11 = .ok (.if_icmp .ge 35, 3) := by decide +kernel
theorem dX1_votersIn_14 : decode cX1_votersIn 14 = .ok (.iload_n 3, 1) := by decide +kernel
theorem dX1_votersIn_15 : decode cX1_votersIn 15 = .ok (.aload_n 0, 1) := by decide +kernel
theorem dX1_votersIn_16 : decode cX1_votersIn 16 = .ok (.lload_n 1, 1) := by decide +kernel
theorem dX1_votersIn_17 : decode cX1_votersIn 17 = .ok (.iload 4, 2) := by decide +kernel
theorem dX1_votersIn_19 : decode cX1_votersIn 19 = .ok (.invokevirtual 122, 3) := by decide +kernel
theorem dX1_votersIn_22 : decode cX1_votersIn 22 = .ok (.ifCond .eq 15, 3) := by decide +kernel
theorem dX1_votersIn_25 : decode cX1_votersIn 25 = .ok (.iconst 1, 1) := by decide +kernel
theorem dX1_votersIn_26 : decode cX1_votersIn 26 = .ok (.aload_n 0, 1) := by decide +kernel
theorem dX1_votersIn_27 : decode cX1_votersIn 27 = .ok (.getfield 9, 3) := by decide +kernel
theorem dX1_votersIn_30 : decode cX1_votersIn 30 = .ok (.iload 4, 2) := by decide +kernel
theorem dX1_votersIn_32 : decode cX1_votersIn 32 = .ok (.iaload, 1) := by decide +kernel
theorem dX1_votersIn_33 : decode cX1_votersIn 33 = .ok (.ishl, 1) := by decide +kernel
theorem dX1_votersIn_34 : decode cX1_votersIn 34 = .ok (.goto 4, 3) := by decide +kernel
theorem dX1_votersIn_37 : decode cX1_votersIn 37 = .ok (.iconst 0, 1) := by decide +kernel
theorem dX1_votersIn_38 : decode cX1_votersIn 38 = .ok (.ior, 1) := by decide +kernel
theorem dX1_votersIn_39 : decode cX1_votersIn 39 = .ok (.istore_n 3, 1) := by decide +kernel
theorem dX1_votersIn_40 : decode cX1_votersIn 40 = .ok (.iinc 4 1, 3) := by decide +kernel
theorem dX1_votersIn_43 : decode cX1_votersIn 43 = .ok (.goto (-38), 3) := by decide +kernel
theorem dX1_votersIn_46 : decode cX1_votersIn 46 = .ok (.iload_n 3, 1) := by decide +kernel
theorem dX1_votersIn_47 : decode cX1_votersIn 47 = .ok (.ireturn, 1) := by decide +kernel
theorem dX1_trueWithout_0 : decode cX1_trueWithout 0 = .ok (.iconst 0, 1) := by decide +kernel
theorem dX1_trueWithout_1 : decode cX1_trueWithout 1 = .ok (.istore_n 2, 1) := by decide +kernel
theorem dX1_trueWithout_2 : decode cX1_trueWithout 2 = .ok (.iconst 0, 1) := by decide +kernel
theorem dX1_trueWithout_3 : decode cX1_trueWithout 3 = .ok (.istore_n 3, 1) := by decide +kernel
theorem dX1_trueWithout_4 : decode cX1_trueWithout 4 = .ok (.iload_n 3, 1) := by decide +kernel
theorem dX1_trueWithout_5 : decode cX1_trueWithout 5 = .ok (.bipush 8, 2) := by decide +kernel
theorem dX1_trueWithout_7 : decode cX1_trueWithout 7 = .ok (.if_icmp .ge 30, 3) := by decide +kernel
theorem dX1_trueWithout_10 : decode cX1_trueWithout 10 = .ok (.iload_n 2, 1) := by decide +kernel
theorem dX1_trueWithout_11 : decode cX1_trueWithout 11 = .ok (.iload_n 1, 1) := by decide +kernel
theorem dX1_trueWithout_12 : decode cX1_trueWithout 12 = .ok (.iload_n 3, 1) := by decide +kernel
theorem dX1_trueWithout_13 : decode cX1_trueWithout 13 = .ok (.ishr, 1) := by decide +kernel
theorem dX1_trueWithout_14 : decode cX1_trueWithout 14 = .ok (.iconst 1, 1) := by decide +kernel
theorem dX1_trueWithout_15 : decode cX1_trueWithout 15 = .ok (.iand, 1) := by decide +kernel
theorem dX1_trueWithout_16 : decode cX1_trueWithout 16 = .ok (.ifCond .ne 12, 3) := by decide +kernel
theorem dX1_trueWithout_19 : decode cX1_trueWithout 19 = .ok (.aload_n 0, 1) := by decide +kernel
theorem dX1_trueWithout_20 : decode cX1_trueWithout 20 = .ok (.getfield 21, 3) := by decide +kernel
theorem dX1_trueWithout_23 : decode cX1_trueWithout 23 = .ok (.iload_n 3, 1) := by decide +kernel
theorem dX1_trueWithout_24 : decode cX1_trueWithout 24 = .ok (.iaload, 1) := by decide +kernel
theorem dX1_trueWithout_25 : decode cX1_trueWithout 25 = .ok (.goto 4, 3) := by decide +kernel
theorem dX1_trueWithout_28 : decode cX1_trueWithout 28 = .ok (.iconst 0, 1) := by decide +kernel
theorem dX1_trueWithout_29 : decode cX1_trueWithout 29 = .ok (.ior, 1) := by decide +kernel
theorem dX1_trueWithout_30 : decode cX1_trueWithout 30 = .ok (.istore_n 2, 1) := by decide +kernel
theorem dX1_trueWithout_31 : decode cX1_trueWithout 31 = .ok (.iinc 3 1, 3) := by decide +kernel
theorem dX1_trueWithout_34 : decode cX1_trueWithout 34 = .ok (.goto (-30), 3) := by decide +kernel
theorem dX1_trueWithout_37 : decode cX1_trueWithout 37 = .ok (.iload_n 2, 1) := by decide +kernel
theorem dX1_trueWithout_38 : decode cX1_trueWithout 38 = .ok (.invokestatic 130, 3) := by decide +kernel
theorem dX1_trueWithout_41 : decode cX1_trueWithout 41 = .ok (.ireturn, 1) := by decide +kernel
theorem dX2_withLetter_0 : decode cX2_withLetter 0 = .ok (.iload_n 0, 1) := by decide +kernel
theorem dX2_withLetter_1 : decode cX2_withLetter 1 = .ok (.iload_n 2, 1) := by decide +kernel
theorem dX2_withLetter_2 : decode cX2_withLetter 2 = .ok (.bipush 96, 2) := by decide +kernel
theorem dX2_withLetter_4 : decode cX2_withLetter 4 = .ok (.isub, 1) := by decide +kernel
theorem dX2_withLetter_5 : decode cX2_withLetter 5 = .ok (.iconst 5, 1) := by decide +kernel
theorem dX2_withLetter_6 : decode cX2_withLetter 6 = .ok (.iload_n 1, 1) := by decide +kernel
theorem dX2_withLetter_7 : decode cX2_withLetter 7 = .ok (.imul, 1) := by decide +kernel
theorem dX2_withLetter_8 : decode cX2_withLetter 8 = .ok (.ishl, 1) := by decide +kernel
theorem dX2_withLetter_9 : decode cX2_withLetter 9 = .ok (.ior, 1) := by decide +kernel
theorem dX2_withLetter_10 : decode cX2_withLetter 10 = .ok (.ireturn, 1) := by decide +kernel
theorem dX2_letterAt_0 : decode cX2_letterAt 0 = .ok (.iload_n 0, 1) := by decide +kernel
theorem dX2_letterAt_1 : decode cX2_letterAt 1 = .ok (.iconst 5, 1) := by decide +kernel
theorem dX2_letterAt_2 : decode cX2_letterAt 2 = .ok (.iload_n 1, 1) := by decide +kernel
theorem dX2_letterAt_3 : decode cX2_letterAt 3 = .ok (.imul, 1) := by decide +kernel
theorem dX2_letterAt_4 : decode cX2_letterAt 4 = .ok (.ishr, 1) := by decide +kernel
theorem dX2_letterAt_5 : decode cX2_letterAt 5 = .ok (.bipush 31, 2) := by decide +kernel
theorem dX2_letterAt_7 : decode cX2_letterAt 7 = .ok (.iand, 1) := by decide +kernel
theorem dX2_letterAt_8 : decode cX2_letterAt 8 = .ok (.bipush 96, 2) := by decide +kernel
theorem dX2_letterAt_10 : decode cX2_letterAt 10 = .ok (.iadd, 1) := by decide +kernel
theorem dX2_letterAt_11 : decode cX2_letterAt 11 = .ok (.ireturn, 1) := by decide +kernel
theorem dX2_length_0 : decode cX2_length 0 = .ok (.iconst 0, 1) := by decide +kernel
theorem dX2_length_1 : decode cX2_length 1 = .ok (.istore_n 1, 1) := by decide +kernel
theorem dX2_length_2 : decode cX2_length 2 = .ok (.iload_n 1, 1) := by decide +kernel
theorem dX2_length_3 : decode cX2_length 3 = .ok (.iconst 5, 1) := by decide +kernel
theorem dX2_length_4 : decode cX2_length 4 = .ok (.if_icmp .ge 20, 3) := by decide +kernel
theorem dX2_length_7 : decode cX2_length 7 = .ok (.iload_n 0, 1) := by decide +kernel
theorem dX2_length_8 : decode cX2_length 8 = .ok (.iconst 5, 1) := by decide +kernel
theorem dX2_length_9 : decode cX2_length 9 = .ok (.iload_n 1, 1) := by decide +kernel
theorem dX2_length_10 : decode cX2_length 10 = .ok (.imul, 1) := by decide +kernel
theorem dX2_length_11 : decode cX2_length 11 = .ok (.ishr, 1) := by decide +kernel
theorem dX2_length_12 : decode cX2_length 12 = .ok (.bipush 31, 2) := by decide +kernel
theorem dX2_length_14 : decode cX2_length 14 = .ok (.iand, 1) := by decide +kernel
theorem dX2_length_15 : decode cX2_length 15 = .ok (.ifCond .eq 9, 3) := by decide +kernel
theorem dX2_length_18 : decode cX2_length 18 = .ok (.iinc 1 1, 3) := by decide +kernel
theorem dX2_length_21 : decode cX2_length 21 = .ok (.goto (-19), 3) := by decide +kernel
theorem dX2_length_24 : decode cX2_length 24 = .ok (.iload_n 1, 1) := by decide +kernel
theorem dX2_length_25 : decode cX2_length 25 = .ok (.ireturn, 1) := by decide +kernel
theorem dX3_init_0 : decode cX3_init 0 = .ok (.aload_n 0, 1) := by decide +kernel
theorem dX3_init_1 : decode cX3_init 1 = .ok (.invokespecial 3, 3) := by decide +kernel
theorem dX3_init_4 : decode cX3_init 4 = .ok (.aload_n 0, 1) := by decide +kernel
theorem dX3_init_5 : decode cX3_init 5 = .ok (.bipush 16, 2) := by decide +kernel
theorem dX3_init_7 : decode cX3_init 7 = .ok (.newarray .int, 2) := by decide +kernel
theorem dX3_init_9 : decode cX3_init 9 = .ok (.putfield 9, 3) := by decide +kernel
theorem dX3_init_12 : decode cX3_init 12 = .ok (.aload_n 0, 1) := by decide +kernel
theorem dX3_init_13 : decode cX3_init 13 = .ok (.bipush 16, 2) := by decide +kernel
theorem dX3_init_15 : decode cX3_init 15 = .ok (.newarray .int, 2) := by decide +kernel
theorem dX3_init_17 : decode cX3_init 17 = .ok (.putfield 15, 3) := by decide +kernel
theorem dX3_init_20 : decode cX3_init 20 = .ok (.aload_n 0, 1) := by decide +kernel
theorem dX3_init_21 : decode cX3_init 21 = .ok (.bipush 16, 2) := by decide +kernel
theorem dX3_init_23 : decode cX3_init 23 = .ok (.newarray .int, 2) := by decide +kernel
theorem dX3_init_25 : decode cX3_init 25 = .ok (.putfield 18, 3) := by decide +kernel
theorem dX3_init_28 : decode cX3_init 28 = .ok (.aload_n 0, 1) := by decide +kernel
theorem dX3_init_29 : decode cX3_init 29 = .ok (.bipush 40, 2) := by decide +kernel
theorem dX3_init_31 : decode cX3_init 31 = .ok (.newarray .int, 2) := by decide +kernel
theorem dX3_init_33 : decode cX3_init 33 = .ok (.putfield 21, 3) := by decide +kernel
theorem dX3_init_36 : decode cX3_init 36 = .ok (.aload_n 0, 1) := by decide +kernel
theorem dX3_init_37 : decode cX3_init 37 = .ok (.bipush 40, 2) := by decide +kernel
theorem dX3_init_39 : decode cX3_init 39 = .ok (.newarray .int, 2) := by decide +kernel
theorem dX3_init_41 : decode cX3_init 41 = .ok (.putfield 24, 3) := by decide +kernel
theorem dX3_init_44 : decode cX3_init 44 = .ok (.aload_n 0, 1) := by decide +kernel
theorem dX3_init_45 : decode cX3_init 45 = .ok (.bipush 40, 2) := by decide +kernel
theorem dX3_init_47 : decode cX3_init 47 = .ok (.newarray .int, 2) := by decide +kernel
theorem dX3_init_49 : decode cX3_init 49 = .ok (.putfield 27, 3) := by decide +kernel
theorem dX3_init_52 : decode cX3_init 52 = .ok (.aload_n 0, 1) := by decide +kernel
theorem dX3_init_53 : decode cX3_init 53 = .ok (.bipush 40, 2) := by decide +kernel
theorem dX3_init_55 : decode cX3_init 55 = .ok (.newarray .int, 2) := by decide +kernel
theorem dX3_init_57 : decode cX3_init 57 = .ok (.putfield 30, 3) := by decide +kernel
theorem dX3_init_60 : decode cX3_init 60 = .ok (.aload_n 0, 1) := by decide +kernel
theorem dX3_init_61 : decode cX3_init 61 = .ok (.iconst 1, 1) := by decide +kernel
theorem dX3_init_62 : decode cX3_init 62 = .ok (.putfield 33, 3) := by decide +kernel
theorem dX3_init_65 : decode cX3_init 65 = .ok (.aload_n 0, 1) := by decide +kernel
theorem dX3_init_66 : decode cX3_init 66 = .ok (.sipush 999, 3) := by decide +kernel
theorem dX3_init_69 : decode cX3_init 69 = .ok (.putfield 37, 3) := by decide +kernel
theorem dX3_init_72 : decode cX3_init 72 = .ok (.aload_n 0, 1) := by decide +kernel
theorem dX3_init_73 : decode cX3_init 73 = .ok (.bipush 100, 2) := by decide +kernel
theorem dX3_init_75 : decode cX3_init 75 = .ok (.putfield 40, 3) := by decide +kernel
theorem dX3_init_78 : decode cX3_init 78 = .ok (.aload_n 0, 1) := by decide +kernel
theorem dX3_init_79 : decode cX3_init 79 = .ok (.bipush 50, 2) := by decide +kernel
theorem dX3_init_81 : decode cX3_init 81 = .ok (.putfield 43, 3) := by decide +kernel
theorem dX3_init_84 : decode cX3_init 84 = .ok (.aload_n 0, 1) := by decide +kernel
theorem dX3_init_85 : decode cX3_init 85 = .ok (.new 46, 3) := by decide +kernel
theorem dX3_init_88 : decode cX3_init 88 = .ok (.dup, 1) := by decide +kernel
theorem dX3_init_89 : decode cX3_init 89 = .ok (.invokespecial 48, 3) := by decide +kernel
theorem dX3_init_92 : decode cX3_init 92 = .ok (.putfield 49, 3) := by decide +kernel
theorem dX3_init_95 : decode cX3_init 95 = .ok (.return_, 1) := by decide +kernel
theorem dX3_clear_0 : decode cX3_clear 0 = .ok (.aload_n 0, 1) := by decide +kernel
theorem dX3_clear_1 : decode cX3_clear 1 = .ok (.iconst 0, 1) := by decide +kernel
theorem dX3_clear_2 : decode cX3_clear 2 = .ok (.putfield 53, 3) := by decide +kernel
theorem dX3_clear_5 : decode cX3_clear 5 = .ok (.aload_n 0, 1) := by decide +kernel
theorem dX3_clear_6 : decode cX3_clear 6 = .ok (.iconst 0, 1) := by decide +kernel
theorem dX3_clear_7 : decode cX3_clear 7 = .ok (.putfield 56, 3) := by decide +kernel
theorem dX3_clear_10 : decode cX3_clear 10 = .ok (.aload_n 0, 1) := by decide +kernel
theorem dX3_clear_11 : decode cX3_clear 11 = .ok (.iconst 0, 1) := by decide +kernel
theorem dX3_clear_12 : decode cX3_clear 12 = .ok (.putfield 59, 3) := by decide +kernel
theorem dX3_clear_15 : decode cX3_clear 15 = .ok (.aload_n 0, 1) := by decide +kernel
theorem dX3_clear_16 : decode cX3_clear 16 = .ok (.iconst 0, 1) := by decide +kernel
theorem dX3_clear_17 : decode cX3_clear 17 = .ok (.putfield 62, 3) := by decide +kernel
theorem dX3_clear_20 : decode cX3_clear 20 = .ok (.aload_n 0, 1) := by decide +kernel
theorem dX3_clear_21 : decode cX3_clear 21 = .ok (.iconst 1, 1) := by decide +kernel
theorem dX3_clear_22 : decode cX3_clear 22 = .ok (.putfield 33, 3) := by decide +kernel
theorem dX3_clear_25 : decode cX3_clear 25 = .ok (.aload_n 0, 1) := by decide +kernel
theorem dX3_clear_26 : decode cX3_clear 26 = .ok (.iconst 0, 1) := by decide +kernel
theorem dX3_clear_27 : decode cX3_clear 27 = .ok (.putfield 65, 3) := by decide +kernel
theorem dX3_clear_30 : decode cX3_clear 30 = .ok (.aload_n 0, 1) := by decide +kernel
theorem dX3_clear_31 : decode cX3_clear 31 = .ok (.sipush 999, 3) := by decide +kernel
theorem dX3_clear_34 : decode cX3_clear 34 = .ok (.putfield 37, 3) := by decide +kernel
theorem dX3_clear_37 : decode cX3_clear 37 = .ok (.aload_n 0, 1) := by decide +kernel
theorem dX3_clear_38 : decode cX3_clear 38 = .ok (.bipush 100, 2) := by decide +kernel
theorem dX3_clear_40 : decode cX3_clear 40 = .ok (.putfield 40, 3) := by decide +kernel
theorem dX3_clear_43 : decode cX3_clear 43 = .ok (.aload_n 0, 1) := by decide +kernel
theorem dX3_clear_44 : decode cX3_clear 44 = .ok (.bipush 50, 2) := by decide +kernel
theorem dX3_clear_46 : decode cX3_clear 46 = .ok (.putfield 43, 3) := by decide +kernel
theorem dX3_clear_49 : decode cX3_clear 49 = .ok (.aload_n 0, 1) := by decide +kernel
theorem dX3_clear_50 : decode cX3_clear 50 = .ok (.getfield 49, 3) := by decide +kernel
theorem dX3_clear_53 : decode cX3_clear 53 = .ok (.iconst 0, 1) := by decide +kernel
theorem dX3_clear_54 : decode cX3_clear 54 = .ok (.putfield 68, 3) := by decide +kernel
theorem dX3_clear_57 : decode cX3_clear 57 = .ok (.aload_n 0, 1) := by decide +kernel
theorem dX3_clear_58 : decode cX3_clear 58 = .ok (.invokevirtual 71, 3) := by decide +kernel
theorem dX3_clear_61 : decode cX3_clear 61 = .ok (.return_, 1) := by decide +kernel
theorem dX3_copyFrom_0 : decode cX3_copyFrom 0 = .ok (.aload_n 0, 1) := by decide +kernel
theorem dX3_copyFrom_1 : decode cX3_copyFrom 1 = .ok (.aload_n 1, 1) := by decide +kernel
theorem dX3_copyFrom_2 : decode cX3_copyFrom 2 = .ok (.getfield 53, 3) := by decide +kernel
theorem dX3_copyFrom_5 : decode cX3_copyFrom 5 = .ok (.putfield 53, 3) := by decide +kernel
theorem dX3_copyFrom_8 : decode cX3_copyFrom 8 = .ok (.aload_n 1, 1) := by decide +kernel
theorem dX3_copyFrom_9 : decode cX3_copyFrom 9 = .ok (.getfield 9, 3) := by decide +kernel
theorem dX3_copyFrom_12 : decode cX3_copyFrom 12 = .ok (.iconst 0, 1) := by decide +kernel
theorem dX3_copyFrom_13 : decode cX3_copyFrom 13 = .ok (.aload_n 0, 1) := by decide +kernel
theorem dX3_copyFrom_14 : decode cX3_copyFrom 14 = .ok (.getfield 9, 3) := by decide +kernel
theorem dX3_copyFrom_17 : decode cX3_copyFrom 17 = .ok (.iconst 0, 1) := by decide +kernel
theorem dX3_copyFrom_18 : decode cX3_copyFrom 18 = .ok (.bipush 16, 2) := by decide +kernel
theorem dX3_copyFrom_20 : decode cX3_copyFrom 20 = .ok (.invokestatic 74, 3) := by decide +kernel
theorem dX3_copyFrom_23 : decode cX3_copyFrom 23 = .ok (.aload_n 1, 1) := by decide +kernel
theorem dX3_copyFrom_24 : decode cX3_copyFrom 24 = .ok (.getfield 15, 3) := by decide +kernel
theorem dX3_copyFrom_27 : decode cX3_copyFrom 27 = .ok (.iconst 0, 1) := by decide +kernel
theorem dX3_copyFrom_28 : decode cX3_copyFrom 28 = .ok (.aload_n 0, 1) := by decide +kernel
theorem dX3_copyFrom_29 : decode cX3_copyFrom 29 = .ok (.getfield 15, 3) := by decide +kernel
theorem dX3_copyFrom_32 : decode cX3_copyFrom 32 = .ok (.iconst 0, 1) := by decide +kernel
theorem dX3_copyFrom_33 : decode cX3_copyFrom 33 = .ok (.bipush 16, 2) := by decide +kernel
theorem dX3_copyFrom_35 : decode cX3_copyFrom 35 = .ok (.invokestatic 74, 3) := by decide +kernel
theorem dX3_copyFrom_38 : decode cX3_copyFrom 38 = .ok (.aload_n 1, 1) := by decide +kernel
theorem dX3_copyFrom_39 : decode cX3_copyFrom 39 = .ok (.getfield 18, 3) := by decide +kernel
theorem dX3_copyFrom_42 : decode cX3_copyFrom 42 = .ok (.iconst 0, 1) := by decide +kernel
theorem dX3_copyFrom_43 : decode cX3_copyFrom 43 = .ok (.aload_n 0, 1) := by decide +kernel
theorem dX3_copyFrom_44 : decode cX3_copyFrom 44 = .ok (.getfield 18, 3) := by decide +kernel
theorem dX3_copyFrom_47 : decode cX3_copyFrom 47 = .ok (.iconst 0, 1) := by decide +kernel
theorem dX3_copyFrom_48 : decode cX3_copyFrom 48 = .ok (.bipush 16, 2) := by decide +kernel
theorem dX3_copyFrom_50 : decode cX3_copyFrom 50 = .ok (.invokestatic 74, 3) := by decide +kernel
theorem dX3_copyFrom_53 : decode cX3_copyFrom 53 = .ok (.aload_n 0, 1) := by decide +kernel
theorem dX3_copyFrom_54 : decode cX3_copyFrom 54 = .ok (.aload_n 1, 1) := by decide +kernel
theorem dX3_copyFrom_55 : decode cX3_copyFrom 55 = .ok (.getfield 56, 3) := by decide +kernel
theorem dX3_copyFrom_58 : decode cX3_copyFrom 58 = .ok (.putfield 56, 3) := by decide +kernel
theorem dX3_copyFrom_61 : decode cX3_copyFrom 61 = .ok (.aload_n 0, 1) := by decide +kernel
theorem dX3_copyFrom_62 : decode cX3_copyFrom 62 = .ok (.aload_n 1, 1) := by decide +kernel
theorem dX3_copyFrom_63 : decode cX3_copyFrom 63 = .ok (.getfield 59, 3) := by decide +kernel
theorem dX3_copyFrom_66 : decode cX3_copyFrom 66 = .ok (.putfield 59, 3) := by decide +kernel
theorem dX3_copyFrom_69 : decode cX3_copyFrom 69 = .ok (.aload_n 0, 1) := by decide +kernel
theorem dX3_copyFrom_70 : decode cX3_copyFrom 70 = .ok (.aload_n 1, 1) := by decide +kernel
theorem dX3_copyFrom_71 : decode cX3_copyFrom 71 = .ok (.getfield 62, 3) := by decide +kernel
theorem dX3_copyFrom_74 : decode cX3_copyFrom 74 = .ok (.putfield 62, 3) := by decide +kernel
theorem dX3_copyFrom_77 : decode cX3_copyFrom 77 = .ok (.aload_n 1, 1) := by decide +kernel
theorem dX3_copyFrom_78 : decode cX3_copyFrom 78 = .ok (.getfield 21, 3) := by decide +kernel
theorem dX3_copyFrom_81 : decode cX3_copyFrom 81 = .ok (.iconst 0, 1) := by decide +kernel
theorem dX3_copyFrom_82 : decode cX3_copyFrom 82 = .ok (.aload_n 0, 1) := by decide +kernel
theorem dX3_copyFrom_83 : decode cX3_copyFrom 83 = .ok (.getfield 21, 3) := by decide +kernel
theorem dX3_copyFrom_86 : decode cX3_copyFrom 86 = .ok (.iconst 0, 1) := by decide +kernel
theorem dX3_copyFrom_87 : decode cX3_copyFrom 87 = .ok (.bipush 40, 2) := by decide +kernel
theorem dX3_copyFrom_89 : decode cX3_copyFrom 89 = .ok (.invokestatic 74, 3) := by decide +kernel
theorem dX3_copyFrom_92 : decode cX3_copyFrom 92 = .ok (.aload_n 1, 1) := by decide +kernel
theorem dX3_copyFrom_93 : decode cX3_copyFrom 93 = .ok (.getfield 24, 3) := by decide +kernel
theorem dX3_copyFrom_96 : decode cX3_copyFrom 96 = .ok (.iconst 0, 1) := by decide +kernel
theorem dX3_copyFrom_97 : decode cX3_copyFrom 97 = .ok (.aload_n 0, 1) := by decide +kernel
theorem dX3_copyFrom_98 : decode cX3_copyFrom 98 = .ok (.getfield 24, 3) := by decide +kernel
theorem dX3_copyFrom_101 : decode cX3_copyFrom 101 = .ok (.iconst 0, 1) := by decide +kernel
theorem dX3_copyFrom_102 : decode cX3_copyFrom 102 = .ok (.bipush 40, 2) := by decide +kernel
theorem dX3_copyFrom_104 : decode cX3_copyFrom 104 = .ok (.invokestatic 74, 3) := by decide +kernel
theorem dX3_copyFrom_107 : decode cX3_copyFrom 107 = .ok (.aload_n 1, 1) := by decide +kernel
theorem dX3_copyFrom_108 : decode cX3_copyFrom 108 = .ok (.getfield 27, 3) := by decide +kernel
theorem dX3_copyFrom_111 : decode cX3_copyFrom 111 = .ok (.iconst 0, 1) := by decide +kernel
theorem dX3_copyFrom_112 : decode cX3_copyFrom 112 = .ok (.aload_n 0, 1) := by decide +kernel
theorem dX3_copyFrom_113 : decode cX3_copyFrom 113 = .ok (.getfield 27, 3) := by decide +kernel
theorem dX3_copyFrom_116 : decode cX3_copyFrom 116 = .ok (.iconst 0, 1) := by decide +kernel
theorem dX3_copyFrom_117 : decode cX3_copyFrom 117 = .ok (.bipush 40, 2) := by decide +kernel
theorem dX3_copyFrom_119 : decode cX3_copyFrom 119 = .ok (.invokestatic 74, 3) := by decide +kernel
theorem dX3_copyFrom_122 : decode cX3_copyFrom 122 = .ok (.aload_n 1, 1) := by decide +kernel
theorem dX3_copyFrom_123 : decode cX3_copyFrom 123 = .ok (.getfield 30, 3) := by decide +kernel
theorem dX3_copyFrom_126 : decode cX3_copyFrom 126 = .ok (.iconst 0, 1) := by decide +kernel
theorem dX3_copyFrom_127 : decode cX3_copyFrom 127 = .ok (.aload_n 0, 1) := by decide +kernel
theorem dX3_copyFrom_128 : decode cX3_copyFrom 128 = .ok (.getfield 30, 3) := by decide +kernel
theorem dX3_copyFrom_131 : decode cX3_copyFrom 131 = .ok (.iconst 0, 1) := by decide +kernel
theorem dX3_copyFrom_132 : decode cX3_copyFrom 132 = .ok (.bipush 40, 2) := by decide +kernel
theorem dX3_copyFrom_134 : decode cX3_copyFrom 134 = .ok (.invokestatic 74, 3) := by decide +kernel
theorem dX3_copyFrom_137 : decode cX3_copyFrom 137 = .ok (.aload_n 0, 1) := by decide +kernel
theorem dX3_copyFrom_138 : decode cX3_copyFrom 138 = .ok (.aload_n 1, 1) := by decide +kernel
theorem dX3_copyFrom_139 : decode cX3_copyFrom 139 = .ok (.getfield 33, 3) := by decide +kernel
theorem dX3_copyFrom_142 : decode cX3_copyFrom 142 = .ok (.putfield 33, 3) := by decide +kernel
theorem dX3_copyFrom_145 : decode cX3_copyFrom 145 = .ok (.aload_n 0, 1) := by decide +kernel
theorem dX3_copyFrom_146 : decode cX3_copyFrom 146 = .ok (.aload_n 1, 1) := by decide +kernel
theorem dX3_copyFrom_147 : decode cX3_copyFrom 147 = .ok (.getfield 65, 3) := by decide +kernel
theorem dX3_copyFrom_150 : decode cX3_copyFrom 150 = .ok (.putfield 65, 3) := by decide +kernel
theorem dX3_copyFrom_153 : decode cX3_copyFrom 153 = .ok (.aload_n 0, 1) := by decide +kernel
theorem dX3_copyFrom_154 : decode cX3_copyFrom 154 = .ok (.aload_n 1, 1) := by decide +kernel
theorem dX3_copyFrom_155 : decode cX3_copyFrom 155 = .ok (.getfield 37, 3) := by decide +kernel
theorem dX3_copyFrom_158 : decode cX3_copyFrom 158 = .ok (.putfield 37, 3) := by decide +kernel
theorem dX3_copyFrom_161 : decode cX3_copyFrom 161 = .ok (.aload_n 0, 1) := by decide +kernel
theorem dX3_copyFrom_162 : decode cX3_copyFrom 162 = .ok (.aload_n 1, 1) := by decide +kernel
theorem dX3_copyFrom_163 : decode cX3_copyFrom 163 = .ok (.getfield 40, 3) := by decide +kernel
theorem dX3_copyFrom_166 : decode cX3_copyFrom 166 = .ok (.putfield 40, 3) := by decide +kernel
theorem dX3_copyFrom_169 : decode cX3_copyFrom 169 = .ok (.aload_n 0, 1) := by decide +kernel
theorem dX3_copyFrom_170 : decode cX3_copyFrom 170 = .ok (.aload_n 1, 1) := by decide +kernel
theorem dX3_copyFrom_171 : decode cX3_copyFrom 171 = .ok (.getfield 43, 3) := by decide +kernel
theorem dX3_copyFrom_174 : decode cX3_copyFrom 174 = .ok (.putfield 43, 3) := by decide +kernel
theorem dX3_copyFrom_177 : decode cX3_copyFrom 177 = .ok (.aload_n 0, 1) := by decide +kernel
theorem dX3_copyFrom_178 : decode cX3_copyFrom 178 = .ok (.getfield 49, 3) := by decide +kernel
theorem dX3_copyFrom_181 : decode cX3_copyFrom 181 = .ok (.aload_n 1, 1) := by decide +kernel
theorem dX3_copyFrom_182 : decode cX3_copyFrom 182 = .ok (.getfield 49, 3) := by decide +kernel
theorem dX3_copyFrom_185 : decode cX3_copyFrom 185 = .ok (.invokevirtual 80, 3) := by decide +kernel
theorem dX3_copyFrom_188 : decode cX3_copyFrom 188 = .ok (.aload_n 0, 1) := by decide +kernel
theorem dX3_copyFrom_189 : decode cX3_copyFrom 189 = .ok (.aload_n 1, 1) := by decide +kernel
theorem dX3_copyFrom_190 : decode cX3_copyFrom 190 = .ok (.getfield 84, 3) := by decide +kernel
theorem dX3_copyFrom_193 : decode cX3_copyFrom 193 = .ok (.putfield 84, 3) := by decide +kernel
theorem dX3_copyFrom_196 : decode cX3_copyFrom 196 = .ok (.aload_n 0, 1) := by decide +kernel
theorem dX3_copyFrom_197 : decode cX3_copyFrom 197 = .ok (.aload_n 1, 1) := by decide +kernel
theorem dX3_copyFrom_198 : decode cX3_copyFrom 198 = .ok (.getfield 88, 3) := by decide +kernel
theorem dX3_copyFrom_201 : decode cX3_copyFrom 201 = .ok (.putfield 88, 3) := by decide +kernel
theorem dX3_copyFrom_204 : decode cX3_copyFrom 204 = .ok (.return_, 1) := by decide +kernel
theorem dX3_emptySamples_0 : decode cX3_emptySamples 0 = .ok (.aload_n 0, 1) := by decide +kernel
theorem dX3_emptySamples_1 : decode cX3_emptySamples 1 = .ok (.lconst 0, 1) := by decide +kernel
theorem dX3_emptySamples_2 : decode cX3_emptySamples 2 = .ok (.putfield 84, 3) := by decide +kernel
theorem dX3_emptySamples_5 : decode cX3_emptySamples 5 = .ok (.aload_n 0, 1) := by decide +kernel
theorem dX3_emptySamples_6 : decode cX3_emptySamples 6 = .ok (.lconst 0, 1) := by decide +kernel
theorem dX3_emptySamples_7 : decode cX3_emptySamples 7 = .ok (.putfield 88, 3) := by decide +kernel
theorem dX3_emptySamples_10 : decode cX3_emptySamples 10 = .ok (.return_, 1) := by decide +kernel
theorem dX3_isByHand_0 : decode cX3_isByHand 0 = .ok (.aload_n 0, 1) := by decide +kernel
theorem dX3_isByHand_1 : decode cX3_isByHand 1 = .ok (.getfield 59, 3) := by decide +kernel
theorem dX3_isByHand_4 : decode cX3_isByHand 4 = .ok (.iload_n 1, 1) := by decide +kernel
theorem dX3_isByHand_5 : decode cX3_isByHand 5 = .ok (.ishr, 1) := by decide +kernel
theorem dX3_isByHand_6 : decode cX3_isByHand 6 = .ok (.iconst 1, 1) := by decide +kernel
theorem dX3_isByHand_7 : decode cX3_isByHand 7 = .ok (.iand, 1) := by decide +kernel
theorem dX3_isByHand_8 : decode cX3_isByHand 8 = .ok (.iconst 1, 1) := by decide +kernel
theorem dX3_isByHand_9 : decode cX3_isByHand 9 = .ok (.if_icmp .ne 7, 3) := by decide +kernel
theorem dX3_isByHand_12 : decode cX3_isByHand 12 = .ok (.iconst 1, 1) := by decide +kernel
theorem dX3_isByHand_13 : decode cX3_isByHand 13 = .ok (.goto 4, 3) := by decide +kernel
theorem dX3_isByHand_16 : decode cX3_isByHand 16 = .ok (.iconst 0, 1) := by decide +kernel
theorem dX3_isByHand_17 : decode cX3_isByHand 17 = .ok (.ireturn, 1) := by decide +kernel
theorem dX3_voterWith_0 : decode cX3_voterWith 0 = .ok (.iconst 0, 1) := by decide +kernel
theorem dX3_voterWith_1 : decode cX3_voterWith 1 = .ok (.istore_n 3, 1) := by decide +kernel
theorem dX3_voterWith_2 : decode cX3_voterWith 2 = .ok (.iload_n 3, 1) := by decide +kernel
theorem dX3_voterWith_3 : decode cX3_voterWith 3 = .ok (.aload_n 0, 1) := by decide +kernel
theorem dX3_voterWith_4 : decode cX3_voterWith 4 = .ok (.getfield 53, 3) := by decide +kernel
theorem dX3_voterWith_7 : decode cX3_voterWith 7 = .ok (.if_icmp .ge 31, 3) := by decide +kernel
theorem dX3_voterWith_10 : decode cX3_voterWith 10 = .ok (.aload_n 0, 1) := by decide +kernel
theorem dX3_voterWith_11 : decode cX3_voterWith 11 = .ok (.getfield 9, 3) := by decide +kernel
theorem dX3_voterWith_14 : decode cX3_voterWith 14 = .ok (.iload_n 3, 1) := by decide +kernel
theorem dX3_voterWith_15 : decode cX3_voterWith 15 = .ok (.iaload, 1) := by decide +kernel
theorem dX3_voterWith_16 : decode cX3_voterWith 16 = .ok (.iload_n 1, 1) := by decide +kernel
theorem dX3_voterWith_17 : decode cX3_voterWith 17 = .ok (.if_icmp .ne 15, 3) := by decide +kernel
theorem dX3_voterWith_20 : decode cX3_voterWith 20 = .ok (.aload_n 0, 1) := by decide +kernel
theorem dX3_voterWith_21 : decode cX3_voterWith 21 = .ok (.getfield 15, 3) := by decide +kernel
theorem dX3_voterWith_24 : decode cX3_voterWith 24 = .ok (.iload_n 3, 1) := by decide +kernel
theorem dX3_voterWith_25 : decode cX3_voterWith 25 = .ok (.iaload, 1) := by decide +kernel
theorem dX3_voterWith_26 : decode cX3_voterWith 26 = .ok (.iload_n 2, 1) := by decide +kernel
theorem dX3_voterWith_27 : decode cX3_voterWith 27 = .ok (.if_icmp .ne 5, 3) := by decide +kernel
theorem dX3_voterWith_30 : decode cX3_voterWith 30 = .ok (.iload_n 3, 1) := by decide +kernel
theorem dX3_voterWith_31 : decode cX3_voterWith 31 = .ok (.ireturn, 1) := by decide +kernel
theorem dX3_voterWith_32 : decode cX3_voterWith 32 = .ok (.iinc 3 1, 3) := by decide +kernel
theorem dX3_voterWith_35 : decode cX3_voterWith 35 = .ok (.goto (-33), 3) := by decide +kernel
theorem dX3_voterWith_38 : decode cX3_voterWith 38 = .ok (.iconst (-1), 1) := by decide +kernel
theorem dX3_voterWith_39 : decode cX3_voterWith 39 = .ok (.ireturn, 1) := by decide +kernel
theorem dX3_addVoter_0 : decode cX3_addVoter 0 = .ok (.aload_n 0, 1) := by decide +kernel
theorem dX3_addVoter_1 : decode cX3_addVoter 1 = .ok (.getfield 53, 3) := by decide +kernel
theorem dX3_addVoter_4 : decode cX3_addVoter 4 = .ok (.ifCond .lt 12, 3) := by decide +kernel
theorem dX3_addVoter_7 : decode cX3_addVoter 7 = .ok (.aload_n 0, 1) := by decide +kernel
theorem dX3_addVoter_8 : decode cX3_addVoter 8 = .ok (.getfield 53, 3) := by decide +kernel
theorem dX3_addVoter_11 : decode cX3_addVoter 11 = .ok (.bipush 16, 2) := by decide +kernel
theorem dX3_addVoter_13 : decode cX3_addVoter 13 = .ok (.if_icmp .lt 4, 3) := by decide +kernel
theorem dX3_addVoter_16 : decode cX3_addVoter 16 = .ok (.return_, 1) := by decide +kernel
theorem dX3_addVoter_17 : decode cX3_addVoter 17 = .ok (.aload_n 0, 1) := by decide +kernel
theorem dX3_addVoter_18 : decode cX3_addVoter 18 = .ok (.getfield 9, 3) := by decide +kernel
theorem dX3_addVoter_21 : decode cX3_addVoter 21 = .ok (.aload_n 0, 1) := by decide +kernel
theorem dX3_addVoter_22 : decode cX3_addVoter 22 = .ok (.getfield 53, 3) := by decide +kernel
theorem dX3_addVoter_25 : decode cX3_addVoter 25 = .ok (.iload_n 1, 1) := by decide +kernel
theorem dX3_addVoter_26 : decode cX3_addVoter 26 = .ok (.iastore, 1) := by decide +kernel
theorem dX3_addVoter_27 : decode cX3_addVoter 27 = .ok (.aload_n 0, 1) := by decide +kernel
theorem dX3_addVoter_28 : decode cX3_addVoter 28 = .ok (.getfield 15, 3) := by decide +kernel
theorem dX3_addVoter_31 : decode cX3_addVoter 31 = .ok (.aload_n 0, 1) := by decide +kernel
theorem dX3_addVoter_32 : decode cX3_addVoter 32 = .ok (.getfield 53, 3) := by decide +kernel
theorem dX3_addVoter_35 : decode cX3_addVoter 35 = .ok (.iload_n 2, 1) := by decide +kernel
theorem dX3_addVoter_36 : decode cX3_addVoter 36 = .ok (.iastore, 1) := by decide +kernel
theorem dX3_addVoter_37 : decode cX3_addVoter 37 = .ok (.aload_n 0, 1) := by decide +kernel
theorem dX3_addVoter_38 : decode cX3_addVoter 38 = .ok (.getfield 18, 3) := by decide +kernel
theorem dX3_addVoter_41 : decode cX3_addVoter 41 = .ok (.aload_n 0, 1) := by decide +kernel
theorem dX3_addVoter_42 : decode cX3_addVoter 42 = .ok (.getfield 53, 3) := by decide +kernel
theorem dX3_addVoter_45 : decode cX3_addVoter 45 = .ok (.iload_n 3, 1) := by decide +kernel
theorem dX3_addVoter_46 : decode cX3_addVoter 46 = .ok (.iastore, 1) := by decide +kernel
theorem dX3_addVoter_47 : decode cX3_addVoter 47 = .ok (.aload_n 0, 1) := by decide +kernel
theorem dX3_addVoter_48 : decode cX3_addVoter 48 = .ok (.dup, 1) := by decide +kernel
theorem dX3_addVoter_49 : decode cX3_addVoter 49 = .ok (.getfield 53, 3) := by decide +kernel
theorem dX3_addVoter_52 : decode cX3_addVoter 52 = .ok (.iconst 1, 1) := by decide +kernel
theorem dX3_addVoter_53 : decode cX3_addVoter 53 = .ok (.iadd, 1) := by decide +kernel
theorem dX3_addVoter_54 : decode cX3_addVoter 54 = .ok (.putfield 53, 3) := by decide +kernel
theorem dX3_addVoter_57 : decode cX3_addVoter 57 = .ok (.return_, 1) := by decide +kernel
theorem dX3_firstOf_0 : decode cX3_firstOf 0 = .ok (.iconst 0, 1) := by decide +kernel
theorem dX3_firstOf_1 : decode cX3_firstOf 1 = .ok (.istore_n 2, 1) := by decide +kernel
theorem dX3_firstOf_2 : decode cX3_firstOf 2 = .ok (.iload_n 2, 1) := by decide +kernel
theorem dX3_firstOf_3 : decode cX3_firstOf 3 = .ok (.aload_n 0, 1) := by decide +kernel
theorem dX3_firstOf_4 : decode cX3_firstOf 4 = .ok (.getfield 62, 3) := by decide +kernel
theorem dX3_firstOf_7 : decode cX3_firstOf 7 = .ok (.if_icmp .ge 19, 3) := by decide +kernel
theorem dX3_firstOf_10 : decode cX3_firstOf 10 = .ok (.aload_n 0, 1) := by decide +kernel
theorem dX3_firstOf_11 : decode cX3_firstOf 11 = .ok (.getfield 30, 3) := by decide +kernel
theorem dX3_firstOf_14 : decode cX3_firstOf 14 = .ok (.iload_n 2, 1) := by decide +kernel
theorem dX3_firstOf_15 : decode cX3_firstOf 15 = .ok (.iaload, 1) := by decide +kernel
theorem dX3_firstOf_16 : decode cX3_firstOf 16 = .ok (.iload_n 1, 1) := by decide +kernel
theorem dX3_firstOf_17 : decode cX3_firstOf 17 = .ok (.if_icmp .ge 9, 3) := by decide +kernel
theorem dX3_firstOf_20 : decode cX3_firstOf 20 = .ok (.iinc 2 1, 3) := by decide +kernel
theorem dX3_firstOf_23 : decode cX3_firstOf 23 = .ok (.goto (-21), 3) := by decide +kernel
theorem dX3_firstOf_26 : decode cX3_firstOf 26 = .ok (.iload_n 2, 1) := by decide +kernel
theorem dX3_firstOf_27 : decode cX3_firstOf 27 = .ok (.ireturn, 1) := by decide +kernel
theorem dX3_linesOn_0 : decode cX3_linesOn 0 = .ok (.aload_n 0, 1) := by decide +kernel
theorem dX3_linesOn_1 : decode cX3_linesOn 1 = .ok (.iload_n 1, 1) := by decide +kernel
theorem dX3_linesOn_2 : decode cX3_linesOn 2 = .ok (.iconst 1, 1) := by decide +kernel
theorem dX3_linesOn_3 : decode cX3_linesOn 3 = .ok (.iadd, 1) := by decide +kernel
theorem dX3_linesOn_4 : decode cX3_linesOn 4 = .ok (.invokevirtual 91, 3) := by decide +kernel
theorem dX3_linesOn_7 : decode cX3_linesOn 7 = .ok (.aload_n 0, 1) := by decide +kernel
theorem dX3_linesOn_8 : decode cX3_linesOn 8 = .ok (.iload_n 1, 1) := by decide +kernel
theorem dX3_linesOn_9 : decode cX3_linesOn 9 = .ok (.invokevirtual 91, 3) := by decide +kernel
theorem dX3_linesOn_12 : decode cX3_linesOn 12 = .ok (.isub, 1) := by decide +kernel
theorem dX3_linesOn_13 : decode cX3_linesOn 13 = .ok (.ireturn, 1) := by decide +kernel
theorem dX3_addLine_0 : decode cX3_addLine 0 = .ok (.aload_n 0, 1) := by decide +kernel
theorem dX3_addLine_1 : decode cX3_addLine 1 = .ok (.getfield 62, 3) := by decide +kernel
theorem dX3_addLine_4 : decode cX3_addLine 4 = .ok (.ifCond .lt 12, 3) := by decide +kernel
theorem dX3_addLine_7 : decode cX3_addLine 7 = .ok (.aload_n 0, 1) := by decide +kernel
theorem dX3_addLine_8 : decode cX3_addLine 8 = .ok (.getfield 62, 3) := by decide +kernel
theorem dX3_addLine_11 : decode cX3_addLine 11 = .ok (.bipush 40, 2) := by decide +kernel
theorem dX3_addLine_13 : decode cX3_addLine 13 = .ok (.if_icmp .lt 4, 3) := by decide +kernel
theorem dX3_addLine_16 : decode cX3_addLine 16 = .ok (.return_, 1) := by decide +kernel
theorem dX3_addLine_17 : decode cX3_addLine 17 = .ok (.aload_n 0, 1) := by decide +kernel
theorem dX3_addLine_18 : decode cX3_addLine 18 = .ok (.iload_n 1, 1) := by decide +kernel
theorem dX3_addLine_19 : decode cX3_addLine 19 = .ok (.iconst 1, 1) := by decide +kernel
theorem dX3_addLine_20 : decode cX3_addLine 20 = .ok (.iadd, 1) := by decide +kernel
theorem dX3_addLine_21 : decode cX3_addLine 21 = .ok (.invokevirtual 91, 3) := by decide +kernel
theorem dX3_addLine_24 : decode cX3_addLine 24 = .ok (.istore 5, 2) := by decide +kernel
theorem dX3_addLine_26 : decode cX3_addLine 26 = .ok (.aload_n 0, 1) := by decide +kernel
theorem dX3_addLine_27 : decode cX3_addLine 27 = .ok (.iload 5, 2) := by decide +kernel
theorem dX3_addLine_29 : decode cX3_addLine 29 = .ok (.iload 5, 2) := by decide +kernel
theorem dX3_addLine_31 : decode cX3_addLine 31 = .ok (.iconst 1, 1) := by decide +kernel
theorem dX3_addLine_32 : decode cX3_addLine 32 = .ok (.iadd, 1) := by decide +kernel
theorem dX3_addLine_33 : decode cX3_addLine 33 = .ok (.aload_n 0, 1) := by decide +kernel
theorem dX3_addLine_34 : decode cX3_addLine 34 = .ok (.getfield 62, 3) := by decide +kernel
theorem dX3_addLine_37 : decode cX3_addLine 37 = .ok (.iload 5, 2) := by decide +kernel
theorem dX3_addLine_39 : decode cX3_addLine 39 = .ok (.isub, 1) := by decide +kernel
theorem dX3_addLine_40 : decode cX3_addLine 40 = .ok (.invokevirtual 95, 3) := by decide +kernel
theorem dX3_addLine_43 : decode cX3_addLine 43 = .ok (.aload_n 0, 1) := by decide +kernel
theorem dX3_addLine_44 : decode cX3_addLine 44 = .ok (.getfield 21, 3) := by decide +kernel
theorem dX3_addLine_47 : decode cX3_addLine 47 = .ok (.iload 5, 2) := by decide +kernel
theorem dX3_addLine_49 : decode cX3_addLine 49 = .ok (.iload_n 2, 1) := by decide +kernel
theorem dX3_addLine_50 : decode cX3_addLine 50 = .ok (.iastore, 1) := by decide +kernel
theorem dX3_addLine_51 : decode cX3_addLine 51 = .ok (.aload_n 0, 1) := by decide +kernel
theorem dX3_addLine_52 : decode cX3_addLine 52 = .ok (.getfield 24, 3) := by decide +kernel
theorem dX3_addLine_55 : decode cX3_addLine 55 = .ok (.iload 5, 2) := by decide +kernel
theorem dX3_addLine_57 : decode cX3_addLine 57 = .ok (.iload_n 3, 1) := by decide +kernel
theorem dX3_addLine_58 : decode cX3_addLine 58 = .ok (.iastore, 1) := by decide +kernel
theorem dX3_addLine_59 : decode cX3_addLine 59 = .ok (.aload_n 0, 1) := by decide +kernel
theorem dX3_addLine_60 : decode cX3_addLine 60 = .ok (.getfield 27, 3) := by decide +kernel
theorem dX3_addLine_63 : decode cX3_addLine 63 = .ok (.iload 5, 2) := by decide +kernel
theorem dX3_addLine_65 : decode cX3_addLine 65 = .ok (.iload 4, 2) := by decide +kernel
theorem dX3_addLine_67 : decode cX3_addLine 67 = .ok (.iastore, 1) := by decide +kernel
theorem dX3_addLine_68 : decode cX3_addLine 68 = .ok (.aload_n 0, 1) := by decide +kernel
theorem dX3_addLine_69 : decode cX3_addLine 69 = .ok (.getfield 30, 3) := by decide +kernel
theorem dX3_addLine_72 : decode cX3_addLine 72 = .ok (.iload 5, 2) := by decide +kernel
theorem dX3_addLine_74 : decode cX3_addLine 74 = .ok (.iload_n 1, 1) := by decide +kernel
theorem dX3_addLine_75 : decode cX3_addLine 75 = .ok (.iastore, 1) := by decide +kernel
theorem dX3_addLine_76 : decode cX3_addLine 76 = .ok (.aload_n 0, 1) := by decide +kernel
theorem dX3_addLine_77 : decode cX3_addLine 77 = .ok (.dup, 1) := by decide +kernel
theorem dX3_addLine_78 : decode cX3_addLine 78 = .ok (.getfield 62, 3) := by decide +kernel
theorem dX3_addLine_81 : decode cX3_addLine 81 = .ok (.iconst 1, 1) := by decide +kernel
theorem dX3_addLine_82 : decode cX3_addLine 82 = .ok (.iadd, 1) := by decide +kernel
theorem dX3_addLine_83 : decode cX3_addLine 83 = .ok (.putfield 62, 3) := by decide +kernel
theorem dX3_addLine_86 : decode cX3_addLine 86 = .ok (.return_, 1) := by decide +kernel
theorem dX3_removeLine_0 : decode cX3_removeLine 0 = .ok (.iload_n 1, 1) := by decide +kernel
theorem dX3_removeLine_1 : decode cX3_removeLine 1 = .ok (.ifCond .lt 11, 3) := by decide +kernel
theorem dX3_removeLine_4 : decode cX3_removeLine 4 = .ok (.iload_n 1, 1) := by decide +kernel
theorem dX3_removeLine_5 : decode cX3_removeLine 5 = .ok (.aload_n 0, 1) := by decide +kernel
theorem dX3_removeLine_6 : decode cX3_removeLine 6 = .ok (.getfield 62, 3) := by decide +kernel
theorem dX3_removeLine_9 : decode cX3_removeLine 9 = .ok (.if_icmp .lt 4, 3) := by decide +kernel
theorem dX3_removeLine_12 : decode cX3_removeLine 12 = .ok (.return_, 1) := by decide +kernel
theorem dX3_removeLine_13 : decode cX3_removeLine 13 = .ok (.aload_n 0, 1) := by decide +kernel
theorem dX3_removeLine_14 : decode cX3_removeLine 14 = .ok (.iload_n 1, 1) := by decide +kernel
theorem dX3_removeLine_15 : decode cX3_removeLine 15 = .ok (.iconst 1, 1) := by decide +kernel
theorem dX3_removeLine_16 : decode cX3_removeLine 16 = .ok (.iadd, 1) := by decide +kernel
theorem dX3_removeLine_17 : decode cX3_removeLine 17 = .ok (.iload_n 1, 1) := by decide +kernel
theorem dX3_removeLine_18 : decode cX3_removeLine 18 = .ok (.aload_n 0, 1) := by decide +kernel
theorem dX3_removeLine_19 : decode cX3_removeLine 19 = .ok (.getfield 62, 3) := by decide +kernel
theorem dX3_removeLine_22 : decode cX3_removeLine 22 = .ok (.iload_n 1, 1) := by decide +kernel
theorem dX3_removeLine_23 : decode cX3_removeLine 23 = .ok (.isub, 1) := by decide +kernel
theorem dX3_removeLine_24 : decode cX3_removeLine 24 = .ok (.iconst 1, 1) := by decide +kernel
theorem dX3_removeLine_25 : decode cX3_removeLine 25 = .ok (.isub, 1) := by decide +kernel
theorem dX3_removeLine_26 : decode cX3_removeLine 26 = .ok (.invokevirtual 95, 3) := by decide +kernel
theorem dX3_removeLine_29 : decode cX3_removeLine 29 = .ok (.aload_n 0, 1) := by decide +kernel
theorem dX3_removeLine_30 : decode cX3_removeLine 30 = .ok (.dup, 1) := by decide +kernel
theorem dX3_removeLine_31 : decode cX3_removeLine 31 = .ok (.getfield 62, 3) := by decide +kernel
theorem dX3_removeLine_34 : decode cX3_removeLine 34 = .ok (.iconst 1, 1) := by decide +kernel
theorem dX3_removeLine_35 : decode cX3_removeLine 35 = .ok (.isub, 1) := by decide +kernel
theorem dX3_removeLine_36 : decode cX3_removeLine 36 = .ok (.putfield 62, 3) := by decide +kernel
theorem dX3_removeLine_39 : decode cX3_removeLine 39 = .ok (.return_, 1) := by decide +kernel
theorem dX3_moveLines_0 : decode cX3_moveLines 0 = .ok (.iload_n 3, 1) := by decide +kernel
theorem dX3_moveLines_1 : decode cX3_moveLines 1 = .ok (.ifCond .le 23, 3) := by decide +kernel
theorem dX3_moveLines_4 : decode cX3_moveLines 4 = .ok (.iload_n 1, 1) := by decide +kernel
theorem dX3_moveLines_5 : decode cX3_moveLines 5 = .ok (.ifCond .lt 19, 3) := by decide +kernel
theorem dX3_moveLines_8 : decode cX3_moveLines 8 = .ok (.iload_n 2, 1) := by decide +kernel
theorem dX3_moveLines_9 : decode cX3_moveLines 9 = .ok (.ifCond .lt 15, 3) := by decide +kernel
theorem dX3_moveLines_12 : decode cX3_moveLines 12 = .ok (.iload_n 1, 1) := by decide +kernel
theorem dX3_moveLines_13 : decode cX3_moveLines 13 = .ok (.iload_n 2, 1) := by decide +kernel
theorem dX3_moveLines_14 : decode cX3_moveLines 14 = .ok (.invokestatic 99, 3) := by decide +kernel
theorem dX3_moveLines_17 : decode cX3_moveLines 17 = .ok (.iload_n 3, 1) := by decide +kernel
theorem dX3_moveLines_18 : decode cX3_moveLines 18 = .ok (.iadd, 1) := by decide +kernel
theorem dX3_moveLines_19 : decode cX3_moveLines 19 = .ok (.bipush 40, 2) := by decide +kernel
theorem dX3_moveLines_21 : decode cX3_moveLines 21 = .ok (.if_icmp .le 4, 3) := by decide +kernel
theorem dX3_moveLines_24 : decode cX3_moveLines 24 = .ok (.return_, 1) := by decide +kernel
theorem dX3_moveLines_25 : decode cX3_moveLines 25 = .ok (.aload_n 0, 1) := by decide +kernel
theorem dX3_moveLines_26 : decode cX3_moveLines 26 = .ok (.getfield 21, 3) := by decide +kernel
theorem dX3_moveLines_29 : decode cX3_moveLines 29 = .ok (.iload_n 1, 1) := by decide +kernel
theorem dX3_moveLines_30 : decode cX3_moveLines 30 = .ok (.aload_n 0, 1) := by decide +kernel
theorem dX3_moveLines_31 : decode cX3_moveLines 31 = .ok (.getfield 21, 3) := by decide +kernel
theorem dX3_moveLines_34 : decode cX3_moveLines 34 = .ok (.iload_n 2, 1) := by decide +kernel
theorem dX3_moveLines_35 : decode cX3_moveLines 35 = .ok (.iload_n 3, 1) := by decide +kernel
theorem dX3_moveLines_36 : decode cX3_moveLines 36 = .ok (.invokestatic 74, 3) := by decide +kernel
theorem dX3_moveLines_39 : decode cX3_moveLines 39 = .ok (.aload_n 0, 1) := by decide +kernel
theorem dX3_moveLines_40 : decode cX3_moveLines 40 = .ok (.getfield 24, 3) := by decide +kernel
theorem dX3_moveLines_43 : decode cX3_moveLines 43 = .ok (.iload_n 1, 1) := by decide +kernel
theorem dX3_moveLines_44 : decode cX3_moveLines 44 = .ok (.aload_n 0, 1) := by decide +kernel
theorem dX3_moveLines_45 : decode cX3_moveLines 45 = .ok (.getfield 24, 3) := by decide +kernel
theorem dX3_moveLines_48 : decode cX3_moveLines 48 = .ok (.iload_n 2, 1) := by decide +kernel
theorem dX3_moveLines_49 : decode cX3_moveLines 49 = .ok (.iload_n 3, 1) := by decide +kernel
theorem dX3_moveLines_50 : decode cX3_moveLines 50 = .ok (.invokestatic 74, 3) := by decide +kernel
theorem dX3_moveLines_53 : decode cX3_moveLines 53 = .ok (.aload_n 0, 1) := by decide +kernel
theorem dX3_moveLines_54 : decode cX3_moveLines 54 = .ok (.getfield 27, 3) := by decide +kernel
theorem dX3_moveLines_57 : decode cX3_moveLines 57 = .ok (.iload_n 1, 1) := by decide +kernel
theorem dX3_moveLines_58 : decode cX3_moveLines 58 = .ok (.aload_n 0, 1) := by decide +kernel
theorem dX3_moveLines_59 : decode cX3_moveLines 59 = .ok (.getfield 27, 3) := by decide +kernel
theorem dX3_moveLines_62 : decode cX3_moveLines 62 = .ok (.iload_n 2, 1) := by decide +kernel
theorem dX3_moveLines_63 : decode cX3_moveLines 63 = .ok (.iload_n 3, 1) := by decide +kernel
theorem dX3_moveLines_64 : decode cX3_moveLines 64 = .ok (.invokestatic 74, 3) := by decide +kernel
theorem dX3_moveLines_67 : decode cX3_moveLines 67 = .ok (.aload_n 0, 1) := by decide +kernel
theorem dX3_moveLines_68 : decode cX3_moveLines 68 = .ok (.getfield 30, 3) := by decide +kernel
theorem dX3_moveLines_71 : decode cX3_moveLines 71 = .ok (.iload_n 1, 1) := by decide +kernel
theorem dX3_moveLines_72 : decode cX3_moveLines 72 = .ok (.aload_n 0, 1) := by decide +kernel
theorem dX3_moveLines_73 : decode cX3_moveLines 73 = .ok (.getfield 30, 3) := by decide +kernel
theorem dX3_moveLines_76 : decode cX3_moveLines 76 = .ok (.iload_n 2, 1) := by decide +kernel
theorem dX3_moveLines_77 : decode cX3_moveLines 77 = .ok (.iload_n 3, 1) := by decide +kernel
theorem dX3_moveLines_78 : decode cX3_moveLines 78 = .ok (.invokestatic 74, 3) := by decide +kernel
theorem dX3_moveLines_81 : decode cX3_moveLines 81 = .ok (.return_, 1) := by decide +kernel
theorem dX4_init_0 : decode cX4_init 0 = .ok (.aload_n 0, 1) := by decide +kernel
theorem dX4_init_1 : decode cX4_init 1 = .ok (.invokespecial 3, 3) := by decide +kernel
theorem dX4_init_4 : decode cX4_init 4 = .ok (.aload_n 0, 1) := by decide +kernel
theorem dX4_init_5 : decode cX4_init 5 = .ok (.sipush 600, 3) := by decide +kernel
theorem dX4_init_8 : decode cX4_init 8 = .ok (.newarray .int, 2) := by decide +kernel
theorem dX4_init_10 : decode cX4_init 10 = .ok (.putfield 9, 3) := by decide +kernel
theorem dX4_init_13 : decode cX4_init 13 = .ok (.return_, 1) := by decide +kernel
theorem dX4_add_0 : decode cX4_add 0 = .ok (.aload_n 0, 1) := by decide +kernel
theorem dX4_add_1 : decode cX4_add 1 = .ok (.getfield 15, 3) := by decide +kernel
theorem dX4_add_4 : decode cX4_add 4 = .ok (.ifCond .lt 33, 3) := by decide +kernel
theorem dX4_add_7 : decode cX4_add 7 = .ok (.aload_n 0, 1) := by decide +kernel
theorem dX4_add_8 : decode cX4_add 8 = .ok (.getfield 15, 3) := by decide +kernel
theorem dX4_add_11 : decode cX4_add 11 = .ok (.sipush 600, 3) := by decide +kernel
theorem dX4_add_14 : decode cX4_add 14 = .ok (.if_icmp .ge 23, 3) := by decide +kernel
theorem dX4_add_17 : decode cX4_add 17 = .ok (.aload_n 0, 1) := by decide +kernel
theorem dX4_add_18 : decode cX4_add 18 = .ok (.getfield 9, 3) := by decide +kernel
theorem dX4_add_21 : decode cX4_add 21 = .ok (.aload_n 0, 1) := by decide +kernel
theorem dX4_add_22 : decode cX4_add 22 = .ok (.getfield 15, 3) := by decide +kernel
theorem dX4_add_25 : decode cX4_add 25 = .ok (.iload_n 1, 1) := by decide +kernel
theorem dX4_add_26 : decode cX4_add 26 = .ok (.iastore, 1) := by decide +kernel
theorem dX4_add_27 : decode cX4_add 27 = .ok (.aload_n 0, 1) := by decide +kernel
theorem dX4_add_28 : decode cX4_add 28 = .ok (.dup, 1) := by decide +kernel
theorem dX4_add_29 : decode cX4_add 29 = .ok (.getfield 15, 3) := by decide +kernel
theorem dX4_add_32 : decode cX4_add 32 = .ok (.iconst 1, 1) := by decide +kernel
theorem dX4_add_33 : decode cX4_add 33 = .ok (.iadd, 1) := by decide +kernel
theorem dX4_add_34 : decode cX4_add 34 = .ok (.putfield 15, 3) := by decide +kernel
theorem dX4_add_37 : decode cX4_add 37 = .ok (.return_, 1) := by decide +kernel
theorem dX4_addComparison_0 : decode cX4_addComparison 0 = .ok (.aload_n 0, 1) := by decide +kernel
theorem dX4_addComparison_1 : decode cX4_addComparison 1 = .ok (.iload_n 2, 1) := by decide +kernel
theorem dX4_addComparison_2 : decode cX4_addComparison 2 = .ok (.iconst 1, 1) := by decide +kernel
theorem dX4_addComparison_3 : decode cX4_addComparison 3 = .ok (.iadd, 1) := by decide +kernel
theorem dX4_addComparison_4 : decode cX4_addComparison 4 = .ok (.bipush 11, 2) := by decide +kernel
theorem dX4_addComparison_6 : decode cX4_addComparison 6 = .ok (.ishl, 1) := by decide +kernel
theorem dX4_addComparison_7 : decode cX4_addComparison 7 = .ok (.iload_n 1, 1) := by decide +kernel
theorem dX4_addComparison_8 : decode cX4_addComparison 8 = .ok (.ior, 1) := by decide +kernel
theorem dX4_addComparison_9 : decode cX4_addComparison 9 = .ok (.bipush 11, 2) := by decide +kernel
theorem dX4_addComparison_11 : decode cX4_addComparison 11 = .ok (.ishl, 1) := by decide +kernel
theorem dX4_addComparison_12 : decode cX4_addComparison 12 = .ok (.iload_n 3, 1) := by decide +kernel
theorem dX4_addComparison_13 : decode cX4_addComparison 13 = .ok (.ior, 1) := by decide +kernel
theorem dX4_addComparison_14 : decode cX4_addComparison 14 = .ok (.invokevirtual 19, 3) := by decide +kernel
theorem dX4_addComparison_17 : decode cX4_addComparison 17 = .ok (.return_, 1) := by decide +kernel
theorem dX4_copyFrom_0 : decode cX4_copyFrom 0 = .ok (.aload_n 0, 1) := by decide +kernel
theorem dX4_copyFrom_1 : decode cX4_copyFrom 1 = .ok (.aload_n 1, 1) := by decide +kernel
theorem dX4_copyFrom_2 : decode cX4_copyFrom 2 = .ok (.getfield 15, 3) := by decide +kernel
theorem dX4_copyFrom_5 : decode cX4_copyFrom 5 = .ok (.putfield 15, 3) := by decide +kernel
theorem dX4_copyFrom_8 : decode cX4_copyFrom 8 = .ok (.aload_n 0, 1) := by decide +kernel
theorem dX4_copyFrom_9 : decode cX4_copyFrom 9 = .ok (.getfield 15, 3) := by decide +kernel
theorem dX4_copyFrom_12 : decode cX4_copyFrom 12 = .ok (.ifCond .le 30, 3) := by decide +kernel
theorem dX4_copyFrom_15 : decode cX4_copyFrom 15 = .ok (.aload_n 0, 1) := by decide +kernel
theorem dX4_copyFrom_16 : decode cX4_copyFrom 16 = .ok (.getfield 15, 3) := by decide +kernel
theorem dX4_copyFrom_19 : decode cX4_copyFrom 19 = .ok (.sipush 600, 3) := by decide +kernel
theorem dX4_copyFrom_22 : decode cX4_copyFrom 22 = .ok (.if_icmp .gt 20, 3) := by decide +kernel
theorem dX4_copyFrom_25 : decode cX4_copyFrom 25 = .ok (.aload_n 1, 1) := by decide +kernel
theorem dX4_copyFrom_26 : decode cX4_copyFrom 26 = .ok (.getfield 9, 3) := by decide +kernel
theorem dX4_copyFrom_29 : decode cX4_copyFrom 29 = .ok (.iconst 0, 1) := by decide +kernel
theorem dX4_copyFrom_30 : decode cX4_copyFrom 30 = .ok (.aload_n 0, 1) := by decide +kernel
theorem dX4_copyFrom_31 : decode cX4_copyFrom 31 = .ok (.getfield 9, 3) := by decide +kernel
theorem dX4_copyFrom_34 : decode cX4_copyFrom 34 = .ok (.iconst 0, 1) := by decide +kernel
theorem dX4_copyFrom_35 : decode cX4_copyFrom 35 = .ok (.aload_n 0, 1) := by decide +kernel
theorem dX4_copyFrom_36 : decode cX4_copyFrom 36 = .ok (.getfield 15, 3) := by decide +kernel
theorem dX4_copyFrom_39 : decode cX4_copyFrom 39 = .ok (.invokestatic 23, 3) := by decide +kernel
theorem dX4_copyFrom_42 : decode cX4_copyFrom 42 = .ok (.return_, 1) := by decide +kernel
theorem dX4_holds_0 : decode cX4_holds 0 = .ok (.aload_n 0, 1) := by decide +kernel
theorem dX4_holds_1 : decode cX4_holds 1 = .ok (.getfield 15, 3) := by decide +kernel
theorem dX4_holds_4 : decode cX4_holds 4 = .ok (.ifCond .ne 5, 3) := by decide +kernel
theorem dX4_holds_7 : decode cX4_holds 7 = .ok (.iconst 1, 1) := by decide +kernel
theorem dX4_holds_8 : decode cX4_holds 8 = .ok (.ireturn, 1) := by decide +kernel
theorem dX4_holds_9 : decode cX4_holds 9 = .ok (.lconst 0, 1) := by decide +kernel
theorem dX4_holds_10 : decode cX4_holds 10 = .ok (.lstore_n 2, 1) := by decide +kernel
theorem dX4_holds_11 : decode cX4_holds 11 = .ok (.iconst 0, 1) := by decide +kernel
theorem dX4_holds_12 : decode cX4_holds 12 = .ok (.istore 4, 2) := by decide +kernel
theorem dX4_holds_14 : decode cX4_holds 14 = .ok (.iload 4, 2) := by decide +kernel
theorem dX4_holds_16 : decode cX4_holds 16 = .ok (.aload_n 0, 1) := by decide +kernel
theorem dX4_holds_17 : decode cX4_holds 17 = .ok (.getfield 15, 3) := by decide +kernel
theorem dX4_holds_20 : decode cX4_holds 20 = .ok (.if_icmp .ge 99, 3) := by decide +kernel
theorem dX4_holds_23 : decode cX4_holds 23 = .ok (.iload 4, 2) := by decide +kernel
theorem dX4_holds_25 : decode cX4_holds 25 = .ok (.sipush 600, 3) := by decide +kernel
theorem dX4_holds_28 : decode cX4_holds 28 = .ok (.if_icmp .ge 91, 3) := by decide +kernel
theorem dX4_holds_31 : decode cX4_holds 31 = .ok (.aload_n 0, 1) := by decide +kernel
theorem dX4_holds_32 : decode cX4_holds 32 = .ok (.getfield 9, 3) := by decide +kernel
theorem dX4_holds_35 : decode cX4_holds 35 = .ok (.iload 4, 2) := by decide +kernel
theorem dX4_holds_37 : decode cX4_holds 37 = .ok (.iaload, 1) := by decide +kernel
theorem dX4_holds_38 : decode cX4_holds 38 = .ok (.istore 5, 2) := by decide +kernel
theorem dX4_holds_40 : decode cX4_holds 40 = .ok (.iload 5, 2) := by decide +kernel
theorem dX4_holds_42 : decode cX4_holds 42 = .ok (.iconst (-1), 1) := by decide +kernel
theorem dX4_holds_43 : decode cX4_holds 43 = .ok (.if_icmp .ne 10, 3) := by decide +kernel
theorem dX4_holds_46 : decode cX4_holds 46 = .ok (.lload_n 2, 1) := by decide +kernel
theorem dX4_holds_47 : decode cX4_holds 47 = .ok (.lconst 1, 1) := by decide +kernel
theorem dX4_holds_48 : decode cX4_holds 48 = .ok (.lxor, 1) := by decide +kernel
theorem dX4_holds_49 : decode cX4_holds 49 = .ok (.lstore_n 2, 1) := by decide +kernel
theorem dX4_holds_50 : decode cX4_holds 50 = .ok (.goto 63, 3) := by decide +kernel
theorem dX4_holds_53 : decode cX4_holds 53 = .ok (.iload 5, 2) := by decide +kernel
theorem dX4_holds_55 : decode cX4_holds 55 = .ok (.bipush (-2), 2) := by decide +kernel
theorem dX4_holds_57 : decode cX4_holds 57 = .ok (.if_icmp .ne 18, 3) := by decide +kernel
theorem dX4_holds_60 : decode cX4_holds 60 = .ok (.lload_n 2, 1) := by decide +kernel
theorem dX4_holds_61 : decode cX4_holds 61 = .ok (.iconst 1, 1) := by decide +kernel
theorem dX4_holds_62 : decode cX4_holds 62 = .ok (.lushr, 1) := by decide +kernel
theorem dX4_holds_63 : decode cX4_holds 63 = .ok (.lload_n 2, 1) := by decide +kernel
theorem dX4_holds_64 : decode cX4_holds 64 = .ok (.lconst 1, 1) := by decide +kernel
theorem dX4_holds_65 : decode cX4_holds 65 = .ok (.land, 1) := by decide +kernel
theorem dX4_holds_66 : decode cX4_holds 66 = .ok (.ldc2_w 29, 3) := by decide +kernel
theorem dX4_holds_69 : decode cX4_holds 69 = .ok (.lor, 1) := by decide +kernel
theorem dX4_holds_70 : decode cX4_holds 70 = .ok (.land, 1) := by decide +kernel
theorem dX4_holds_71 : decode cX4_holds 71 = .ok (.lstore_n 2, 1) := by decide +kernel
theorem dX4_holds_72 : decode cX4_holds 72 = .ok (.goto 41, 3) := by decide +kernel
theorem dX4_holds_75 : decode cX4_holds 75 = .ok (.iload 5, 2) := by decide +kernel
theorem dX4_holds_77 : decode cX4_holds 77 = .ok (.bipush (-3), 2) := by decide +kernel
theorem dX4_holds_79 : decode cX4_holds 79 = .ok (.if_icmp .ne 14, 3) := by decide +kernel
theorem dX4_holds_82 : decode cX4_holds 82 = .ok (.lload_n 2, 1) := by decide +kernel
theorem dX4_holds_83 : decode cX4_holds 83 = .ok (.iconst 1, 1) := by decide +kernel
theorem dX4_holds_84 : decode cX4_holds 84 = .ok (.lushr, 1) := by decide +kernel
theorem dX4_holds_85 : decode cX4_holds 85 = .ok (.lload_n 2, 1) := by decide +kernel
theorem dX4_holds_86 : decode cX4_holds 86 = .ok (.lconst 1, 1) := by decide +kernel
theorem dX4_holds_87 : decode cX4_holds 87 = .ok (.land, 1) := by decide +kernel
theorem dX4_holds_88 : decode cX4_holds 88 = .ok (.lor, 1) := by decide +kernel
theorem dX4_holds_89 : decode cX4_holds 89 = .ok (.lstore_n 2, 1) := by decide +kernel
theorem dX4_holds_90 : decode cX4_holds 90 = .ok (.goto 23, 3) := by decide +kernel
theorem dX4_holds_93 : decode cX4_holds 93 = .ok (.lload_n 2, 1) := by decide +kernel
theorem dX4_holds_94 : decode cX4_holds 94 = .ok (.iconst 1, 1) := by decide +kernel
theorem dX4_holds_95 : decode cX4_holds 95 = .ok (.lshl, 1) := by decide +kernel
theorem dX4_holds_96 : decode cX4_holds 96 = .ok (.iload 5, 2) := by decide +kernel
theorem dX4_holds_98 : decode cX4_holds 98 = .ok (.aload_n 1, 1) := by decide +kernel
theorem dX4_holds_99 : decode cX4_holds 99 = .ok (.invokestatic 31, 3) := by decide +kernel
theorem dX4_holds_102 : decode cX4_holds 102 = .ok (.ifCond .eq 7, 3) := by decide +kernel
theorem dX4_holds_105 : decode cX4_holds 105 = .ok (.iconst 1, 1) := by decide +kernel
theorem dX4_holds_106 : decode cX4_holds 106 = .ok (.goto 4, 3) := by decide +kernel
theorem dX4_holds_109 : decode cX4_holds 109 = .ok (.iconst 0, 1) := by decide +kernel
theorem dX4_holds_110 : decode cX4_holds 110 = .ok (.i2l, 1) := by decide +kernel
theorem dX4_holds_111 : decode cX4_holds 111 = .ok (.lor, 1) := by decide +kernel
theorem dX4_holds_112 : decode cX4_holds 112 = .ok (.lstore_n 2, 1) := by decide +kernel
theorem dX4_holds_113 : decode cX4_holds 113 = .ok (.iinc 4 1, 3) := by decide +kernel
theorem dX4_holds_116 : decode cX4_holds 116 = .ok (.goto (-102), 3) := by decide +kernel
theorem dX4_holds_119 : decode cX4_holds 119 = .ok (.lload_n 2, 1) := by decide +kernel
theorem dX4_holds_120 : decode cX4_holds 120 = .ok (.lconst 1, 1) := by decide +kernel
theorem dX4_holds_121 : decode cX4_holds 121 = .ok (.land, 1) := by decide +kernel
theorem dX4_holds_122 : decode cX4_holds 122 = .ok (.lconst 1, 1) := by decide +kernel
theorem dX4_holds_123 : decode cX4_holds 123 = .ok (.lcmp, 1) := by decide +kernel
theorem dX4_holds_124 : decode cX4_holds 124 = .ok (.ifCond .ne 7, 3) := by decide +kernel
theorem dX4_holds_127 : decode cX4_holds 127 = .ok (.iconst 1, 1) := by decide +kernel
theorem dX4_holds_128 : decode cX4_holds 128 = .ok (.goto 4, 3) := by decide +kernel
theorem dX4_holds_131 : decode cX4_holds 131 = .ok (.iconst 0, 1) := by decide +kernel
theorem dX4_holds_132 : decode cX4_holds 132 = .ok (.ireturn, 1) := by decide +kernel
theorem dX4_compares_0 : decode cX4_compares 0 = .ok (.iload_n 0, 1) := by decide +kernel
theorem dX4_compares_1 : decode cX4_compares 1 = .ok (.bipush 11, 2) := by decide +kernel
theorem dX4_compares_3 : decode cX4_compares 3 = .ok (.ishr, 1) := by decide +kernel
theorem dX4_compares_4 : decode cX4_compares 4 = .ok (.sipush 2047, 3) := by decide +kernel
theorem dX4_compares_7 : decode cX4_compares 7 = .ok (.iand, 1) := by decide +kernel
theorem dX4_compares_8 : decode cX4_compares 8 = .ok (.aload_n 1, 1) := by decide +kernel
theorem dX4_compares_9 : decode cX4_compares 9 = .ok (.invokestatic 35, 3) := by decide +kernel
theorem dX4_compares_12 : decode cX4_compares 12 = .ok (.istore_n 2, 1) := by decide +kernel
theorem dX4_compares_13 : decode cX4_compares 13 = .ok (.iload_n 0, 1) := by decide +kernel
theorem dX4_compares_14 : decode cX4_compares 14 = .ok (.sipush 2047, 3) := by decide +kernel
theorem dX4_compares_17 : decode cX4_compares 17 = .ok (.iand, 1) := by decide +kernel
theorem dX4_compares_18 : decode cX4_compares 18 = .ok (.aload_n 1, 1) := by decide +kernel
theorem dX4_compares_19 : decode cX4_compares 19 = .ok (.invokestatic 35, 3) := by decide +kernel
theorem dX4_compares_22 : decode cX4_compares 22 = .ok (.istore_n 3, 1) := by decide +kernel
theorem dX4_compares_23 : decode cX4_compares 23 = .ok (.iload_n 0, 1) := by decide +kernel
theorem dX4_compares_24 : decode cX4_compares 24 = .ok (.bipush 22, 2) := by decide +kernel
theorem dX4_compares_26 : decode cX4_compares 26 = .ok (.ishr, 1) := by decide +kernel
theorem dX4_compares_27 : decode cX4_compares 27 = .ok (.iconst 1, 1) := by decide +kernel
theorem dX4_compares_28 : decode cX4_compares 28 = .ok (.isub, 1) := by decide +kernel
theorem dX4_compares_29 : decode cX4_compares 29 = .ok (.istore 4, 2) := by decide +kernel
theorem dX4_compares_31 : decode cX4_compares 31 = .ok (.iload 4, 2) := by decide +kernel
theorem dX4_compares_33 : decode cX4_compares 33 = .ok (.ifCond .ne 14, 3) := by decide +kernel
theorem dX4_compares_36 : decode cX4_compares 36 = .ok (.iload_n 2, 1) := by decide +kernel
theorem dX4_compares_37 : decode cX4_compares 37 = .ok (.iload_n 3, 1) := by decide +kernel
theorem dX4_compares_38 : decode cX4_compares 38 = .ok (.if_icmp .ne 7, 3) := by decide +kernel
theorem dX4_compares_41 : decode cX4_compares 41 = .ok (.iconst 1, 1) := by decide +kernel
theorem dX4_compares_42 : decode cX4_compares 42 = .ok (.goto 4, 3) := by decide +kernel
theorem dX4_compares_45 : decode cX4_compares 45 = .ok (.iconst 0, 1) := by decide +kernel
theorem dX4_compares_46 : decode cX4_compares 46 = .ok (.ireturn, 1) := by decide +kernel
theorem dX4_compares_47 : decode cX4_compares 47 = .ok (.iload 4, 2) := by decide +kernel
theorem dX4_compares_49 : decode cX4_compares 49 = .ok (.ifCond .ge 16, 3) := by decide +kernel
theorem dX4_compares_52 : decode cX4_compares 52 = .ok (.iload_n 2, 1) := by decide +kernel
theorem dX4_compares_53 : decode cX4_compares 53 = .ok (.iload_n 3, 1) := by decide +kernel
theorem dX4_compares_54 : decode cX4_compares 54 = .ok (.if_icmp .ge 7, 3) := by decide +kernel
theorem dX4_compares_57 : decode cX4_compares 57 = .ok (.iconst 1, 1) := by decide +kernel
theorem dX4_compares_58 : decode cX4_compares 58 = .ok (.goto 17, 3) := by decide +kernel
theorem dX4_compares_61 : decode cX4_compares 61 = .ok (.iconst 0, 1) := by decide +kernel
theorem dX4_compares_62 : decode cX4_compares 62 = .ok (.goto 13, 3) := by decide +kernel
theorem dX4_compares_65 : decode cX4_compares 65 = .ok (.iload_n 2, 1) := by decide +kernel
theorem dX4_compares_66 : decode cX4_compares 66 = .ok (.iload_n 3, 1) := by decide +kernel
theorem dX4_compares_67 : decode cX4_compares 67 = .ok (.if_icmp .le 7, 3) := by decide +kernel
theorem dX4_compares_70 : decode cX4_compares 70 = .ok (.iconst 1, 1) := by decide +kernel
theorem dX4_compares_71 : decode cX4_compares 71 = .ok (.goto 4, 3) := by decide +kernel
theorem dX4_compares_74 : decode cX4_compares 74 = .ok (.iconst 0, 1) := by decide +kernel
theorem dX4_compares_75 : decode cX4_compares 75 = .ok (.ireturn, 1) := by decide +kernel
theorem dX4_valueOf_0 : decode cX4_valueOf 0 = .ok (.iload_n 0, 1) := by decide +kernel
theorem dX4_valueOf_1 : decode cX4_valueOf 1 = .ok (.sipush 1000, 3) := by decide +kernel
theorem dX4_valueOf_4 : decode cX4_valueOf 4 = .ok (.isub, 1) := by decide +kernel
theorem dX4_valueOf_5 : decode cX4_valueOf 5 = .ok (.istore_n 2, 1) := by decide +kernel
theorem dX4_valueOf_6 : decode cX4_valueOf 6 = .ok (.iload_n 2, 1) := by decide +kernel
theorem dX4_valueOf_7 : decode cX4_valueOf 7 = .ok (.ifCond .lt 15, 3) := by decide +kernel
theorem dX4_valueOf_10 : decode cX4_valueOf 10 = .ok (.iload_n 2, 1) := by decide +kernel
theorem dX4_valueOf_11 : decode cX4_valueOf 11 = .ok (.aload_n 1, 1) := by decide +kernel
theorem dX4_valueOf_12 : decode cX4_valueOf 12 = .ok (.arraylength, 1) := by decide +kernel
theorem dX4_valueOf_13 : decode cX4_valueOf 13 = .ok (.if_icmp .ge 9, 3) := by decide +kernel
theorem dX4_valueOf_16 : decode cX4_valueOf 16 = .ok (.aload_n 1, 1) := by decide +kernel
theorem dX4_valueOf_17 : decode cX4_valueOf 17 = .ok (.iload_n 2, 1) := by decide +kernel
theorem dX4_valueOf_18 : decode cX4_valueOf 18 = .ok (.iaload, 1) := by decide +kernel
theorem dX4_valueOf_19 : decode cX4_valueOf 19 = .ok (.goto 4, 3) := by decide +kernel
theorem dX4_valueOf_22 : decode cX4_valueOf 22 = .ok (.iload_n 0, 1) := by decide +kernel
theorem dX4_valueOf_23 : decode cX4_valueOf 23 = .ok (.ireturn, 1) := by decide +kernel
theorem dX5_init_0 : decode cX5_init 0 = .ok (.aload_n 0, 1) := by decide +kernel
theorem dX5_init_1 : decode cX5_init 1 = .ok (.invokespecial 3, 3) := by decide +kernel
theorem dX5_init_4 : decode cX5_init 4 = .ok (.aload_n 0, 1) := by decide +kernel
theorem dX5_init_5 : decode cX5_init 5 = .ok (.sipush 600, 3) := by decide +kernel
theorem dX5_init_8 : decode cX5_init 8 = .ok (.newarray .byte, 2) := by decide +kernel
theorem dX5_init_10 : decode cX5_init 10 = .ok (.putfield 9, 3) := by decide +kernel
theorem dX5_init_13 : decode cX5_init 13 = .ok (.return_, 1) := by decide +kernel
theorem dX5_hasRoom_0 : decode cX5_hasRoom 0 = .ok (.aload_n 0, 1) := by decide +kernel
theorem dX5_hasRoom_1 : decode cX5_hasRoom 1 = .ok (.getfield 15, 3) := by decide +kernel
theorem dX5_hasRoom_4 : decode cX5_hasRoom 4 = .ok (.bipush 20, 2) := by decide +kernel
theorem dX5_hasRoom_6 : decode cX5_hasRoom 6 = .ok (.iadd, 1) := by decide +kernel
theorem dX5_hasRoom_7 : decode cX5_hasRoom 7 = .ok (.sipush 600, 3) := by decide +kernel
theorem dX5_hasRoom_10 : decode cX5_hasRoom 10 = .ok (.if_icmp .gt 7, 3) := by decide +kernel
theorem dX5_hasRoom_13 : decode cX5_hasRoom 13 = .ok (.iconst 1, 1) := by decide +kernel
theorem dX5_hasRoom_14 : decode cX5_hasRoom 14 = .ok (.goto 4, 3) := by decide +kernel
theorem dX5_hasRoom_17 : decode cX5_hasRoom 17 = .ok (.iconst 0, 1) := by decide +kernel
theorem dX5_hasRoom_18 : decode cX5_hasRoom 18 = .ok (.ireturn, 1) := by decide +kernel
theorem dX5_put_0 : decode cX5_put 0 = .ok (.aload_n 0, 1) := by decide +kernel
theorem dX5_put_1 : decode cX5_put 1 = .ok (.getfield 15, 3) := by decide +kernel
theorem dX5_put_4 : decode cX5_put 4 = .ok (.ifCond .lt 15, 3) := by decide +kernel
theorem dX5_put_7 : decode cX5_put 7 = .ok (.aload_n 0, 1) := by decide +kernel
theorem dX5_put_8 : decode cX5_put 8 = .ok (.getfield 15, 3) := by decide +kernel
theorem dX5_put_11 : decode cX5_put 11 = .ok (.iconst 4, 1) := by decide +kernel
theorem dX5_put_12 : decode cX5_put 12 = .ok (.iadd, 1) := by decide +kernel
theorem dX5_put_13 : decode cX5_put 13 = .ok (.sipush 600, 3) := by decide +kernel
theorem dX5_put_16 : decode cX5_put 16 = .ok (.if_icmp .le 4, 3) := by decide +kernel
theorem dX5_put_19 : decode cX5_put 19 = .ok (.return_, 1) := by decide +kernel
theorem dX5_put_20 : decode cX5_put 20 = .ok (.aload_n 0, 1) := by decide +kernel
theorem dX5_put_21 : decode cX5_put 21 = .ok (.getfield 9, 3) := by decide +kernel
theorem dX5_put_24 : decode cX5_put 24 = .ok (.aload_n 0, 1) := by decide +kernel
theorem dX5_put_25 : decode cX5_put 25 = .ok (.getfield 15, 3) := by decide +kernel
theorem dX5_put_28 : decode cX5_put 28 = .ok (.iload_n 1, 1) := by decide +kernel
theorem dX5_put_29 : decode cX5_put 29 = .ok (.bipush 24, 2) := by decide +kernel
theorem dX5_put_31 : decode cX5_put 31 = .ok (.iushr, 1) := by decide +kernel
theorem dX5_put_32 : decode cX5_put 32 = .ok (.i2b, 1) := by decide +kernel
theorem dX5_put_33 : decode cX5_put 33 = .ok (.bastore, 1) := by decide +kernel
theorem dX5_put_34 : decode cX5_put 34 = .ok (.aload_n 0, 1) := by decide +kernel
theorem dX5_put_35 : decode cX5_put 35 = .ok (.getfield 9, 3) := by decide +kernel
theorem dX5_put_38 : decode cX5_put 38 = .ok (.aload_n 0, 1) := by decide +kernel
theorem dX5_put_39 : decode cX5_put 39 = .ok (.getfield 15, 3) := by decide +kernel
theorem dX5_put_42 : decode cX5_put 42 = .ok (.iconst 1, 1) := by decide +kernel
theorem dX5_put_43 : decode cX5_put 43 = .ok (.iadd, 1) := by decide +kernel
theorem dX5_put_44 : decode cX5_put 44 = .ok (.iload_n 1, 1) := by decide +kernel
theorem dX5_put_45 : decode cX5_put 45 = .ok (.bipush 16, 2) := by decide +kernel
theorem dX5_put_47 : decode cX5_put 47 = .ok (.iushr, 1) := by decide +kernel
theorem dX5_put_48 : decode cX5_put 48 = .ok (.i2b, 1) := by decide +kernel
theorem dX5_put_49 : decode cX5_put 49 = .ok (.bastore, 1) := by decide +kernel
theorem dX5_put_50 : decode cX5_put 50 = .ok (.aload_n 0, 1) := by decide +kernel
theorem dX5_put_51 : decode cX5_put 51 = .ok (.getfield 9, 3) := by decide +kernel
theorem dX5_put_54 : decode cX5_put 54 = .ok (.aload_n 0, 1) := by decide +kernel
theorem dX5_put_55 : decode cX5_put 55 = .ok (.getfield 15, 3) := by decide +kernel
theorem dX5_put_58 : decode cX5_put 58 = .ok (.iconst 2, 1) := by decide +kernel
theorem dX5_put_59 : decode cX5_put 59 = .ok (.iadd, 1) := by decide +kernel
theorem dX5_put_60 : decode cX5_put 60 = .ok (.iload_n 1, 1) := by decide +kernel
theorem dX5_put_61 : decode cX5_put 61 = .ok (.bipush 8, 2) := by decide +kernel
theorem dX5_put_63 : decode cX5_put 63 = .ok (.iushr, 1) := by decide +kernel
theorem dX5_put_64 : decode cX5_put 64 = .ok (.i2b, 1) := by decide +kernel
theorem dX5_put_65 : decode cX5_put 65 = .ok (.bastore, 1) := by decide +kernel
theorem dX5_put_66 : decode cX5_put 66 = .ok (.aload_n 0, 1) := by decide +kernel
theorem dX5_put_67 : decode cX5_put 67 = .ok (.getfield 9, 3) := by decide +kernel
theorem dX5_put_70 : decode cX5_put 70 = .ok (.aload_n 0, 1) := by decide +kernel
theorem dX5_put_71 : decode cX5_put 71 = .ok (.getfield 15, 3) := by decide +kernel
theorem dX5_put_74 : decode cX5_put 74 = .ok (.iconst 3, 1) := by decide +kernel
theorem dX5_put_75 : decode cX5_put 75 = .ok (.iadd, 1) := by decide +kernel
theorem dX5_put_76 : decode cX5_put 76 = .ok (.iload_n 1, 1) := by decide +kernel
theorem dX5_put_77 : decode cX5_put 77 = .ok (.i2b, 1) := by decide +kernel
theorem dX5_put_78 : decode cX5_put 78 = .ok (.bastore, 1) := by decide +kernel
theorem dX5_put_79 : decode cX5_put 79 = .ok (.aload_n 0, 1) := by decide +kernel
theorem dX5_put_80 : decode cX5_put 80 = .ok (.dup, 1) := by decide +kernel
theorem dX5_put_81 : decode cX5_put 81 = .ok (.getfield 15, 3) := by decide +kernel
theorem dX5_put_84 : decode cX5_put 84 = .ok (.iconst 4, 1) := by decide +kernel
theorem dX5_put_85 : decode cX5_put 85 = .ok (.iadd, 1) := by decide +kernel
theorem dX5_put_86 : decode cX5_put 86 = .ok (.putfield 15, 3) := by decide +kernel
theorem dX5_put_89 : decode cX5_put 89 = .ok (.return_, 1) := by decide +kernel
theorem dX6_init_0 : decode cX6_init 0 = .ok (.aload_n 0, 1) := by decide +kernel
theorem dX6_init_1 : decode cX6_init 1 = .ok (.invokespecial 3, 3) := by decide +kernel
theorem dX6_init_4 : decode cX6_init 4 = .ok (.aload_n 0, 1) := by decide +kernel
theorem dX6_init_5 : decode cX6_init 5 = .ok (.new 9, 3) := by decide +kernel
theorem dX6_init_8 : decode cX6_init 8 = .ok (.dup, 1) := by decide +kernel
theorem dX6_init_9 : decode cX6_init 9 = .ok (.invokespecial 11, 3) := by decide +kernel
theorem dX6_init_12 : decode cX6_init 12 = .ok (.putfield 12, 3) := by decide +kernel
theorem dX6_init_15 : decode cX6_init 15 = .ok (.aload_n 0, 1) := by decide +kernel
theorem dX6_init_16 : decode cX6_init 16 = .ok (.new 18, 3) := by decide +kernel
theorem dX6_init_19 : decode cX6_init 19 = .ok (.dup, 1) := by decide +kernel
theorem dX6_init_20 : decode cX6_init 20 = .ok (.invokespecial 20, 3) := by decide +kernel
theorem dX6_init_23 : decode cX6_init 23 = .ok (.putfield 21, 3) := by decide +kernel
theorem dX6_init_26 : decode cX6_init 26 = .ok (.return_, 1) := by decide +kernel
theorem dX6_read_0 : decode cX6_read 0 = .ok (.aload_n 0, 1) := by decide +kernel
theorem dX6_read_1 : decode cX6_read 1 = .ok (.iload_n 1, 1) := by decide +kernel
theorem dX6_read_2 : decode cX6_read 2 = .ok (.invokevirtual 25, 3) := by decide +kernel
theorem dX6_read_5 : decode cX6_read 5 = .ok (.iconst 1, 1) := by decide +kernel
theorem dX6_read_6 : decode cX6_read 6 = .ok (.istore_n 2, 1) := by decide +kernel
theorem dX6_read_7 : decode cX6_read 7 = .ok (.iconst 0, 1) := by decide +kernel
theorem dX6_read_8 : decode cX6_read 8 = .ok (.istore_n 3, 1) := by decide +kernel
theorem dX6_read_9 : decode cX6_read 9 = .ok (.iload_n 3, 1) := by decide +kernel
theorem dX6_read_10 : decode cX6_read 10 = .ok (.sipush 600, 3) := by decide +kernel
theorem dX6_read_13 : decode cX6_read 13 = .ok (.if_icmp .ge 178, 3) := by decide +kernel
theorem dX6_read_16 : decode cX6_read 16 = .ok (.iload_n 2, 1) := by decide +kernel
theorem dX6_read_17 : decode cX6_read 17 = .ok (.ifCond .eq 174, 3) := by decide +kernel
theorem dX6_read_20 : decode cX6_read 20 = .ok (.aload_n 0, 1) := by decide +kernel
theorem dX6_read_21 : decode cX6_read 21 = .ok (.invokevirtual 29, 3) := by decide +kernel
theorem dX6_read_24 : decode cX6_read 24 = .ok (.ifCond .eq 167, 3) := by decide +kernel
theorem dX6_read_27 : decode cX6_read 27 = .ok (.aload_n 0, 1) := by decide +kernel
theorem dX6_read_28 : decode cX6_read 28 = .ok (.invokevirtual 29, 3) := by decide +kernel
theorem dX6_read_31 : decode cX6_read 31 = .ok (.tableswitch 125 1 8 #[45, 53, 61, 69, 77, 85, 93, 101], 45) := by decide +kernel
theorem dX6_read_76 : decode cX6_read 76 = .ok (.aload_n 0, 1) := by decide +kernel
theorem dX6_read_77 : decode cX6_read 77 = .ok (.invokevirtual 33, 3) := by decide +kernel
theorem dX6_read_80 : decode cX6_read 80 = .ok (.istore_n 2, 1) := by decide +kernel
theorem dX6_read_81 : decode cX6_read 81 = .ok (.goto 85, 3) := by decide +kernel
theorem dX6_read_84 : decode cX6_read 84 = .ok (.aload_n 0, 1) := by decide +kernel
theorem dX6_read_85 : decode cX6_read 85 = .ok (.invokevirtual 37, 3) := by decide +kernel
theorem dX6_read_88 : decode cX6_read 88 = .ok (.istore_n 2, 1) := by decide +kernel
theorem dX6_read_89 : decode cX6_read 89 = .ok (.goto 77, 3) := by decide +kernel
theorem dX6_read_92 : decode cX6_read 92 = .ok (.aload_n 0, 1) := by decide +kernel
theorem dX6_read_93 : decode cX6_read 93 = .ok (.invokevirtual 40, 3) := by decide +kernel
theorem dX6_read_96 : decode cX6_read 96 = .ok (.istore_n 2, 1) := by decide +kernel
theorem dX6_read_97 : decode cX6_read 97 = .ok (.goto 69, 3) := by decide +kernel
theorem dX6_read_100 : decode cX6_read 100 = .ok (.aload_n 0, 1) := by decide +kernel
theorem dX6_read_101 : decode cX6_read 101 = .ok (.invokevirtual 43, 3) := by decide +kernel
theorem dX6_read_104 : decode cX6_read 104 = .ok (.istore_n 2, 1) := by decide +kernel
theorem dX6_read_105 : decode cX6_read 105 = .ok (.goto 61, 3) := by decide +kernel
theorem dX6_read_108 : decode cX6_read 108 = .ok (.aload_n 0, 1) := by decide +kernel
theorem dX6_read_109 : decode cX6_read 109 = .ok (.invokevirtual 46, 3) := by decide +kernel
theorem dX6_read_112 : decode cX6_read 112 = .ok (.istore_n 2, 1) := by decide +kernel
theorem dX6_read_113 : decode cX6_read 113 = .ok (.goto 53, 3) := by decide +kernel
theorem dX6_read_116 : decode cX6_read 116 = .ok (.aload_n 0, 1) := by decide +kernel
theorem dX6_read_117 : decode cX6_read 117 = .ok (.invokevirtual 49, 3) := by decide +kernel
theorem dX6_read_120 : decode cX6_read 120 = .ok (.istore_n 2, 1) := by decide +kernel
theorem dX6_read_121 : decode cX6_read 121 = .ok (.goto 45, 3) := by decide +kernel
theorem dX6_read_124 : decode cX6_read 124 = .ok (.aload_n 0, 1) := by decide +kernel
theorem dX6_read_125 : decode cX6_read 125 = .ok (.invokevirtual 52, 3) := by decide +kernel
theorem dX6_read_128 : decode cX6_read 128 = .ok (.istore_n 2, 1) := by decide +kernel
theorem dX6_read_129 : decode cX6_read 129 = .ok (.goto 37, 3) := by decide +kernel
theorem dX6_read_132 : decode cX6_read 132 = .ok (.aload_n 0, 1) := by decide +kernel
theorem dX6_read_133 : decode cX6_read 133 = .ok (.invokevirtual 55, 3) := by decide +kernel
theorem dX6_read_136 : decode cX6_read 136 = .ok (.ifCond .eq 15, 3) := by decide +kernel
theorem dX6_read_139 : decode cX6_read 139 = .ok (.aload_n 0, 1) := by decide +kernel
theorem dX6_read_140 : decode cX6_read 140 = .ok (.iconst 0, 1) := by decide +kernel
theorem dX6_read_141 : decode cX6_read 141 = .ok (.invokevirtual 58, 3) := by decide +kernel
theorem dX6_read_144 : decode cX6_read 144 = .ok (.ifCond .eq 7, 3) := by decide +kernel
theorem dX6_read_147 : decode cX6_read 147 = .ok (.iconst 1, 1) := by decide +kernel
theorem dX6_read_148 : decode cX6_read 148 = .ok (.goto 4, 3) := by decide +kernel
theorem dX6_read_151 : decode cX6_read 151 = .ok (.iconst 0, 1) := by decide +kernel
theorem dX6_read_152 : decode cX6_read 152 = .ok (.istore_n 2, 1) := by decide +kernel
theorem dX6_read_153 : decode cX6_read 153 = .ok (.goto 13, 3) := by decide +kernel
theorem dX6_read_156 : decode cX6_read 156 = .ok (.aload_n 0, 1) := by decide +kernel
theorem dX6_read_157 : decode cX6_read 157 = .ok (.iconst 1, 1) := by decide +kernel
theorem dX6_read_158 : decode cX6_read 158 = .ok (.aload_n 0, 1) := by decide +kernel
theorem dX6_read_159 : decode cX6_read 159 = .ok (.invokevirtual 62, 3) := by decide +kernel
theorem dX6_read_162 : decode cX6_read 162 = .ok (.invokevirtual 65, 3) := by decide +kernel
theorem dX6_read_165 : decode cX6_read 165 = .ok (.istore_n 2, 1) := by decide +kernel
theorem dX6_read_166 : decode cX6_read 166 = .ok (.iload_n 2, 1) := by decide +kernel
theorem dX6_read_167 : decode cX6_read 167 = .ok (.ifCond .eq 16, 3) := by decide +kernel
theorem dX6_read_170 : decode cX6_read 170 = .ok (.aload_n 0, 1) := by decide +kernel
theorem dX6_read_171 : decode cX6_read 171 = .ok (.bipush 59, 2) := by decide +kernel
theorem dX6_read_173 : decode cX6_read 173 = .ok (.invokevirtual 69, 3) := by decide +kernel
theorem dX6_read_176 : decode cX6_read 176 = .ok (.ifCond .eq 7, 3) := by decide +kernel
theorem dX6_read_179 : decode cX6_read 179 = .ok (.iconst 1, 1) := by decide +kernel
theorem dX6_read_180 : decode cX6_read 180 = .ok (.goto 4, 3) := by decide +kernel
theorem dX6_read_183 : decode cX6_read 183 = .ok (.iconst 0, 1) := by decide +kernel
theorem dX6_read_184 : decode cX6_read 184 = .ok (.istore_n 2, 1) := by decide +kernel
theorem dX6_read_185 : decode cX6_read 185 = .ok (.iinc 3 1, 3) := by decide +kernel
theorem dX6_read_188 : decode cX6_read 188 = .ok (.goto (-179), 3) := by decide +kernel
theorem dX6_read_191 : decode cX6_read 191 = .ok (.iload_n 2, 1) := by decide +kernel
theorem dX6_read_192 : decode cX6_read 192 = .ok (.ireturn, 1) := by decide +kernel
theorem dX6_begin_0 : decode cX6_begin 0 = .ok (.aload_n 0, 1) := by decide +kernel
theorem dX6_begin_1 : decode cX6_begin 1 = .ok (.getfield 12, 3) := by decide +kernel
theorem dX6_begin_4 : decode cX6_begin 4 = .ok (.iload_n 1, 1) := by decide +kernel
theorem dX6_begin_5 : decode cX6_begin 5 = .ok (.invokevirtual 73, 3) := by decide +kernel
theorem dX6_begin_8 : decode cX6_begin 8 = .ok (.aload_n 0, 1) := by decide +kernel
theorem dX6_begin_9 : decode cX6_begin 9 = .ok (.getfield 21, 3) := by decide +kernel
theorem dX6_begin_12 : decode cX6_begin 12 = .ok (.invokevirtual 76, 3) := by decide +kernel
theorem dX6_begin_15 : decode cX6_begin 15 = .ok (.aload_n 0, 1) := by decide +kernel
theorem dX6_begin_16 : decode cX6_begin 16 = .ok (.iconst 0, 1) := by decide +kernel
theorem dX6_begin_17 : decode cX6_begin 17 = .ok (.putfield 79, 3) := by decide +kernel
theorem dX6_begin_20 : decode cX6_begin 20 = .ok (.aload_n 0, 1) := by decide +kernel
theorem dX6_begin_21 : decode cX6_begin 21 = .ok (.iconst 0, 1) := by decide +kernel
theorem dX6_begin_22 : decode cX6_begin 22 = .ok (.putfield 83, 3) := by decide +kernel
theorem dX6_begin_25 : decode cX6_begin 25 = .ok (.return_, 1) := by decide +kernel
theorem dX6_readVoter_0 : decode cX6_readVoter 0 = .ok (.aload_n 0, 1) := by decide +kernel
theorem dX6_readVoter_1 : decode cX6_readVoter 1 = .ok (.getfield 21, 3) := by decide +kernel
theorem dX6_readVoter_4 : decode cX6_readVoter 4 = .ok (.getfield 86, 3) := by decide +kernel
theorem dX6_readVoter_7 : decode cX6_readVoter 7 = .ok (.bipush 16, 2) := by decide +kernel
theorem dX6_readVoter_9 : decode cX6_readVoter 9 = .ok (.if_icmp .lt 13, 3) := by decide +kernel
theorem dX6_readVoter_12 : decode cX6_readVoter 12 = .ok (.aload_n 0, 1) := by decide +kernel
theorem dX6_readVoter_13 : decode cX6_readVoter 13 = .ok (.iconst 4, 1) := by decide +kernel
theorem dX6_readVoter_14 : decode cX6_readVoter 14 = .ok (.aload_n 0, 1) := by decide +kernel
theorem dX6_readVoter_15 : decode cX6_readVoter 15 = .ok (.invokevirtual 62, 3) := by decide +kernel
theorem dX6_readVoter_18 : decode cX6_readVoter 18 = .ok (.invokevirtual 65, 3) := by decide +kernel
theorem dX6_readVoter_21 : decode cX6_readVoter 21 = .ok (.ireturn, 1) := by decide +kernel
theorem dX6_readVoter_22 : decode cX6_readVoter 22 = .ok (.aload_n 0, 1) := by decide +kernel
theorem dX6_readVoter_23 : decode cX6_readVoter 23 = .ok (.invokevirtual 89, 3) := by decide +kernel
theorem dX6_readVoter_26 : decode cX6_readVoter 26 = .ok (.aload_n 0, 1) := by decide +kernel
theorem dX6_readVoter_27 : decode cX6_readVoter 27 = .ok (.invokevirtual 62, 3) := by decide +kernel
theorem dX6_readVoter_30 : decode cX6_readVoter 30 = .ok (.istore_n 1, 1) := by decide +kernel
theorem dX6_readVoter_31 : decode cX6_readVoter 31 = .ok (.aload_n 0, 1) := by decide +kernel
theorem dX6_readVoter_32 : decode cX6_readVoter 32 = .ok (.invokevirtual 92, 3) := by decide +kernel
theorem dX6_readVoter_35 : decode cX6_readVoter 35 = .ok (.istore_n 2, 1) := by decide +kernel
theorem dX6_readVoter_36 : decode cX6_readVoter 36 = .ok (.iload_n 2, 1) := by decide +kernel
theorem dX6_readVoter_37 : decode cX6_readVoter 37 = .ok (.iconst (-1), 1) := by decide +kernel
theorem dX6_readVoter_38 : decode cX6_readVoter 38 = .ok (.if_icmp .ne 5, 3) := by decide +kernel
theorem dX6_readVoter_41 : decode cX6_readVoter 41 = .ok (.iconst 0, 1) := by decide +kernel
theorem dX6_readVoter_42 : decode cX6_readVoter 42 = .ok (.ireturn, 1) := by decide +kernel
theorem dX6_readVoter_43 : decode cX6_readVoter 43 = .ok (.aload_n 0, 1) := by decide +kernel
theorem dX6_readVoter_44 : decode cX6_readVoter 44 = .ok (.iconst 0, 1) := by decide +kernel
theorem dX6_readVoter_45 : decode cX6_readVoter 45 = .ok (.bipush 99, 2) := by decide +kernel
theorem dX6_readVoter_47 : decode cX6_readVoter 47 = .ok (.invokevirtual 95, 3) := by decide +kernel
theorem dX6_readVoter_50 : decode cX6_readVoter 50 = .ok (.istore_n 3, 1) := by decide +kernel
theorem dX6_readVoter_51 : decode cX6_readVoter 51 = .ok (.iload_n 3, 1) := by decide +kernel
theorem dX6_readVoter_52 : decode cX6_readVoter 52 = .ok (.iconst (-1), 1) := by decide +kernel
theorem dX6_readVoter_53 : decode cX6_readVoter 53 = .ok (.if_icmp .ne 5, 3) := by decide +kernel
theorem dX6_readVoter_56 : decode cX6_readVoter 56 = .ok (.iconst 0, 1) := by decide +kernel
theorem dX6_readVoter_57 : decode cX6_readVoter 57 = .ok (.ireturn, 1) := by decide +kernel
theorem dX6_readVoter_58 : decode cX6_readVoter 58 = .ok (.aload_n 0, 1) := by decide +kernel
theorem dX6_readVoter_59 : decode cX6_readVoter 59 = .ok (.getfield 21, 3) := by decide +kernel
theorem dX6_readVoter_62 : decode cX6_readVoter 62 = .ok (.iload_n 2, 1) := by decide +kernel
theorem dX6_readVoter_63 : decode cX6_readVoter 63 = .ok (.iload_n 3, 1) := by decide +kernel
theorem dX6_readVoter_64 : decode cX6_readVoter 64 = .ok (.invokevirtual 99, 3) := by decide +kernel
theorem dX6_readVoter_67 : decode cX6_readVoter 67 = .ok (.iconst (-1), 1) := by decide +kernel
theorem dX6_readVoter_68 : decode cX6_readVoter 68 = .ok (.if_icmp .eq 10, 3) := by decide +kernel
theorem dX6_readVoter_71 : decode cX6_readVoter 71 = .ok (.aload_n 0, 1) := by decide +kernel
theorem dX6_readVoter_72 : decode cX6_readVoter 72 = .ok (.iconst 3, 1) := by decide +kernel
theorem dX6_readVoter_73 : decode cX6_readVoter 73 = .ok (.iload_n 1, 1) := by decide +kernel
theorem dX6_readVoter_74 : decode cX6_readVoter 74 = .ok (.invokevirtual 65, 3) := by decide +kernel
theorem dX6_readVoter_77 : decode cX6_readVoter 77 = .ok (.ireturn, 1) := by decide +kernel
theorem dX6_readVoter_78 : decode cX6_readVoter 78 = .ok (.aload_n 0, 1) := by decide +kernel
theorem dX6_readVoter_79 : decode cX6_readVoter 79 = .ok (.iconst 0, 1) := by decide +kernel
theorem dX6_readVoter_80 : decode cX6_readVoter 80 = .ok (.sipush 999, 3) := by decide +kernel
theorem dX6_readVoter_83 : decode cX6_readVoter 83 = .ok (.invokevirtual 95, 3) := by decide +kernel
theorem dX6_readVoter_86 : decode cX6_readVoter 86 = .ok (.istore 4, 2) := by decide +kernel
theorem dX6_readVoter_88 : decode cX6_readVoter 88 = .ok (.iload 4, 2) := by decide +kernel
theorem dX6_readVoter_90 : decode cX6_readVoter 90 = .ok (.iconst (-1), 1) := by decide +kernel
theorem dX6_readVoter_91 : decode cX6_readVoter 91 = .ok (.if_icmp .ne 5, 3) := by decide +kernel
theorem dX6_readVoter_94 : decode cX6_readVoter 94 = .ok (.iconst 0, 1) := by decide +kernel
theorem dX6_readVoter_95 : decode cX6_readVoter 95 = .ok (.ireturn, 1) := by decide +kernel
theorem dX6_readVoter_96 : decode cX6_readVoter 96 = .ok (.aload_n 0, 1) := by decide +kernel
theorem dX6_readVoter_97 : decode cX6_readVoter 97 = .ok (.getfield 21, 3) := by decide +kernel
theorem dX6_readVoter_100 : decode cX6_readVoter 100 = .ok (.iload_n 2, 1) := by decide +kernel
theorem dX6_readVoter_101 : decode cX6_readVoter 101 = .ok (.iload_n 3, 1) := by decide +kernel
theorem dX6_readVoter_102 : decode cX6_readVoter 102 = .ok (.iload 4, 2) := by decide +kernel
theorem dX6_readVoter_104 : decode cX6_readVoter 104 = .ok (.invokevirtual 102, 3) := by decide +kernel
theorem dX6_readVoter_107 : decode cX6_readVoter 107 = .ok (.iconst 1, 1) := by decide +kernel
theorem dX6_readVoter_108 : decode cX6_readVoter 108 = .ok (.ireturn, 1) := by decide +kernel
theorem dX6_readSheet_0 : decode cX6_readSheet 0 = .ok (.aload_n 0, 1) := by decide +kernel
theorem dX6_readSheet_1 : decode cX6_readSheet 1 = .ok (.getfield 21, 3) := by decide +kernel
theorem dX6_readSheet_4 : decode cX6_readSheet 4 = .ok (.getfield 106, 3) := by decide +kernel
theorem dX6_readSheet_7 : decode cX6_readSheet 7 = .ok (.bipush 8, 2) := by decide +kernel
theorem dX6_readSheet_9 : decode cX6_readSheet 9 = .ok (.if_icmp .lt 13, 3) := by decide +kernel
theorem dX6_readSheet_12 : decode cX6_readSheet 12 = .ok (.aload_n 0, 1) := by decide +kernel
theorem dX6_readSheet_13 : decode cX6_readSheet 13 = .ok (.iconst 4, 1) := by decide +kernel
theorem dX6_readSheet_14 : decode cX6_readSheet 14 = .ok (.aload_n 0, 1) := by decide +kernel
theorem dX6_readSheet_15 : decode cX6_readSheet 15 = .ok (.invokevirtual 62, 3) := by decide +kernel
theorem dX6_readSheet_18 : decode cX6_readSheet 18 = .ok (.invokevirtual 65, 3) := by decide +kernel
theorem dX6_readSheet_21 : decode cX6_readSheet 21 = .ok (.ireturn, 1) := by decide +kernel
theorem dX6_readSheet_22 : decode cX6_readSheet 22 = .ok (.aload_n 0, 1) := by decide +kernel
theorem dX6_readSheet_23 : decode cX6_readSheet 23 = .ok (.invokevirtual 89, 3) := by decide +kernel
theorem dX6_readSheet_26 : decode cX6_readSheet 26 = .ok (.aload_n 0, 1) := by decide +kernel
theorem dX6_readSheet_27 : decode cX6_readSheet 27 = .ok (.getfield 21, 3) := by decide +kernel
theorem dX6_readSheet_30 : decode cX6_readSheet 30 = .ok (.dup, 1) := by decide +kernel
theorem dX6_readSheet_31 : decode cX6_readSheet 31 = .ok (.getfield 106, 3) := by decide +kernel
theorem dX6_readSheet_34 : decode cX6_readSheet 34 = .ok (.iconst 1, 1) := by decide +kernel
theorem dX6_readSheet_35 : decode cX6_readSheet 35 = .ok (.iadd, 1) := by decide +kernel
theorem dX6_readSheet_36 : decode cX6_readSheet 36 = .ok (.putfield 106, 3) := by decide +kernel
theorem dX6_readSheet_39 : decode cX6_readSheet 39 = .ok (.iconst 1, 1) := by decide +kernel
theorem dX6_readSheet_40 : decode cX6_readSheet 40 = .ok (.ireturn, 1) := by decide +kernel
theorem dX6_readSigned_0 : decode cX6_readSigned 0 = .ok (.aload_n 0, 1) := by decide +kernel
theorem dX6_readSigned_1 : decode cX6_readSigned 1 = .ok (.getfield 21, 3) := by decide +kernel
theorem dX6_readSigned_4 : decode cX6_readSigned 4 = .ok (.getfield 106, 3) := by decide +kernel
theorem dX6_readSigned_7 : decode cX6_readSigned 7 = .ok (.ifCond .ne 13, 3) := by decide +kernel
theorem dX6_readSigned_10 : decode cX6_readSigned 10 = .ok (.aload_n 0, 1) := by decide +kernel
theorem dX6_readSigned_11 : decode cX6_readSigned 11 = .ok (.iconst 1, 1) := by decide +kernel
theorem dX6_readSigned_12 : decode cX6_readSigned 12 = .ok (.aload_n 0, 1) := by decide +kernel
theorem dX6_readSigned_13 : decode cX6_readSigned 13 = .ok (.invokevirtual 62, 3) := by decide +kernel
theorem dX6_readSigned_16 : decode cX6_readSigned 16 = .ok (.invokevirtual 65, 3) := by decide +kernel
theorem dX6_readSigned_19 : decode cX6_readSigned 19 = .ok (.ireturn, 1) := by decide +kernel
theorem dX6_readSigned_20 : decode cX6_readSigned 20 = .ok (.aload_n 0, 1) := by decide +kernel
theorem dX6_readSigned_21 : decode cX6_readSigned 21 = .ok (.getfield 21, 3) := by decide +kernel
theorem dX6_readSigned_24 : decode cX6_readSigned 24 = .ok (.getfield 109, 3) := by decide +kernel
theorem dX6_readSigned_27 : decode cX6_readSigned 27 = .ok (.bipush 40, 2) := by decide +kernel
theorem dX6_readSigned_29 : decode cX6_readSigned 29 = .ok (.if_icmp .lt 13, 3) := by decide +kernel
theorem dX6_readSigned_32 : decode cX6_readSigned 32 = .ok (.aload_n 0, 1) := by decide +kernel
theorem dX6_readSigned_33 : decode cX6_readSigned 33 = .ok (.iconst 4, 1) := by decide +kernel
theorem dX6_readSigned_34 : decode cX6_readSigned 34 = .ok (.aload_n 0, 1) := by decide +kernel
theorem dX6_readSigned_35 : decode cX6_readSigned 35 = .ok (.invokevirtual 62, 3) := by decide +kernel
theorem dX6_readSigned_38 : decode cX6_readSigned 38 = .ok (.invokevirtual 65, 3) := by decide +kernel
theorem dX6_readSigned_41 : decode cX6_readSigned 41 = .ok (.ireturn, 1) := by decide +kernel
theorem dX6_readSigned_42 : decode cX6_readSigned 42 = .ok (.aload_n 0, 1) := by decide +kernel
theorem dX6_readSigned_43 : decode cX6_readSigned 43 = .ok (.invokevirtual 89, 3) := by decide +kernel
theorem dX6_readSigned_46 : decode cX6_readSigned 46 = .ok (.aload_n 0, 1) := by decide +kernel
theorem dX6_readSigned_47 : decode cX6_readSigned 47 = .ok (.invokevirtual 92, 3) := by decide +kernel
theorem dX6_readSigned_50 : decode cX6_readSigned 50 = .ok (.istore_n 1, 1) := by decide +kernel
theorem dX6_readSigned_51 : decode cX6_readSigned 51 = .ok (.iload_n 1, 1) := by decide +kernel
theorem dX6_readSigned_52 : decode cX6_readSigned 52 = .ok (.iconst (-1), 1) := by decide +kernel
theorem dX6_readSigned_53 : decode cX6_readSigned 53 = .ok (.if_icmp .ne 5, 3) := by decide +kernel
theorem dX6_readSigned_56 : decode cX6_readSigned 56 = .ok (.iconst 0, 1) := by decide +kernel
theorem dX6_readSigned_57 : decode cX6_readSigned 57 = .ok (.ireturn, 1) := by decide +kernel
theorem dX6_readSigned_58 : decode cX6_readSigned 58 = .ok (.aload_n 0, 1) := by decide +kernel
theorem dX6_readSigned_59 : decode cX6_readSigned 59 = .ok (.iconst 0, 1) := by decide +kernel
theorem dX6_readSigned_60 : decode cX6_readSigned 60 = .ok (.bipush 99, 2) := by decide +kernel
theorem dX6_readSigned_62 : decode cX6_readSigned 62 = .ok (.invokevirtual 95, 3) := by decide +kernel
theorem dX6_readSigned_65 : decode cX6_readSigned 65 = .ok (.istore_n 2, 1) := by decide +kernel
theorem dX6_readSigned_66 : decode cX6_readSigned 66 = .ok (.iload_n 2, 1) := by decide +kernel
theorem dX6_readSigned_67 : decode cX6_readSigned 67 = .ok (.iconst (-1), 1) := by decide +kernel
theorem dX6_readSigned_68 : decode cX6_readSigned 68 = .ok (.if_icmp .ne 5, 3) := by decide +kernel
theorem dX6_readSigned_71 : decode cX6_readSigned 71 = .ok (.iconst 0, 1) := by decide +kernel
theorem dX6_readSigned_72 : decode cX6_readSigned 72 = .ok (.ireturn, 1) := by decide +kernel
theorem dX6_readSigned_73 : decode cX6_readSigned 73 = .ok (.aload_n 0, 1) := by decide +kernel
theorem dX6_readSigned_74 : decode cX6_readSigned 74 = .ok (.iconst 0, 1) := by decide +kernel
theorem dX6_readSigned_75 : decode cX6_readSigned 75 = .ok (.sipush 999, 3) := by decide +kernel
theorem dX6_readSigned_78 : decode cX6_readSigned 78 = .ok (.invokevirtual 95, 3) := by decide +kernel
theorem dX6_readSigned_81 : decode cX6_readSigned 81 = .ok (.istore_n 3, 1) := by decide +kernel
theorem dX6_readSigned_82 : decode cX6_readSigned 82 = .ok (.iload_n 3, 1) := by decide +kernel
theorem dX6_readSigned_83 : decode cX6_readSigned 83 = .ok (.iconst (-1), 1) := by decide +kernel
theorem dX6_readSigned_84 : decode cX6_readSigned 84 = .ok (.if_icmp .ne 5, 3) := by decide +kernel
theorem dX6_readSigned_87 : decode cX6_readSigned 87 = .ok (.iconst 0, 1) := by decide +kernel
theorem dX6_readSigned_88 : decode cX6_readSigned 88 = .ok (.ireturn, 1) := by decide +kernel
theorem dX6_readSigned_89 : decode cX6_readSigned 89 = .ok (.aload_n 0, 1) := by decide +kernel
theorem dX6_readSigned_90 : decode cX6_readSigned 90 = .ok (.getfield 21, 3) := by decide +kernel
theorem dX6_readSigned_93 : decode cX6_readSigned 93 = .ok (.aload_n 0, 1) := by decide +kernel
theorem dX6_readSigned_94 : decode cX6_readSigned 94 = .ok (.getfield 21, 3) := by decide +kernel
theorem dX6_readSigned_97 : decode cX6_readSigned 97 = .ok (.getfield 106, 3) := by decide +kernel
theorem dX6_readSigned_100 : decode cX6_readSigned 100 = .ok (.iconst 1, 1) := by decide +kernel
theorem dX6_readSigned_101 : decode cX6_readSigned 101 = .ok (.isub, 1) := by decide +kernel
theorem dX6_readSigned_102 : decode cX6_readSigned 102 = .ok (.iload_n 1, 1) := by decide +kernel
theorem dX6_readSigned_103 : decode cX6_readSigned 103 = .ok (.iload_n 2, 1) := by decide +kernel
theorem dX6_readSigned_104 : decode cX6_readSigned 104 = .ok (.iload_n 3, 1) := by decide +kernel
theorem dX6_readSigned_105 : decode cX6_readSigned 105 = .ok (.invokevirtual 112, 3) := by decide +kernel
theorem dX6_readSigned_108 : decode cX6_readSigned 108 = .ok (.iconst 1, 1) := by decide +kernel
theorem dX6_readSigned_109 : decode cX6_readSigned 109 = .ok (.ireturn, 1) := by decide +kernel
theorem dX6_readNeed_0 : decode cX6_readNeed 0 = .ok (.aload_n 0, 1) := by decide +kernel
theorem dX6_readNeed_1 : decode cX6_readNeed 1 = .ok (.invokevirtual 55, 3) := by decide +kernel
theorem dX6_readNeed_4 : decode cX6_readNeed 4 = .ok (.ifCond .ne 5, 3) := by decide +kernel
theorem dX6_readNeed_7 : decode cX6_readNeed 7 = .ok (.iconst 0, 1) := by decide +kernel
theorem dX6_readNeed_8 : decode cX6_readNeed 8 = .ok (.ireturn, 1) := by decide +kernel
theorem dX6_readNeed_9 : decode cX6_readNeed 9 = .ok (.aload_n 0, 1) := by decide +kernel
theorem dX6_readNeed_10 : decode cX6_readNeed 10 = .ok (.getfield 21, 3) := by decide +kernel
theorem dX6_readNeed_13 : decode cX6_readNeed 13 = .ok (.aload_n 0, 1) := by decide +kernel
theorem dX6_readNeed_14 : decode cX6_readNeed 14 = .ok (.iconst 0, 1) := by decide +kernel
theorem dX6_readNeed_15 : decode cX6_readNeed 15 = .ok (.bipush 40, 2) := by decide +kernel
theorem dX6_readNeed_17 : decode cX6_readNeed 17 = .ok (.invokevirtual 95, 3) := by decide +kernel
theorem dX6_readNeed_20 : decode cX6_readNeed 20 = .ok (.putfield 116, 3) := by decide +kernel
theorem dX6_readNeed_23 : decode cX6_readNeed 23 = .ok (.aload_n 0, 1) := by decide +kernel
theorem dX6_readNeed_24 : decode cX6_readNeed 24 = .ok (.getfield 21, 3) := by decide +kernel
theorem dX6_readNeed_27 : decode cX6_readNeed 27 = .ok (.getfield 116, 3) := by decide +kernel
theorem dX6_readNeed_30 : decode cX6_readNeed 30 = .ok (.iconst (-1), 1) := by decide +kernel
theorem dX6_readNeed_31 : decode cX6_readNeed 31 = .ok (.if_icmp .eq 7, 3) := by decide +kernel
theorem dX6_readNeed_34 : decode cX6_readNeed 34 = .ok (.iconst 1, 1) := by decide +kernel
theorem dX6_readNeed_35 : decode cX6_readNeed 35 = .ok (.goto 4, 3) := by decide +kernel
theorem dX6_readNeed_38 : decode cX6_readNeed 38 = .ok (.iconst 0, 1) := by decide +kernel
theorem dX6_readNeed_39 : decode cX6_readNeed 39 = .ok (.ireturn, 1) := by decide +kernel
theorem dX6_readSpan_0 : decode cX6_readSpan 0 = .ok (.aload_n 0, 1) := by decide +kernel
theorem dX6_readSpan_1 : decode cX6_readSpan 1 = .ok (.invokevirtual 55, 3) := by decide +kernel
theorem dX6_readSpan_4 : decode cX6_readSpan 4 = .ok (.ifCond .ne 5, 3) := by decide +kernel
theorem dX6_readSpan_7 : decode cX6_readSpan 7 = .ok (.iconst 0, 1) := by decide +kernel
theorem dX6_readSpan_8 : decode cX6_readSpan 8 = .ok (.ireturn, 1) := by decide +kernel
theorem dX6_readSpan_9 : decode cX6_readSpan 9 = .ok (.aload_n 0, 1) := by decide +kernel
theorem dX6_readSpan_10 : decode cX6_readSpan 10 = .ok (.getfield 21, 3) := by decide +kernel
theorem dX6_readSpan_13 : decode cX6_readSpan 13 = .ok (.aload_n 0, 1) := by decide +kernel
theorem dX6_readSpan_14 : decode cX6_readSpan 14 = .ok (.iconst 0, 1) := by decide +kernel
theorem dX6_readSpan_15 : decode cX6_readSpan 15 = .ok (.sipush 999, 3) := by decide +kernel
theorem dX6_readSpan_18 : decode cX6_readSpan 18 = .ok (.invokevirtual 95, 3) := by decide +kernel
theorem dX6_readSpan_21 : decode cX6_readSpan 21 = .ok (.putfield 119, 3) := by decide +kernel
theorem dX6_readSpan_24 : decode cX6_readSpan 24 = .ok (.aload_n 0, 1) := by decide +kernel
theorem dX6_readSpan_25 : decode cX6_readSpan 25 = .ok (.getfield 21, 3) := by decide +kernel
theorem dX6_readSpan_28 : decode cX6_readSpan 28 = .ok (.getfield 119, 3) := by decide +kernel
theorem dX6_readSpan_31 : decode cX6_readSpan 31 = .ok (.iconst (-1), 1) := by decide +kernel
theorem dX6_readSpan_32 : decode cX6_readSpan 32 = .ok (.if_icmp .ne 5, 3) := by decide +kernel
theorem dX6_readSpan_35 : decode cX6_readSpan 35 = .ok (.iconst 0, 1) := by decide +kernel
theorem dX6_readSpan_36 : decode cX6_readSpan 36 = .ok (.ireturn, 1) := by decide +kernel
theorem dX6_readSpan_37 : decode cX6_readSpan 37 = .ok (.aload_n 0, 1) := by decide +kernel
theorem dX6_readSpan_38 : decode cX6_readSpan 38 = .ok (.getfield 21, 3) := by decide +kernel
theorem dX6_readSpan_41 : decode cX6_readSpan 41 = .ok (.aload_n 0, 1) := by decide +kernel
theorem dX6_readSpan_42 : decode cX6_readSpan 42 = .ok (.aload_n 0, 1) := by decide +kernel
theorem dX6_readSpan_43 : decode cX6_readSpan 43 = .ok (.getfield 21, 3) := by decide +kernel
theorem dX6_readSpan_46 : decode cX6_readSpan 46 = .ok (.getfield 119, 3) := by decide +kernel
theorem dX6_readSpan_49 : decode cX6_readSpan 49 = .ok (.sipush 999, 3) := by decide +kernel
theorem dX6_readSpan_52 : decode cX6_readSpan 52 = .ok (.invokevirtual 95, 3) := by decide +kernel
theorem dX6_readSpan_55 : decode cX6_readSpan 55 = .ok (.putfield 122, 3) := by decide +kernel
theorem dX6_readSpan_58 : decode cX6_readSpan 58 = .ok (.aload_n 0, 1) := by decide +kernel
theorem dX6_readSpan_59 : decode cX6_readSpan 59 = .ok (.getfield 21, 3) := by decide +kernel
theorem dX6_readSpan_62 : decode cX6_readSpan 62 = .ok (.getfield 122, 3) := by decide +kernel
theorem dX6_readSpan_65 : decode cX6_readSpan 65 = .ok (.iconst (-1), 1) := by decide +kernel
theorem dX6_readSpan_66 : decode cX6_readSpan 66 = .ok (.if_icmp .eq 7, 3) := by decide +kernel
theorem dX6_readSpan_69 : decode cX6_readSpan 69 = .ok (.iconst 1, 1) := by decide +kernel
theorem dX6_readSpan_70 : decode cX6_readSpan 70 = .ok (.goto 4, 3) := by decide +kernel
theorem dX6_readSpan_73 : decode cX6_readSpan 73 = .ok (.iconst 0, 1) := by decide +kernel
theorem dX6_readSpan_74 : decode cX6_readSpan 74 = .ok (.ireturn, 1) := by decide +kernel
theorem dX6_readSpoilt_0 : decode cX6_readSpoilt 0 = .ok (.aload_n 0, 1) := by decide +kernel
theorem dX6_readSpoilt_1 : decode cX6_readSpoilt 1 = .ok (.invokevirtual 55, 3) := by decide +kernel
theorem dX6_readSpoilt_4 : decode cX6_readSpoilt 4 = .ok (.ifCond .ne 5, 3) := by decide +kernel
theorem dX6_readSpoilt_7 : decode cX6_readSpoilt 7 = .ok (.iconst 0, 1) := by decide +kernel
theorem dX6_readSpoilt_8 : decode cX6_readSpoilt 8 = .ok (.ireturn, 1) := by decide +kernel
theorem dX6_readSpoilt_9 : decode cX6_readSpoilt 9 = .ok (.aload_n 0, 1) := by decide +kernel
theorem dX6_readSpoilt_10 : decode cX6_readSpoilt 10 = .ok (.getfield 21, 3) := by decide +kernel
theorem dX6_readSpoilt_13 : decode cX6_readSpoilt 13 = .ok (.aload_n 0, 1) := by decide +kernel
theorem dX6_readSpoilt_14 : decode cX6_readSpoilt 14 = .ok (.iconst 0, 1) := by decide +kernel
theorem dX6_readSpoilt_15 : decode cX6_readSpoilt 15 = .ok (.bipush 100, 2) := by decide +kernel
theorem dX6_readSpoilt_17 : decode cX6_readSpoilt 17 = .ok (.invokevirtual 95, 3) := by decide +kernel
theorem dX6_readSpoilt_20 : decode cX6_readSpoilt 20 = .ok (.putfield 125, 3) := by decide +kernel
theorem dX6_readSpoilt_23 : decode cX6_readSpoilt 23 = .ok (.aload_n 0, 1) := by decide +kernel
theorem dX6_readSpoilt_24 : decode cX6_readSpoilt 24 = .ok (.getfield 21, 3) := by decide +kernel
theorem dX6_readSpoilt_27 : decode cX6_readSpoilt 27 = .ok (.getfield 125, 3) := by decide +kernel
theorem dX6_readSpoilt_30 : decode cX6_readSpoilt 30 = .ok (.iconst (-1), 1) := by decide +kernel
theorem dX6_readSpoilt_31 : decode cX6_readSpoilt 31 = .ok (.if_icmp .eq 7, 3) := by decide +kernel
theorem dX6_readSpoilt_34 : decode cX6_readSpoilt 34 = .ok (.iconst 1, 1) := by decide +kernel
theorem dX6_readSpoilt_35 : decode cX6_readSpoilt 35 = .ok (.goto 4, 3) := by decide +kernel
theorem dX6_readSpoilt_38 : decode cX6_readSpoilt 38 = .ok (.iconst 0, 1) := by decide +kernel
theorem dX6_readSpoilt_39 : decode cX6_readSpoilt 39 = .ok (.ireturn, 1) := by decide +kernel
theorem dX6_readAlpha_0 : decode cX6_readAlpha 0 = .ok (.aload_n 0, 1) := by decide +kernel
theorem dX6_readAlpha_1 : decode cX6_readAlpha 1 = .ok (.invokevirtual 55, 3) := by decide +kernel
theorem dX6_readAlpha_4 : decode cX6_readAlpha 4 = .ok (.ifCond .ne 5, 3) := by decide +kernel
theorem dX6_readAlpha_7 : decode cX6_readAlpha 7 = .ok (.iconst 0, 1) := by decide +kernel
theorem dX6_readAlpha_8 : decode cX6_readAlpha 8 = .ok (.ireturn, 1) := by decide +kernel
theorem dX6_readAlpha_9 : decode cX6_readAlpha 9 = .ok (.aload_n 0, 1) := by decide +kernel
theorem dX6_readAlpha_10 : decode cX6_readAlpha 10 = .ok (.getfield 21, 3) := by decide +kernel
theorem dX6_readAlpha_13 : decode cX6_readAlpha 13 = .ok (.aload_n 0, 1) := by decide +kernel
theorem dX6_readAlpha_14 : decode cX6_readAlpha 14 = .ok (.iconst 1, 1) := by decide +kernel
theorem dX6_readAlpha_15 : decode cX6_readAlpha 15 = .ok (.sipush 499, 3) := by decide +kernel
theorem dX6_readAlpha_18 : decode cX6_readAlpha 18 = .ok (.invokevirtual 95, 3) := by decide +kernel
theorem dX6_readAlpha_21 : decode cX6_readAlpha 21 = .ok (.putfield 128, 3) := by decide +kernel
theorem dX6_readAlpha_24 : decode cX6_readAlpha 24 = .ok (.aload_n 0, 1) := by decide +kernel
theorem dX6_readAlpha_25 : decode cX6_readAlpha 25 = .ok (.getfield 21, 3) := by decide +kernel
theorem dX6_readAlpha_28 : decode cX6_readAlpha 28 = .ok (.getfield 128, 3) := by decide +kernel
theorem dX6_readAlpha_31 : decode cX6_readAlpha 31 = .ok (.iconst (-1), 1) := by decide +kernel
theorem dX6_readAlpha_32 : decode cX6_readAlpha 32 = .ok (.if_icmp .eq 7, 3) := by decide +kernel
theorem dX6_readAlpha_35 : decode cX6_readAlpha 35 = .ok (.iconst 1, 1) := by decide +kernel
theorem dX6_readAlpha_36 : decode cX6_readAlpha 36 = .ok (.goto 4, 3) := by decide +kernel
theorem dX6_readAlpha_39 : decode cX6_readAlpha 39 = .ok (.iconst 0, 1) := by decide +kernel
theorem dX6_readAlpha_40 : decode cX6_readAlpha 40 = .ok (.ireturn, 1) := by decide +kernel
theorem dX6_readChoice_0 : decode cX6_readChoice 0 = .ok (.aload_n 0, 1) := by decide +kernel
theorem dX6_readChoice_1 : decode cX6_readChoice 1 = .ok (.iload_n 1, 1) := by decide +kernel
theorem dX6_readChoice_2 : decode cX6_readChoice 2 = .ok (.invokevirtual 131, 3) := by decide +kernel
theorem dX6_readChoice_5 : decode cX6_readChoice 5 = .ok (.ifCond .ne 5, 3) := by decide +kernel
theorem dX6_readChoice_8 : decode cX6_readChoice 8 = .ok (.iconst 0, 1) := by decide +kernel
theorem dX6_readChoice_9 : decode cX6_readChoice 9 = .ok (.ireturn, 1) := by decide +kernel
theorem dX6_readChoice_10 : decode cX6_readChoice 10 = .ok (.iconst 0, 1) := by decide +kernel
theorem dX6_readChoice_11 : decode cX6_readChoice 11 = .ok (.istore_n 2, 1) := by decide +kernel
theorem dX6_readChoice_12 : decode cX6_readChoice 12 = .ok (.iload_n 2, 1) := by decide +kernel
theorem dX6_readChoice_13 : decode cX6_readChoice 13 = .ok (.sipush 600, 3) := by decide +kernel
theorem dX6_readChoice_16 : decode cX6_readChoice 16 = .ok (.if_icmp .ge 44, 3) := by decide +kernel
theorem dX6_readChoice_19 : decode cX6_readChoice 19 = .ok (.aload_n 0, 1) := by decide +kernel
theorem dX6_readChoice_20 : decode cX6_readChoice 20 = .ok (.invokevirtual 29, 3) := by decide +kernel
theorem dX6_readChoice_23 : decode cX6_readChoice 23 = .ok (.bipush 9, 2) := by decide +kernel
theorem dX6_readChoice_25 : decode cX6_readChoice 25 = .ok (.if_icmp .ne 35, 3) := by decide +kernel
theorem dX6_readChoice_28 : decode cX6_readChoice 28 = .ok (.aload_n 0, 1) := by decide +kernel
theorem dX6_readChoice_29 : decode cX6_readChoice 29 = .ok (.invokevirtual 89, 3) := by decide +kernel
theorem dX6_readChoice_32 : decode cX6_readChoice 32 = .ok (.aload_n 0, 1) := by decide +kernel
theorem dX6_readChoice_33 : decode cX6_readChoice 33 = .ok (.iload_n 1, 1) := by decide +kernel
theorem dX6_readChoice_34 : decode cX6_readChoice 34 = .ok (.invokevirtual 131, 3) := by decide +kernel
theorem dX6_readChoice_37 : decode cX6_readChoice 37 = .ok (.ifCond .ne 5, 3) := by decide +kernel
theorem dX6_readChoice_40 : decode cX6_readChoice 40 = .ok (.iconst 0, 1) := by decide +kernel
theorem dX6_readChoice_41 : decode cX6_readChoice 41 = .ok (.ireturn, 1) := by decide +kernel
theorem dX6_readChoice_42 : decode cX6_readChoice 42 = .ok (.aload_n 0, 1) := by decide +kernel
theorem dX6_readChoice_43 : decode cX6_readChoice 43 = .ok (.getfield 21, 3) := by decide +kernel
theorem dX6_readChoice_46 : decode cX6_readChoice 46 = .ok (.getfield 134, 3) := by decide +kernel
theorem dX6_readChoice_49 : decode cX6_readChoice 49 = .ok (.bipush (-3), 2) := by decide +kernel
theorem dX6_readChoice_51 : decode cX6_readChoice 51 = .ok (.invokevirtual 140, 3) := by decide +kernel
theorem dX6_readChoice_54 : decode cX6_readChoice 54 = .ok (.iinc 2 1, 3) := by decide +kernel
theorem dX6_readChoice_57 : decode cX6_readChoice 57 = .ok (.goto (-45), 3) := by decide +kernel
theorem dX6_readChoice_60 : decode cX6_readChoice 60 = .ok (.iconst 1, 1) := by decide +kernel
theorem dX6_readChoice_61 : decode cX6_readChoice 61 = .ok (.ireturn, 1) := by decide +kernel
theorem dX6_readChain_0 : decode cX6_readChain 0 = .ok (.aload_n 0, 1) := by decide +kernel
theorem dX6_readChain_1 : decode cX6_readChain 1 = .ok (.iload_n 1, 1) := by decide +kernel
theorem dX6_readChain_2 : decode cX6_readChain 2 = .ok (.invokevirtual 143, 3) := by decide +kernel
theorem dX6_readChain_5 : decode cX6_readChain 5 = .ok (.ifCond .ne 5, 3) := by decide +kernel
theorem dX6_readChain_8 : decode cX6_readChain 8 = .ok (.iconst 0, 1) := by decide +kernel
theorem dX6_readChain_9 : decode cX6_readChain 9 = .ok (.ireturn, 1) := by decide +kernel
theorem dX6_readChain_10 : decode cX6_readChain 10 = .ok (.iconst 0, 1) := by decide +kernel
theorem dX6_readChain_11 : decode cX6_readChain 11 = .ok (.istore_n 2, 1) := by decide +kernel
theorem dX6_readChain_12 : decode cX6_readChain 12 = .ok (.iload_n 2, 1) := by decide +kernel
theorem dX6_readChain_13 : decode cX6_readChain 13 = .ok (.sipush 600, 3) := by decide +kernel
theorem dX6_readChain_16 : decode cX6_readChain 16 = .ok (.if_icmp .ge 44, 3) := by decide +kernel
theorem dX6_readChain_19 : decode cX6_readChain 19 = .ok (.aload_n 0, 1) := by decide +kernel
theorem dX6_readChain_20 : decode cX6_readChain 20 = .ok (.invokevirtual 29, 3) := by decide +kernel
theorem dX6_readChain_23 : decode cX6_readChain 23 = .ok (.bipush 10, 2) := by decide +kernel
theorem dX6_readChain_25 : decode cX6_readChain 25 = .ok (.if_icmp .ne 35, 3) := by decide +kernel
theorem dX6_readChain_28 : decode cX6_readChain 28 = .ok (.aload_n 0, 1) := by decide +kernel
theorem dX6_readChain_29 : decode cX6_readChain 29 = .ok (.invokevirtual 89, 3) := by decide +kernel
theorem dX6_readChain_32 : decode cX6_readChain 32 = .ok (.aload_n 0, 1) := by decide +kernel
theorem dX6_readChain_33 : decode cX6_readChain 33 = .ok (.iload_n 1, 1) := by decide +kernel
theorem dX6_readChain_34 : decode cX6_readChain 34 = .ok (.invokevirtual 143, 3) := by decide +kernel
theorem dX6_readChain_37 : decode cX6_readChain 37 = .ok (.ifCond .ne 5, 3) := by decide +kernel
theorem dX6_readChain_40 : decode cX6_readChain 40 = .ok (.iconst 0, 1) := by decide +kernel
theorem dX6_readChain_41 : decode cX6_readChain 41 = .ok (.ireturn, 1) := by decide +kernel
theorem dX6_readChain_42 : decode cX6_readChain 42 = .ok (.aload_n 0, 1) := by decide +kernel
theorem dX6_readChain_43 : decode cX6_readChain 43 = .ok (.getfield 21, 3) := by decide +kernel
theorem dX6_readChain_46 : decode cX6_readChain 46 = .ok (.getfield 134, 3) := by decide +kernel
theorem dX6_readChain_49 : decode cX6_readChain 49 = .ok (.bipush (-2), 2) := by decide +kernel
theorem dX6_readChain_51 : decode cX6_readChain 51 = .ok (.invokevirtual 140, 3) := by decide +kernel
theorem dX6_readChain_54 : decode cX6_readChain 54 = .ok (.iinc 2 1, 3) := by decide +kernel
theorem dX6_readChain_57 : decode cX6_readChain 57 = .ok (.goto (-45), 3) := by decide +kernel
theorem dX6_readChain_60 : decode cX6_readChain 60 = .ok (.iconst 1, 1) := by decide +kernel
theorem dX6_readChain_61 : decode cX6_readChain 61 = .ok (.ireturn, 1) := by decide +kernel
theorem dX6_readPart_0 : decode cX6_readPart 0 = .ok (.aload_n 0, 1) := by decide +kernel
theorem dX6_readPart_1 : decode cX6_readPart 1 = .ok (.invokevirtual 29, 3) := by decide +kernel
theorem dX6_readPart_4 : decode cX6_readPart 4 = .ok (.bipush 11, 2) := by decide +kernel
theorem dX6_readPart_6 : decode cX6_readPart 6 = .ok (.if_icmp .ne 7, 3) := by decide +kernel
theorem dX6_readPart_9 : decode cX6_readPart 9 = .ok (.iconst 1, 1) := by decide +kernel
theorem dX6_readPart_10 : decode cX6_readPart 10 = .ok (.goto 4, 3) := by decide +kernel
theorem dX6_readPart_13 : decode cX6_readPart 13 = .ok (.iconst 0, 1) := by decide +kernel
theorem dX6_readPart_14 : decode cX6_readPart 14 = .ok (.istore_n 2, 1) := by decide +kernel
theorem dX6_readPart_15 : decode cX6_readPart 15 = .ok (.iload_n 2, 1) := by decide +kernel
theorem dX6_readPart_16 : decode cX6_readPart 16 = .ok (.ifCond .ne 17, 3) := by decide +kernel
theorem dX6_readPart_19 : decode cX6_readPart 19 = .ok (.aload_n 0, 1) := by decide +kernel
theorem dX6_readPart_20 : decode cX6_readPart 20 = .ok (.invokevirtual 29, 3) := by decide +kernel
theorem dX6_readPart_23 : decode cX6_readPart 23 = .ok (.bipush 40, 2) := by decide +kernel
theorem dX6_readPart_25 : decode cX6_readPart 25 = .ok (.if_icmp .eq 8, 3) := by decide +kernel
theorem dX6_readPart_28 : decode cX6_readPart 28 = .ok (.aload_n 0, 1) := by decide +kernel
theorem dX6_readPart_29 : decode cX6_readPart 29 = .ok (.invokevirtual 146, 3) := by decide +kernel
theorem dX6_readPart_32 : decode cX6_readPart 32 = .ok (.ireturn, 1) := by decide +kernel
theorem dX6_readPart_33 : decode cX6_readPart 33 = .ok (.iload_n 1, 1) := by decide +kernel
theorem dX6_readPart_34 : decode cX6_readPart 34 = .ok (.iconst 4, 1) := by decide +kernel
theorem dX6_readPart_35 : decode cX6_readPart 35 = .ok (.if_icmp .lt 13, 3) := by decide +kernel
theorem dX6_readPart_38 : decode cX6_readPart 38 = .ok (.aload_n 0, 1) := by decide +kernel
theorem dX6_readPart_39 : decode cX6_readPart 39 = .ok (.iconst 5, 1) := by decide +kernel
theorem dX6_readPart_40 : decode cX6_readPart 40 = .ok (.aload_n 0, 1) := by decide +kernel
theorem dX6_readPart_41 : decode cX6_readPart 41 = .ok (.invokevirtual 62, 3) := by decide +kernel
theorem dX6_readPart_44 : decode cX6_readPart 44 = .ok (.invokevirtual 65, 3) := by decide +kernel
theorem dX6_readPart_47 : decode cX6_readPart 47 = .ok (.ireturn, 1) := by decide +kernel
theorem dX6_readPart_48 : decode cX6_readPart 48 = .ok (.aload_n 0, 1) := by decide +kernel
theorem dX6_readPart_49 : decode cX6_readPart 49 = .ok (.invokevirtual 89, 3) := by decide +kernel
theorem dX6_readPart_52 : decode cX6_readPart 52 = .ok (.iload_n 2, 1) := by decide +kernel
theorem dX6_readPart_53 : decode cX6_readPart 53 = .ok (.ifCond .ne 28, 3) := by decide +kernel
theorem dX6_readPart_56 : decode cX6_readPart 56 = .ok (.aload_n 0, 1) := by decide +kernel
theorem dX6_readPart_57 : decode cX6_readPart 57 = .ok (.iload_n 1, 1) := by decide +kernel
theorem dX6_readPart_58 : decode cX6_readPart 58 = .ok (.iconst 1, 1) := by decide +kernel
theorem dX6_readPart_59 : decode cX6_readPart 59 = .ok (.iadd, 1) := by decide +kernel
theorem dX6_readPart_60 : decode cX6_readPart 60 = .ok (.invokevirtual 58, 3) := by decide +kernel
theorem dX6_readPart_63 : decode cX6_readPart 63 = .ok (.ifCond .eq 16, 3) := by decide +kernel
theorem dX6_readPart_66 : decode cX6_readPart 66 = .ok (.aload_n 0, 1) := by decide +kernel
theorem dX6_readPart_67 : decode cX6_readPart 67 = .ok (.bipush 41, 2) := by decide +kernel
theorem dX6_readPart_69 : decode cX6_readPart 69 = .ok (.invokevirtual 69, 3) := by decide +kernel
theorem dX6_readPart_72 : decode cX6_readPart 72 = .ok (.ifCond .eq 7, 3) := by decide +kernel
theorem dX6_readPart_75 : decode cX6_readPart 75 = .ok (.iconst 1, 1) := by decide +kernel
theorem dX6_readPart_76 : decode cX6_readPart 76 = .ok (.goto 4, 3) := by decide +kernel
theorem dX6_readPart_79 : decode cX6_readPart 79 = .ok (.iconst 0, 1) := by decide +kernel
theorem dX6_readPart_80 : decode cX6_readPart 80 = .ok (.ireturn, 1) := by decide +kernel
theorem dX6_readPart_81 : decode cX6_readPart 81 = .ok (.aload_n 0, 1) := by decide +kernel
theorem dX6_readPart_82 : decode cX6_readPart 82 = .ok (.iload_n 1, 1) := by decide +kernel
theorem dX6_readPart_83 : decode cX6_readPart 83 = .ok (.iconst 1, 1) := by decide +kernel
theorem dX6_readPart_84 : decode cX6_readPart 84 = .ok (.iadd, 1) := by decide +kernel
theorem dX6_readPart_85 : decode cX6_readPart 85 = .ok (.invokevirtual 143, 3) := by decide +kernel
theorem dX6_readPart_88 : decode cX6_readPart 88 = .ok (.ifCond .ne 5, 3) := by decide +kernel
theorem dX6_readPart_91 : decode cX6_readPart 91 = .ok (.iconst 0, 1) := by decide +kernel
theorem dX6_readPart_92 : decode cX6_readPart 92 = .ok (.ireturn, 1) := by decide +kernel
theorem dX6_readPart_93 : decode cX6_readPart 93 = .ok (.aload_n 0, 1) := by decide +kernel
theorem dX6_readPart_94 : decode cX6_readPart 94 = .ok (.getfield 21, 3) := by decide +kernel
theorem dX6_readPart_97 : decode cX6_readPart 97 = .ok (.getfield 134, 3) := by decide +kernel
theorem dX6_readPart_100 : decode cX6_readPart 100 = .ok (.iconst (-1), 1) := by decide +kernel
theorem dX6_readPart_101 : decode cX6_readPart 101 = .ok (.invokevirtual 140, 3) := by decide +kernel
theorem dX6_readPart_104 : decode cX6_readPart 104 = .ok (.iconst 1, 1) := by decide +kernel
theorem dX6_readPart_105 : decode cX6_readPart 105 = .ok (.ireturn, 1) := by decide +kernel
theorem dX6_readComparison_0 : decode cX6_readComparison 0 = .ok (.aload_n 0, 1) := by decide +kernel
theorem dX6_readComparison_1 : decode cX6_readComparison 1 = .ok (.invokevirtual 149, 3) := by decide +kernel
theorem dX6_readComparison_4 : decode cX6_readComparison 4 = .ok (.istore_n 1, 1) := by decide +kernel
theorem dX6_readComparison_5 : decode cX6_readComparison 5 = .ok (.iload_n 1, 1) := by decide +kernel
theorem dX6_readComparison_6 : decode cX6_readComparison 6 = .ok (.iconst (-1), 1) := by decide +kernel
theorem dX6_readComparison_7 : decode cX6_readComparison 7 = .ok (.if_icmp .ne 5, 3) := by decide +kernel
theorem dX6_readComparison_10 : decode cX6_readComparison 10 = .ok (.iconst 0, 1) := by decide +kernel
theorem dX6_readComparison_11 : decode cX6_readComparison 11 = .ok (.ireturn, 1) := by decide +kernel
theorem dX6_readComparison_12 : decode cX6_readComparison 12 = .ok (.aload_n 0, 1) := by decide +kernel
theorem dX6_readComparison_13 : decode cX6_readComparison 13 = .ok (.invokevirtual 29, 3) := by decide +kernel
theorem dX6_readComparison_16 : decode cX6_readComparison 16 = .ok (.istore_n 2, 1) := by decide +kernel
theorem dX6_readComparison_17 : decode cX6_readComparison 17 = .ok (.iload_n 2, 1) := by decide +kernel
theorem dX6_readComparison_18 : decode cX6_readComparison 18 = .ok (.bipush 60, 2) := by decide +kernel
theorem dX6_readComparison_20 : decode cX6_readComparison 20 = .ok (.if_icmp .eq 25, 3) := by decide +kernel
theorem dX6_readComparison_23 : decode cX6_readComparison 23 = .ok (.iload_n 2, 1) := by decide +kernel
theorem dX6_readComparison_24 : decode cX6_readComparison 24 = .ok (.bipush 61, 2) := by decide +kernel
theorem dX6_readComparison_26 : decode cX6_readComparison 26 = .ok (.if_icmp .eq 19, 3) := by decide +kernel
theorem dX6_readComparison_29 : decode cX6_readComparison 29 = .ok (.iload_n 2, 1) := by decide +kernel
theorem dX6_readComparison_30 : decode cX6_readComparison 30 = .ok (.bipush 62, 2) := by decide +kernel
theorem dX6_readComparison_32 : decode cX6_readComparison 32 = .ok (.if_icmp .eq 13, 3) := by decide +kernel
theorem dX6_readComparison_35 : decode cX6_readComparison 35 = .ok (.aload_n 0, 1) := by decide +kernel
theorem dX6_readComparison_36 : decode cX6_readComparison 36 = .ok (.iconst 1, 1) := by decide +kernel
theorem dX6_readComparison_37 : decode cX6_readComparison 37 = .ok (.aload_n 0, 1) := by decide +kernel
theorem dX6_readComparison_38 : decode cX6_readComparison 38 = .ok (.invokevirtual 62, 3) := by decide +kernel
theorem dX6_readComparison_41 : decode cX6_readComparison 41 = .ok (.invokevirtual 65, 3) := by decide +kernel
theorem dX6_readComparison_44 : decode cX6_readComparison 44 = .ok (.ireturn, 1) := by decide +kernel
theorem dX6_readComparison_45 : decode cX6_readComparison 45 = .ok (.aload_n 0, 1) := by decide +kernel
theorem dX6_readComparison_46 : decode cX6_readComparison 46 = .ok (.invokevirtual 89, 3) := by decide +kernel
theorem dX6_readComparison_49 : decode cX6_readComparison 49 = .ok (.aload_n 0, 1) := by decide +kernel
theorem dX6_readComparison_50 : decode cX6_readComparison 50 = .ok (.invokevirtual 149, 3) := by decide +kernel
theorem dX6_readComparison_53 : decode cX6_readComparison 53 = .ok (.istore_n 3, 1) := by decide +kernel
theorem dX6_readComparison_54 : decode cX6_readComparison 54 = .ok (.iload_n 3, 1) := by decide +kernel
theorem dX6_readComparison_55 : decode cX6_readComparison 55 = .ok (.iconst (-1), 1) := by decide +kernel
theorem dX6_readComparison_56 : decode cX6_readComparison 56 = .ok (.if_icmp .ne 5, 3) := by decide +kernel
theorem dX6_readComparison_59 : decode cX6_readComparison 59 = .ok (.iconst 0, 1) := by decide +kernel
theorem dX6_readComparison_60 : decode cX6_readComparison 60 = .ok (.ireturn, 1) := by decide +kernel
theorem dX6_readComparison_61 : decode cX6_readComparison 61 = .ok (.aload_n 0, 1) := by decide +kernel
theorem dX6_readComparison_62 : decode cX6_readComparison 62 = .ok (.getfield 21, 3) := by decide +kernel
theorem dX6_readComparison_65 : decode cX6_readComparison 65 = .ok (.getfield 134, 3) := by decide +kernel
theorem dX6_readComparison_68 : decode cX6_readComparison 68 = .ok (.iload_n 1, 1) := by decide +kernel
theorem dX6_readComparison_69 : decode cX6_readComparison 69 = .ok (.iload_n 2, 1) := by decide +kernel
theorem dX6_readComparison_70 : decode cX6_readComparison 70 = .ok (.bipush 61, 2) := by decide +kernel
theorem dX6_readComparison_72 : decode cX6_readComparison 72 = .ok (.isub, 1) := by decide +kernel
theorem dX6_readComparison_73 : decode cX6_readComparison 73 = .ok (.iload_n 3, 1) := by decide +kernel
theorem dX6_readComparison_74 : decode cX6_readComparison 74 = .ok (.invokevirtual 152, 3) := by decide +kernel
theorem dX6_readComparison_77 : decode cX6_readComparison 77 = .ok (.iconst 1, 1) := by decide +kernel
theorem dX6_readComparison_78 : decode cX6_readComparison 78 = .ok (.ireturn, 1) := by decide +kernel
theorem dX6_takeOperand_0 : decode cX6_takeOperand 0 = .ok (.aload_n 0, 1) := by decide +kernel
theorem dX6_takeOperand_1 : decode cX6_takeOperand 1 = .ok (.invokevirtual 29, 3) := by decide +kernel
theorem dX6_takeOperand_4 : decode cX6_takeOperand 4 = .ok (.bipush 18, 2) := by decide +kernel
theorem dX6_takeOperand_6 : decode cX6_takeOperand 6 = .ok (.if_icmp .ne 7, 3) := by decide +kernel
theorem dX6_takeOperand_9 : decode cX6_takeOperand 9 = .ok (.iconst 1, 1) := by decide +kernel
theorem dX6_takeOperand_10 : decode cX6_takeOperand 10 = .ok (.goto 4, 3) := by decide +kernel
theorem dX6_takeOperand_13 : decode cX6_takeOperand 13 = .ok (.iconst 0, 1) := by decide +kernel
theorem dX6_takeOperand_14 : decode cX6_takeOperand 14 = .ok (.istore_n 1, 1) := by decide +kernel
theorem dX6_takeOperand_15 : decode cX6_takeOperand 15 = .ok (.iload_n 1, 1) := by decide +kernel
theorem dX6_takeOperand_16 : decode cX6_takeOperand 16 = .ok (.ifCond .eq 18, 3) := by decide +kernel
theorem dX6_takeOperand_19 : decode cX6_takeOperand 19 = .ok (.aload_n 0, 1) := by decide +kernel
theorem dX6_takeOperand_20 : decode cX6_takeOperand 20 = .ok (.getfield 12, 3) := by decide +kernel
theorem dX6_takeOperand_23 : decode cX6_takeOperand 23 = .ok (.getfield 155, 3) := by decide +kernel
theorem dX6_takeOperand_26 : decode cX6_takeOperand 26 = .ok (.aload_n 0, 1) := by decide +kernel
theorem dX6_takeOperand_27 : decode cX6_takeOperand 27 = .ok (.getfield 79, 3) := by decide +kernel
theorem dX6_takeOperand_30 : decode cX6_takeOperand 30 = .ok (.iaload, 1) := by decide +kernel
theorem dX6_takeOperand_31 : decode cX6_takeOperand 31 = .ok (.goto 10, 3) := by decide +kernel
theorem dX6_takeOperand_34 : decode cX6_takeOperand 34 = .ok (.aload_n 0, 1) := by decide +kernel
theorem dX6_takeOperand_35 : decode cX6_takeOperand 35 = .ok (.invokevirtual 29, 3) := by decide +kernel
theorem dX6_takeOperand_38 : decode cX6_takeOperand 38 = .ok (.invokestatic 159, 3) := by decide +kernel
theorem dX6_takeOperand_41 : decode cX6_takeOperand 41 = .ok (.istore_n 2, 1) := by decide +kernel
theorem dX6_takeOperand_42 : decode cX6_takeOperand 42 = .ok (.iload_n 2, 1) := by decide +kernel
theorem dX6_takeOperand_43 : decode cX6_takeOperand 43 = .ok (.iconst (-1), 1) := by decide +kernel
theorem dX6_takeOperand_44 : decode cX6_takeOperand 44 = .ok (.if_icmp .ne 15, 3) := by decide +kernel
theorem dX6_takeOperand_47 : decode cX6_takeOperand 47 = .ok (.aload_n 0, 1) := by decide +kernel
theorem dX6_takeOperand_48 : decode cX6_takeOperand 48 = .ok (.iconst 1, 1) := by decide +kernel
theorem dX6_takeOperand_49 : decode cX6_takeOperand 49 = .ok (.aload_n 0, 1) := by decide +kernel
theorem dX6_takeOperand_50 : decode cX6_takeOperand 50 = .ok (.invokevirtual 62, 3) := by decide +kernel
theorem dX6_takeOperand_53 : decode cX6_takeOperand 53 = .ok (.invokevirtual 65, 3) := by decide +kernel
theorem dX6_takeOperand_56 : decode cX6_takeOperand 56 = .ok (.pop, 1) := by decide +kernel
theorem dX6_takeOperand_57 : decode cX6_takeOperand 57 = .ok (.iconst (-1), 1) := by decide +kernel
theorem dX6_takeOperand_58 : decode cX6_takeOperand 58 = .ok (.ireturn, 1) := by decide +kernel
theorem dX6_takeOperand_59 : decode cX6_takeOperand 59 = .ok (.iload_n 1, 1) := by decide +kernel
theorem dX6_takeOperand_60 : decode cX6_takeOperand 60 = .ok (.ifCond .eq 22, 3) := by decide +kernel
theorem dX6_takeOperand_63 : decode cX6_takeOperand 63 = .ok (.iload_n 2, 1) := by decide +kernel
theorem dX6_takeOperand_64 : decode cX6_takeOperand 64 = .ok (.sipush 1000, 3) := by decide +kernel
theorem dX6_takeOperand_67 : decode cX6_takeOperand 67 = .ok (.if_icmp .lt 15, 3) := by decide +kernel
theorem dX6_takeOperand_70 : decode cX6_takeOperand 70 = .ok (.aload_n 0, 1) := by decide +kernel
theorem dX6_takeOperand_71 : decode cX6_takeOperand 71 = .ok (.iconst 2, 1) := by decide +kernel
theorem dX6_takeOperand_72 : decode cX6_takeOperand 72 = .ok (.aload_n 0, 1) := by decide +kernel
theorem dX6_takeOperand_73 : decode cX6_takeOperand 73 = .ok (.invokevirtual 62, 3) := by decide +kernel
theorem dX6_takeOperand_76 : decode cX6_takeOperand 76 = .ok (.invokevirtual 65, 3) := by decide +kernel
theorem dX6_takeOperand_79 : decode cX6_takeOperand 79 = .ok (.pop, 1) := by decide +kernel
theorem dX6_takeOperand_80 : decode cX6_takeOperand 80 = .ok (.iconst (-1), 1) := by decide +kernel
theorem dX6_takeOperand_81 : decode cX6_takeOperand 81 = .ok (.ireturn, 1) := by decide +kernel
theorem dX6_takeOperand_82 : decode cX6_takeOperand 82 = .ok (.aload_n 0, 1) := by decide +kernel
theorem dX6_takeOperand_83 : decode cX6_takeOperand 83 = .ok (.invokevirtual 89, 3) := by decide +kernel
theorem dX6_takeOperand_86 : decode cX6_takeOperand 86 = .ok (.iload_n 1, 1) := by decide +kernel
theorem dX6_takeOperand_87 : decode cX6_takeOperand 87 = .ok (.ifCond .eq 7, 3) := by decide +kernel
theorem dX6_takeOperand_90 : decode cX6_takeOperand 90 = .ok (.iload_n 2, 1) := by decide +kernel
theorem dX6_takeOperand_91 : decode cX6_takeOperand 91 = .ok (.goto 8, 3) := by decide +kernel
theorem dX6_takeOperand_94 : decode cX6_takeOperand 94 = .ok (.sipush 1000, 3) := by decide +kernel
theorem dX6_takeOperand_97 : decode cX6_takeOperand 97 = .ok (.iload_n 2, 1) := by decide +kernel
theorem dX6_takeOperand_98 : decode cX6_takeOperand 98 = .ok (.iadd, 1) := by decide +kernel
theorem dX6_takeOperand_99 : decode cX6_takeOperand 99 = .ok (.ireturn, 1) := by decide +kernel
theorem dX6_factOf_0 : decode cX6_factOf 0 = .ok (.iload_n 0, 1) := by decide +kernel
theorem dX6_factOf_1 : decode cX6_factOf 1 = .ok (.tableswitch 87 2 16 #[81, 87, 87, 87, 87, 87, 87, 87, 87, 87, 75, 77, 79, 83, 85], 75) := by decide +kernel
theorem dX6_factOf_76 : decode cX6_factOf 76 = .ok (.iconst 0, 1) := by decide +kernel
theorem dX6_factOf_77 : decode cX6_factOf 77 = .ok (.ireturn, 1) := by decide +kernel
theorem dX6_factOf_78 : decode cX6_factOf 78 = .ok (.iconst 1, 1) := by decide +kernel
theorem dX6_factOf_79 : decode cX6_factOf 79 = .ok (.ireturn, 1) := by decide +kernel
theorem dX6_factOf_80 : decode cX6_factOf 80 = .ok (.iconst 2, 1) := by decide +kernel
theorem dX6_factOf_81 : decode cX6_factOf 81 = .ok (.ireturn, 1) := by decide +kernel
theorem dX6_factOf_82 : decode cX6_factOf 82 = .ok (.iconst 3, 1) := by decide +kernel
theorem dX6_factOf_83 : decode cX6_factOf 83 = .ok (.ireturn, 1) := by decide +kernel
theorem dX6_factOf_84 : decode cX6_factOf 84 = .ok (.iconst 4, 1) := by decide +kernel
theorem dX6_factOf_85 : decode cX6_factOf 85 = .ok (.ireturn, 1) := by decide +kernel
theorem dX6_factOf_86 : decode cX6_factOf 86 = .ok (.iconst 5, 1) := by decide +kernel
theorem dX6_factOf_87 : decode cX6_factOf 87 = .ok (.ireturn, 1) := by decide +kernel
theorem dX6_factOf_88 : decode cX6_factOf 88 = .ok (.iconst (-1), 1) := by decide +kernel
theorem dX6_factOf_89 : decode cX6_factOf 89 = .ok (.ireturn, 1) := by decide +kernel
theorem dX6_takeOnce_0 : decode cX6_takeOnce 0 = .ok (.iconst 1, 1) := by decide +kernel
theorem dX6_takeOnce_1 : decode cX6_takeOnce 1 = .ok (.aload_n 0, 1) := by decide +kernel
theorem dX6_takeOnce_2 : decode cX6_takeOnce 2 = .ok (.invokevirtual 29, 3) := by decide +kernel
theorem dX6_takeOnce_5 : decode cX6_takeOnce 5 = .ok (.ishl, 1) := by decide +kernel
theorem dX6_takeOnce_6 : decode cX6_takeOnce 6 = .ok (.istore_n 1, 1) := by decide +kernel
theorem dX6_takeOnce_7 : decode cX6_takeOnce 7 = .ok (.aload_n 0, 1) := by decide +kernel
theorem dX6_takeOnce_8 : decode cX6_takeOnce 8 = .ok (.getfield 83, 3) := by decide +kernel
theorem dX6_takeOnce_11 : decode cX6_takeOnce 11 = .ok (.iload_n 1, 1) := by decide +kernel
theorem dX6_takeOnce_12 : decode cX6_takeOnce 12 = .ok (.iand, 1) := by decide +kernel
theorem dX6_takeOnce_13 : decode cX6_takeOnce 13 = .ok (.ifCond .eq 13, 3) := by decide +kernel
theorem dX6_takeOnce_16 : decode cX6_takeOnce 16 = .ok (.aload_n 0, 1) := by decide +kernel
theorem dX6_takeOnce_17 : decode cX6_takeOnce 17 = .ok (.iconst 1, 1) := by decide +kernel
theorem dX6_takeOnce_18 : decode cX6_takeOnce 18 = .ok (.aload_n 0, 1) := by decide +kernel
theorem dX6_takeOnce_19 : decode cX6_takeOnce 19 = .ok (.invokevirtual 62, 3) := by decide +kernel
theorem dX6_takeOnce_22 : decode cX6_takeOnce 22 = .ok (.invokevirtual 65, 3) := by decide +kernel
theorem dX6_takeOnce_25 : decode cX6_takeOnce 25 = .ok (.ireturn, 1) := by decide +kernel
theorem dX6_takeOnce_26 : decode cX6_takeOnce 26 = .ok (.aload_n 0, 1) := by decide +kernel
theorem dX6_takeOnce_27 : decode cX6_takeOnce 27 = .ok (.dup, 1) := by decide +kernel
theorem dX6_takeOnce_28 : decode cX6_takeOnce 28 = .ok (.getfield 83, 3) := by decide +kernel
theorem dX6_takeOnce_31 : decode cX6_takeOnce 31 = .ok (.iload_n 1, 1) := by decide +kernel
theorem dX6_takeOnce_32 : decode cX6_takeOnce 32 = .ok (.ior, 1) := by decide +kernel
theorem dX6_takeOnce_33 : decode cX6_takeOnce 33 = .ok (.putfield 83, 3) := by decide +kernel
theorem dX6_takeOnce_36 : decode cX6_takeOnce 36 = .ok (.aload_n 0, 1) := by decide +kernel
theorem dX6_takeOnce_37 : decode cX6_takeOnce 37 = .ok (.invokevirtual 89, 3) := by decide +kernel
theorem dX6_takeOnce_40 : decode cX6_takeOnce 40 = .ok (.iconst 1, 1) := by decide +kernel
theorem dX6_takeOnce_41 : decode cX6_takeOnce 41 = .ok (.ireturn, 1) := by decide +kernel
theorem dX6_takeSign_0 : decode cX6_takeSign 0 = .ok (.aload_n 0, 1) := by decide +kernel
theorem dX6_takeSign_1 : decode cX6_takeSign 1 = .ok (.invokevirtual 29, 3) := by decide +kernel
theorem dX6_takeSign_4 : decode cX6_takeSign 4 = .ok (.iload_n 1, 1) := by decide +kernel
theorem dX6_takeSign_5 : decode cX6_takeSign 5 = .ok (.if_icmp .eq 13, 3) := by decide +kernel
theorem dX6_takeSign_8 : decode cX6_takeSign 8 = .ok (.aload_n 0, 1) := by decide +kernel
theorem dX6_takeSign_9 : decode cX6_takeSign 9 = .ok (.iconst 1, 1) := by decide +kernel
theorem dX6_takeSign_10 : decode cX6_takeSign 10 = .ok (.aload_n 0, 1) := by decide +kernel
theorem dX6_takeSign_11 : decode cX6_takeSign 11 = .ok (.invokevirtual 62, 3) := by decide +kernel
theorem dX6_takeSign_14 : decode cX6_takeSign 14 = .ok (.invokevirtual 65, 3) := by decide +kernel
theorem dX6_takeSign_17 : decode cX6_takeSign 17 = .ok (.ireturn, 1) := by decide +kernel
theorem dX6_takeSign_18 : decode cX6_takeSign 18 = .ok (.aload_n 0, 1) := by decide +kernel
theorem dX6_takeSign_19 : decode cX6_takeSign 19 = .ok (.invokevirtual 89, 3) := by decide +kernel
theorem dX6_takeSign_22 : decode cX6_takeSign 22 = .ok (.iconst 1, 1) := by decide +kernel
theorem dX6_takeSign_23 : decode cX6_takeSign 23 = .ok (.ireturn, 1) := by decide +kernel
theorem dX6_takeNumber_0 : decode cX6_takeNumber 0 = .ok (.aload_n 0, 1) := by decide +kernel
theorem dX6_takeNumber_1 : decode cX6_takeNumber 1 = .ok (.invokevirtual 29, 3) := by decide +kernel
theorem dX6_takeNumber_4 : decode cX6_takeNumber 4 = .ok (.bipush 18, 2) := by decide +kernel
theorem dX6_takeNumber_6 : decode cX6_takeNumber 6 = .ok (.if_icmp .eq 15, 3) := by decide +kernel
theorem dX6_takeNumber_9 : decode cX6_takeNumber 9 = .ok (.aload_n 0, 1) := by decide +kernel
theorem dX6_takeNumber_10 : decode cX6_takeNumber 10 = .ok (.iconst 1, 1) := by decide +kernel
theorem dX6_takeNumber_11 : decode cX6_takeNumber 11 = .ok (.aload_n 0, 1) := by decide +kernel
theorem dX6_takeNumber_12 : decode cX6_takeNumber 12 = .ok (.invokevirtual 62, 3) := by decide +kernel
theorem dX6_takeNumber_15 : decode cX6_takeNumber 15 = .ok (.invokevirtual 65, 3) := by decide +kernel
theorem dX6_takeNumber_18 : decode cX6_takeNumber 18 = .ok (.pop, 1) := by decide +kernel
theorem dX6_takeNumber_19 : decode cX6_takeNumber 19 = .ok (.iconst (-1), 1) := by decide +kernel
theorem dX6_takeNumber_20 : decode cX6_takeNumber 20 = .ok (.ireturn, 1) := by decide +kernel
theorem dX6_takeNumber_21 : decode cX6_takeNumber 21 = .ok (.aload_n 0, 1) := by decide +kernel
theorem dX6_takeNumber_22 : decode cX6_takeNumber 22 = .ok (.getfield 12, 3) := by decide +kernel
theorem dX6_takeNumber_25 : decode cX6_takeNumber 25 = .ok (.getfield 155, 3) := by decide +kernel
theorem dX6_takeNumber_28 : decode cX6_takeNumber 28 = .ok (.aload_n 0, 1) := by decide +kernel
theorem dX6_takeNumber_29 : decode cX6_takeNumber 29 = .ok (.getfield 79, 3) := by decide +kernel
theorem dX6_takeNumber_32 : decode cX6_takeNumber 32 = .ok (.iaload, 1) := by decide +kernel
theorem dX6_takeNumber_33 : decode cX6_takeNumber 33 = .ok (.istore_n 3, 1) := by decide +kernel
theorem dX6_takeNumber_34 : decode cX6_takeNumber 34 = .ok (.iload_n 3, 1) := by decide +kernel
theorem dX6_takeNumber_35 : decode cX6_takeNumber 35 = .ok (.iload_n 1, 1) := by decide +kernel
theorem dX6_takeNumber_36 : decode cX6_takeNumber 36 = .ok (.if_icmp .lt 8, 3) := by decide +kernel
theorem dX6_takeNumber_39 : decode cX6_takeNumber 39 = .ok (.iload_n 3, 1) := by decide +kernel
theorem dX6_takeNumber_40 : decode cX6_takeNumber 40 = .ok (.iload_n 2, 1) := by decide +kernel
theorem dX6_takeNumber_41 : decode cX6_takeNumber 41 = .ok (.if_icmp .le 15, 3) := by decide +kernel
theorem dX6_takeNumber_44 : decode cX6_takeNumber 44 = .ok (.aload_n 0, 1) := by decide +kernel
theorem dX6_takeNumber_45 : decode cX6_takeNumber 45 = .ok (.iconst 2, 1) := by decide +kernel
theorem dX6_takeNumber_46 : decode cX6_takeNumber 46 = .ok (.aload_n 0, 1) := by decide +kernel
theorem dX6_takeNumber_47 : decode cX6_takeNumber 47 = .ok (.invokevirtual 62, 3) := by decide +kernel
theorem dX6_takeNumber_50 : decode cX6_takeNumber 50 = .ok (.invokevirtual 65, 3) := by decide +kernel
theorem dX6_takeNumber_53 : decode cX6_takeNumber 53 = .ok (.pop, 1) := by decide +kernel
theorem dX6_takeNumber_54 : decode cX6_takeNumber 54 = .ok (.iconst (-1), 1) := by decide +kernel
theorem dX6_takeNumber_55 : decode cX6_takeNumber 55 = .ok (.ireturn, 1) := by decide +kernel
theorem dX6_takeNumber_56 : decode cX6_takeNumber 56 = .ok (.aload_n 0, 1) := by decide +kernel
theorem dX6_takeNumber_57 : decode cX6_takeNumber 57 = .ok (.invokevirtual 89, 3) := by decide +kernel
theorem dX6_takeNumber_60 : decode cX6_takeNumber 60 = .ok (.iload_n 3, 1) := by decide +kernel
theorem dX6_takeNumber_61 : decode cX6_takeNumber 61 = .ok (.ireturn, 1) := by decide +kernel
theorem dX6_takeName_0 : decode cX6_takeName 0 = .ok (.aload_n 0, 1) := by decide +kernel
theorem dX6_takeName_1 : decode cX6_takeName 1 = .ok (.invokevirtual 29, 3) := by decide +kernel
theorem dX6_takeName_4 : decode cX6_takeName 4 = .ok (.iconst 1, 1) := by decide +kernel
theorem dX6_takeName_5 : decode cX6_takeName 5 = .ok (.if_icmp .lt 16, 3) := by decide +kernel
theorem dX6_takeName_8 : decode cX6_takeName 8 = .ok (.aload_n 0, 1) := by decide +kernel
theorem dX6_takeName_9 : decode cX6_takeName 9 = .ok (.invokevirtual 29, 3) := by decide +kernel
theorem dX6_takeName_12 : decode cX6_takeName 12 = .ok (.bipush 17, 2) := by decide +kernel
theorem dX6_takeName_14 : decode cX6_takeName 14 = .ok (.if_icmp .gt 7, 3) := by decide +kernel
theorem dX6_takeName_17 : decode cX6_takeName 17 = .ok (.iconst 1, 1) := by decide +kernel
theorem dX6_takeName_18 : decode cX6_takeName 18 = .ok (.goto 4, 3) := by decide +kernel
theorem dX6_takeName_21 : decode cX6_takeName 21 = .ok (.iconst 0, 1) := by decide +kernel
theorem dX6_takeName_22 : decode cX6_takeName 22 = .ok (.istore_n 1, 1) := by decide +kernel
theorem dX6_takeName_23 : decode cX6_takeName 23 = .ok (.iload_n 1, 1) := by decide +kernel
theorem dX6_takeName_24 : decode cX6_takeName 24 = .ok (.ifCond .eq 19, 3) := by decide +kernel
theorem dX6_takeName_27 : decode cX6_takeName 27 = .ok (.aload_n 0, 1) := by decide +kernel
theorem dX6_takeName_28 : decode cX6_takeName 28 = .ok (.getfield 12, 3) := by decide +kernel
theorem dX6_takeName_31 : decode cX6_takeName 31 = .ok (.getfield 155, 3) := by decide +kernel
theorem dX6_takeName_34 : decode cX6_takeName 34 = .ok (.aload_n 0, 1) := by decide +kernel
theorem dX6_takeName_35 : decode cX6_takeName 35 = .ok (.getfield 79, 3) := by decide +kernel
theorem dX6_takeName_38 : decode cX6_takeName 38 = .ok (.iaload, 1) := by decide +kernel
theorem dX6_takeName_39 : decode cX6_takeName 39 = .ok (.iconst (-1), 1) := by decide +kernel
theorem dX6_takeName_40 : decode cX6_takeName 40 = .ok (.if_icmp .ne 15, 3) := by decide +kernel
theorem dX6_takeName_43 : decode cX6_takeName 43 = .ok (.aload_n 0, 1) := by decide +kernel
theorem dX6_takeName_44 : decode cX6_takeName 44 = .ok (.iconst 1, 1) := by decide +kernel
theorem dX6_takeName_45 : decode cX6_takeName 45 = .ok (.aload_n 0, 1) := by decide +kernel
theorem dX6_takeName_46 : decode cX6_takeName 46 = .ok (.invokevirtual 62, 3) := by decide +kernel
theorem dX6_takeName_49 : decode cX6_takeName 49 = .ok (.invokevirtual 65, 3) := by decide +kernel
theorem dX6_takeName_52 : decode cX6_takeName 52 = .ok (.pop, 1) := by decide +kernel
theorem dX6_takeName_53 : decode cX6_takeName 53 = .ok (.iconst (-1), 1) := by decide +kernel
theorem dX6_takeName_54 : decode cX6_takeName 54 = .ok (.ireturn, 1) := by decide +kernel
theorem dX6_takeName_55 : decode cX6_takeName 55 = .ok (.aload_n 0, 1) := by decide +kernel
theorem dX6_takeName_56 : decode cX6_takeName 56 = .ok (.getfield 12, 3) := by decide +kernel
theorem dX6_takeName_59 : decode cX6_takeName 59 = .ok (.getfield 155, 3) := by decide +kernel
theorem dX6_takeName_62 : decode cX6_takeName 62 = .ok (.aload_n 0, 1) := by decide +kernel
theorem dX6_takeName_63 : decode cX6_takeName 63 = .ok (.getfield 79, 3) := by decide +kernel
theorem dX6_takeName_66 : decode cX6_takeName 66 = .ok (.iaload, 1) := by decide +kernel
theorem dX6_takeName_67 : decode cX6_takeName 67 = .ok (.istore_n 2, 1) := by decide +kernel
theorem dX6_takeName_68 : decode cX6_takeName 68 = .ok (.aload_n 0, 1) := by decide +kernel
theorem dX6_takeName_69 : decode cX6_takeName 69 = .ok (.invokevirtual 89, 3) := by decide +kernel
theorem dX6_takeName_72 : decode cX6_takeName 72 = .ok (.iload_n 2, 1) := by decide +kernel
theorem dX6_takeName_73 : decode cX6_takeName 73 = .ok (.ireturn, 1) := by decide +kernel
theorem dX6_refuse_0 : decode cX6_refuse 0 = .ok (.aload_n 0, 1) := by decide +kernel
theorem dX6_refuse_1 : decode cX6_refuse 1 = .ok (.iload_n 1, 1) := by decide +kernel
theorem dX6_refuse_2 : decode cX6_refuse 2 = .ok (.putfield 163, 3) := by decide +kernel
theorem dX6_refuse_5 : decode cX6_refuse 5 = .ok (.aload_n 0, 1) := by decide +kernel
theorem dX6_refuse_6 : decode cX6_refuse 6 = .ok (.iload_n 2, 1) := by decide +kernel
theorem dX6_refuse_7 : decode cX6_refuse 7 = .ok (.putfield 166, 3) := by decide +kernel
theorem dX6_refuse_10 : decode cX6_refuse 10 = .ok (.iconst 0, 1) := by decide +kernel
theorem dX6_refuse_11 : decode cX6_refuse 11 = .ok (.ireturn, 1) := by decide +kernel
theorem dX6_kind_0 : decode cX6_kind 0 = .ok (.aload_n 0, 1) := by decide +kernel
theorem dX6_kind_1 : decode cX6_kind 1 = .ok (.getfield 12, 3) := by decide +kernel
theorem dX6_kind_4 : decode cX6_kind 4 = .ok (.getfield 169, 3) := by decide +kernel
theorem dX6_kind_7 : decode cX6_kind 7 = .ok (.aload_n 0, 1) := by decide +kernel
theorem dX6_kind_8 : decode cX6_kind 8 = .ok (.getfield 79, 3) := by decide +kernel
theorem dX6_kind_11 : decode cX6_kind 11 = .ok (.iaload, 1) := by decide +kernel
theorem dX6_kind_12 : decode cX6_kind 12 = .ok (.ireturn, 1) := by decide +kernel
theorem dX6_place_0 : decode cX6_place 0 = .ok (.aload_n 0, 1) := by decide +kernel
theorem dX6_place_1 : decode cX6_place 1 = .ok (.getfield 12, 3) := by decide +kernel
theorem dX6_place_4 : decode cX6_place 4 = .ok (.getfield 172, 3) := by decide +kernel
theorem dX6_place_7 : decode cX6_place 7 = .ok (.aload_n 0, 1) := by decide +kernel
theorem dX6_place_8 : decode cX6_place 8 = .ok (.getfield 79, 3) := by decide +kernel
theorem dX6_place_11 : decode cX6_place 11 = .ok (.iaload, 1) := by decide +kernel
theorem dX6_place_12 : decode cX6_place 12 = .ok (.ireturn, 1) := by decide +kernel
theorem dX6_advance_0 : decode cX6_advance 0 = .ok (.aload_n 0, 1) := by decide +kernel
theorem dX6_advance_1 : decode cX6_advance 1 = .ok (.getfield 79, 3) := by decide +kernel
theorem dX6_advance_4 : decode cX6_advance 4 = .ok (.sipush 600, 3) := by decide +kernel
theorem dX6_advance_7 : decode cX6_advance 7 = .ok (.if_icmp .ge 13, 3) := by decide +kernel
theorem dX6_advance_10 : decode cX6_advance 10 = .ok (.aload_n 0, 1) := by decide +kernel
theorem dX6_advance_11 : decode cX6_advance 11 = .ok (.dup, 1) := by decide +kernel
theorem dX6_advance_12 : decode cX6_advance 12 = .ok (.getfield 79, 3) := by decide +kernel
theorem dX6_advance_15 : decode cX6_advance 15 = .ok (.iconst 1, 1) := by decide +kernel
theorem dX6_advance_16 : decode cX6_advance 16 = .ok (.iadd, 1) := by decide +kernel
theorem dX6_advance_17 : decode cX6_advance 17 = .ok (.putfield 79, 3) := by decide +kernel
theorem dX6_advance_20 : decode cX6_advance 20 = .ok (.return_, 1) := by decide +kernel
theorem dX7_init_0 : decode cX7_init 0 = .ok (.aload_n 0, 1) := by decide +kernel
theorem dX7_init_1 : decode cX7_init 1 = .ok (.invokespecial 3, 3) := by decide +kernel
theorem dX7_init_4 : decode cX7_init 4 = .ok (.aload_n 0, 1) := by decide +kernel
theorem dX7_init_5 : decode cX7_init 5 = .ok (.sipush 601, 3) := by decide +kernel
theorem dX7_init_8 : decode cX7_init 8 = .ok (.newarray .int, 2) := by decide +kernel
theorem dX7_init_10 : decode cX7_init 10 = .ok (.putfield 9, 3) := by decide +kernel
theorem dX7_init_13 : decode cX7_init 13 = .ok (.aload_n 0, 1) := by decide +kernel
theorem dX7_init_14 : decode cX7_init 14 = .ok (.sipush 601, 3) := by decide +kernel
theorem dX7_init_17 : decode cX7_init 17 = .ok (.newarray .int, 2) := by decide +kernel
theorem dX7_init_19 : decode cX7_init 19 = .ok (.putfield 15, 3) := by decide +kernel
theorem dX7_init_22 : decode cX7_init 22 = .ok (.aload_n 0, 1) := by decide +kernel
theorem dX7_init_23 : decode cX7_init 23 = .ok (.sipush 601, 3) := by decide +kernel
theorem dX7_init_26 : decode cX7_init 26 = .ok (.newarray .int, 2) := by decide +kernel
theorem dX7_init_28 : decode cX7_init 28 = .ok (.putfield 18, 3) := by decide +kernel
theorem dX7_init_31 : decode cX7_init 31 = .ok (.aload_n 0, 1) := by decide +kernel
theorem dX7_init_32 : decode cX7_init 32 = .ok (.new 21, 3) := by decide +kernel
theorem dX7_init_35 : decode cX7_init 35 = .ok (.dup, 1) := by decide +kernel
theorem dX7_init_36 : decode cX7_init 36 = .ok (.invokespecial 23, 3) := by decide +kernel
theorem dX7_init_39 : decode cX7_init 39 = .ok (.putfield 24, 3) := by decide +kernel
theorem dX7_init_42 : decode cX7_init 42 = .ok (.return_, 1) := by decide +kernel
theorem dX7_scan_0 : decode cX7_scan 0 = .ok (.aload_n 0, 1) := by decide +kernel
theorem dX7_scan_1 : decode cX7_scan 1 = .ok (.iconst 0, 1) := by decide +kernel
theorem dX7_scan_2 : decode cX7_scan 2 = .ok (.iload_n 1, 1) := by decide +kernel
theorem dX7_scan_3 : decode cX7_scan 3 = .ok (.sipush 600, 3) := by decide +kernel
theorem dX7_scan_6 : decode cX7_scan 6 = .ok (.invokestatic 28, 3) := by decide +kernel
theorem dX7_scan_9 : decode cX7_scan 9 = .ok (.invokestatic 34, 3) := by decide +kernel
theorem dX7_scan_12 : decode cX7_scan 12 = .ok (.putfield 37, 3) := by decide +kernel
theorem dX7_scan_15 : decode cX7_scan 15 = .ok (.aload_n 0, 1) := by decide +kernel
theorem dX7_scan_16 : decode cX7_scan 16 = .ok (.iconst 0, 1) := by decide +kernel
theorem dX7_scan_17 : decode cX7_scan 17 = .ok (.putfield 41, 3) := by decide +kernel
theorem dX7_scan_20 : decode cX7_scan 20 = .ok (.iconst 0, 1) := by decide +kernel
theorem dX7_scan_21 : decode cX7_scan 21 = .ok (.istore_n 2, 1) := by decide +kernel
theorem dX7_scan_22 : decode cX7_scan 22 = .ok (.iload_n 2, 1) := by decide +kernel
theorem dX7_scan_23 : decode cX7_scan 23 = .ok (.aload_n 0, 1) := by decide +kernel
theorem dX7_scan_24 : decode cX7_scan 24 = .ok (.getfield 37, 3) := by decide +kernel
theorem dX7_scan_27 : decode cX7_scan 27 = .ok (.if_icmp .ge 114, 3) := by decide +kernel
theorem dX7_scan_30 : decode cX7_scan 30 = .ok (.aload_n 0, 1) := by decide +kernel
theorem dX7_scan_31 : decode cX7_scan 31 = .ok (.iload_n 2, 1) := by decide +kernel
theorem dX7_scan_32 : decode cX7_scan 32 = .ok (.invokevirtual 44, 3) := by decide +kernel
theorem dX7_scan_35 : decode cX7_scan 35 = .ok (.ifCond .eq 31, 3) := by decide +kernel
theorem dX7_scan_38 : decode cX7_scan 38 = .ok (.aload_n 0, 1) := by decide +kernel
theorem dX7_scan_39 : decode cX7_scan 39 = .ok (.iload_n 2, 1) := by decide +kernel
theorem dX7_scan_40 : decode cX7_scan 40 = .ok (.iconst 1, 1) := by decide +kernel
theorem dX7_scan_41 : decode cX7_scan 41 = .ok (.isub, 1) := by decide +kernel
theorem dX7_scan_42 : decode cX7_scan 42 = .ok (.invokevirtual 44, 3) := by decide +kernel
theorem dX7_scan_45 : decode cX7_scan 45 = .ok (.ifCond .ne 90, 3) := by decide +kernel
theorem dX7_scan_48 : decode cX7_scan 48 = .ok (.aload_n 0, 1) := by decide +kernel
theorem dX7_scan_49 : decode cX7_scan 49 = .ok (.aload_n 0, 1) := by decide +kernel
theorem dX7_scan_50 : decode cX7_scan 50 = .ok (.iload_n 2, 1) := by decide +kernel
theorem dX7_scan_51 : decode cX7_scan 51 = .ok (.invokevirtual 48, 3) := by decide +kernel
theorem dX7_scan_54 : decode cX7_scan 54 = .ok (.iload_n 2, 1) := by decide +kernel
theorem dX7_scan_55 : decode cX7_scan 55 = .ok (.aload_n 0, 1) := by decide +kernel
theorem dX7_scan_56 : decode cX7_scan 56 = .ok (.iload_n 2, 1) := by decide +kernel
theorem dX7_scan_57 : decode cX7_scan 57 = .ok (.invokevirtual 52, 3) := by decide +kernel
theorem dX7_scan_60 : decode cX7_scan 60 = .ok (.invokevirtual 55, 3) := by decide +kernel
theorem dX7_scan_63 : decode cX7_scan 63 = .ok (.goto 72, 3) := by decide +kernel
theorem dX7_scan_66 : decode cX7_scan 66 = .ok (.aload_n 0, 1) := by decide +kernel
theorem dX7_scan_67 : decode cX7_scan 67 = .ok (.iload_n 2, 1) := by decide +kernel
theorem dX7_scan_68 : decode cX7_scan 68 = .ok (.invokevirtual 59, 3) := by decide +kernel
theorem dX7_scan_71 : decode cX7_scan 71 = .ok (.ifCond .eq 28, 3) := by decide +kernel
theorem dX7_scan_74 : decode cX7_scan 74 = .ok (.aload_n 0, 1) := by decide +kernel
theorem dX7_scan_75 : decode cX7_scan 75 = .ok (.iload_n 2, 1) := by decide +kernel
theorem dX7_scan_76 : decode cX7_scan 76 = .ok (.iconst 1, 1) := by decide +kernel
theorem dX7_scan_77 : decode cX7_scan 77 = .ok (.isub, 1) := by decide +kernel
theorem dX7_scan_78 : decode cX7_scan 78 = .ok (.invokevirtual 59, 3) := by decide +kernel
theorem dX7_scan_81 : decode cX7_scan 81 = .ok (.ifCond .ne 54, 3) := by decide +kernel
theorem dX7_scan_84 : decode cX7_scan 84 = .ok (.aload_n 0, 1) := by decide +kernel
theorem dX7_scan_85 : decode cX7_scan 85 = .ok (.bipush 18, 2) := by decide +kernel
theorem dX7_scan_87 : decode cX7_scan 87 = .ok (.iload_n 2, 1) := by decide +kernel
theorem dX7_scan_88 : decode cX7_scan 88 = .ok (.aload_n 0, 1) := by decide +kernel
theorem dX7_scan_89 : decode cX7_scan 89 = .ok (.iload_n 2, 1) := by decide +kernel
theorem dX7_scan_90 : decode cX7_scan 90 = .ok (.invokevirtual 62, 3) := by decide +kernel
theorem dX7_scan_93 : decode cX7_scan 93 = .ok (.invokevirtual 55, 3) := by decide +kernel
theorem dX7_scan_96 : decode cX7_scan 96 = .ok (.goto 39, 3) := by decide +kernel
theorem dX7_scan_99 : decode cX7_scan 99 = .ok (.aload_n 0, 1) := by decide +kernel
theorem dX7_scan_100 : decode cX7_scan 100 = .ok (.iload_n 2, 1) := by decide +kernel
theorem dX7_scan_101 : decode cX7_scan 101 = .ok (.invokevirtual 65, 3) := by decide +kernel
theorem dX7_scan_104 : decode cX7_scan 104 = .ok (.bipush 32, 2) := by decide +kernel
theorem dX7_scan_106 : decode cX7_scan 106 = .ok (.if_icmp .eq 29, 3) := by decide +kernel
theorem dX7_scan_109 : decode cX7_scan 109 = .ok (.aload_n 0, 1) := by decide +kernel
theorem dX7_scan_110 : decode cX7_scan 110 = .ok (.aload_n 0, 1) := by decide +kernel
theorem dX7_scan_111 : decode cX7_scan 111 = .ok (.iload_n 2, 1) := by decide +kernel
theorem dX7_scan_112 : decode cX7_scan 112 = .ok (.invokevirtual 65, 3) := by decide +kernel
theorem dX7_scan_115 : decode cX7_scan 115 = .ok (.bipush 32, 2) := by decide +kernel
theorem dX7_scan_117 : decode cX7_scan 117 = .ok (.if_icmp .le 11, 3) := by decide +kernel
theorem dX7_scan_120 : decode cX7_scan 120 = .ok (.aload_n 0, 1) := by decide +kernel
theorem dX7_scan_121 : decode cX7_scan 121 = .ok (.iload_n 2, 1) := by decide +kernel
theorem dX7_scan_122 : decode cX7_scan 122 = .ok (.invokevirtual 65, 3) := by decide +kernel
theorem dX7_scan_125 : decode cX7_scan 125 = .ok (.goto 5, 3) := by decide +kernel
theorem dX7_scan_128 : decode cX7_scan 128 = .ok (.bipush 19, 2) := by decide +kernel
theorem dX7_scan_130 : decode cX7_scan 130 = .ok (.iload_n 2, 1) := by decide +kernel
theorem dX7_scan_131 : decode cX7_scan 131 = .ok (.iconst (-1), 1) := by decide +kernel
theorem dX7_scan_132 : decode cX7_scan 132 = .ok (.invokevirtual 55, 3) := by decide +kernel
theorem dX7_scan_135 : decode cX7_scan 135 = .ok (.iinc 2 1, 3) := by decide +kernel
theorem dX7_scan_138 : decode cX7_scan 138 = .ok (.goto (-116), 3) := by decide +kernel
theorem dX7_scan_141 : decode cX7_scan 141 = .ok (.aload_n 0, 1) := by decide +kernel
theorem dX7_scan_142 : decode cX7_scan 142 = .ok (.iconst 0, 1) := by decide +kernel
theorem dX7_scan_143 : decode cX7_scan 143 = .ok (.aload_n 0, 1) := by decide +kernel
theorem dX7_scan_144 : decode cX7_scan 144 = .ok (.getfield 37, 3) := by decide +kernel
theorem dX7_scan_147 : decode cX7_scan 147 = .ok (.iconst (-1), 1) := by decide +kernel
theorem dX7_scan_148 : decode cX7_scan 148 = .ok (.invokevirtual 55, 3) := by decide +kernel
theorem dX7_scan_151 : decode cX7_scan 151 = .ok (.return_, 1) := by decide +kernel
theorem dX7_add_0 : decode cX7_add 0 = .ok (.aload_n 0, 1) := by decide +kernel
theorem dX7_add_1 : decode cX7_add 1 = .ok (.getfield 41, 3) := by decide +kernel
theorem dX7_add_4 : decode cX7_add 4 = .ok (.ifCond .lt 13, 3) := by decide +kernel
theorem dX7_add_7 : decode cX7_add 7 = .ok (.aload_n 0, 1) := by decide +kernel
theorem dX7_add_8 : decode cX7_add 8 = .ok (.getfield 41, 3) := by decide +kernel
theorem dX7_add_11 : decode cX7_add 11 = .ok (.sipush 600, 3) := by decide +kernel
theorem dX7_add_14 : decode cX7_add 14 = .ok (.if_icmp .le 4, 3) := by decide +kernel
theorem dX7_add_17 : decode cX7_add 17 = .ok (.return_, 1) := by decide +kernel
theorem dX7_add_18 : decode cX7_add 18 = .ok (.aload_n 0, 1) := by decide +kernel
theorem dX7_add_19 : decode cX7_add 19 = .ok (.getfield 9, 3) := by decide +kernel
theorem dX7_add_22 : decode cX7_add 22 = .ok (.aload_n 0, 1) := by decide +kernel
theorem dX7_add_23 : decode cX7_add 23 = .ok (.getfield 41, 3) := by decide +kernel
theorem dX7_add_26 : decode cX7_add 26 = .ok (.iload_n 1, 1) := by decide +kernel
theorem dX7_add_27 : decode cX7_add 27 = .ok (.iastore, 1) := by decide +kernel
theorem dX7_add_28 : decode cX7_add 28 = .ok (.aload_n 0, 1) := by decide +kernel
theorem dX7_add_29 : decode cX7_add 29 = .ok (.getfield 15, 3) := by decide +kernel
theorem dX7_add_32 : decode cX7_add 32 = .ok (.aload_n 0, 1) := by decide +kernel
theorem dX7_add_33 : decode cX7_add 33 = .ok (.getfield 41, 3) := by decide +kernel
theorem dX7_add_36 : decode cX7_add 36 = .ok (.iload_n 2, 1) := by decide +kernel
theorem dX7_add_37 : decode cX7_add 37 = .ok (.iastore, 1) := by decide +kernel
theorem dX7_add_38 : decode cX7_add 38 = .ok (.aload_n 0, 1) := by decide +kernel
theorem dX7_add_39 : decode cX7_add 39 = .ok (.getfield 18, 3) := by decide +kernel
theorem dX7_add_42 : decode cX7_add 42 = .ok (.aload_n 0, 1) := by decide +kernel
theorem dX7_add_43 : decode cX7_add 43 = .ok (.getfield 41, 3) := by decide +kernel
theorem dX7_add_46 : decode cX7_add 46 = .ok (.iload_n 3, 1) := by decide +kernel
theorem dX7_add_47 : decode cX7_add 47 = .ok (.iastore, 1) := by decide +kernel
theorem dX7_add_48 : decode cX7_add 48 = .ok (.aload_n 0, 1) := by decide +kernel
theorem dX7_add_49 : decode cX7_add 49 = .ok (.dup, 1) := by decide +kernel
theorem dX7_add_50 : decode cX7_add 50 = .ok (.getfield 41, 3) := by decide +kernel
theorem dX7_add_53 : decode cX7_add 53 = .ok (.iconst 1, 1) := by decide +kernel
theorem dX7_add_54 : decode cX7_add 54 = .ok (.iadd, 1) := by decide +kernel
theorem dX7_add_55 : decode cX7_add 55 = .ok (.putfield 41, 3) := by decide +kernel
theorem dX7_add_58 : decode cX7_add 58 = .ok (.return_, 1) := by decide +kernel
theorem dX7_kindOfWord_0 : decode cX7_kindOfWord 0 = .ok (.iconst 1, 1) := by decide +kernel
theorem dX7_kindOfWord_1 : decode cX7_kindOfWord 1 = .ok (.istore_n 2, 1) := by decide +kernel
theorem dX7_kindOfWord_2 : decode cX7_kindOfWord 2 = .ok (.iconst 0, 1) := by decide +kernel
theorem dX7_kindOfWord_3 : decode cX7_kindOfWord 3 = .ok (.istore_n 3, 1) := by decide +kernel
theorem dX7_kindOfWord_4 : decode cX7_kindOfWord 4 = .ok (.iconst 0, 1) := by decide +kernel
theorem dX7_kindOfWord_5 : decode cX7_kindOfWord 5 = .ok (.istore 4, 2) := by decide +kernel
theorem dX7_kindOfWord_7 : decode cX7_kindOfWord 7 = .ok (.iload 4, 2) := by decide +kernel
theorem dX7_kindOfWord_9 : decode cX7_kindOfWord 9 = .ok (.ldc 68, 2) := by decide +kernel
theorem dX7_kindOfWord_11 : decode cX7_kindOfWord 11 = .ok (.invokevirtual 70, 3) := by decide +kernel
theorem dX7_kindOfWord_14 : decode cX7_kindOfWord 14 = .ok (.if_icmp .ge 75, 3) := by decide +kernel
theorem dX7_kindOfWord_17 : decode cX7_kindOfWord 17 = .ok (.ldc 68, 2) := by decide +kernel
theorem dX7_kindOfWord_19 : decode cX7_kindOfWord 19 = .ok (.iload 4, 2) := by decide +kernel
theorem dX7_kindOfWord_21 : decode cX7_kindOfWord 21 = .ok (.invokevirtual 75, 3) := by decide +kernel
theorem dX7_kindOfWord_24 : decode cX7_kindOfWord 24 = .ok (.istore 5, 2) := by decide +kernel
theorem dX7_kindOfWord_26 : decode cX7_kindOfWord 26 = .ok (.iload 5, 2) := by decide +kernel
theorem dX7_kindOfWord_28 : decode cX7_kindOfWord 28 = .ok (.bipush 32, 2) := by decide +kernel
theorem dX7_kindOfWord_30 : decode cX7_kindOfWord 30 = .ok (.if_icmp .eq 31, 3) := by decide +kernel
theorem dX7_kindOfWord_33 : decode cX7_kindOfWord 33 = .ok (.iload_n 3, 1) := by decide +kernel
theorem dX7_kindOfWord_34 : decode cX7_kindOfWord 34 = .ok (.iconst (-1), 1) := by decide +kernel
theorem dX7_kindOfWord_35 : decode cX7_kindOfWord 35 = .ok (.if_icmp .eq 21, 3) := by decide +kernel
theorem dX7_kindOfWord_38 : decode cX7_kindOfWord 38 = .ok (.aload_n 0, 1) := by decide +kernel
theorem dX7_kindOfWord_39 : decode cX7_kindOfWord 39 = .ok (.iload_n 1, 1) := by decide +kernel
theorem dX7_kindOfWord_40 : decode cX7_kindOfWord 40 = .ok (.iload_n 3, 1) := by decide +kernel
theorem dX7_kindOfWord_41 : decode cX7_kindOfWord 41 = .ok (.iadd, 1) := by decide +kernel
theorem dX7_kindOfWord_42 : decode cX7_kindOfWord 42 = .ok (.invokevirtual 65, 3) := by decide +kernel
theorem dX7_kindOfWord_45 : decode cX7_kindOfWord 45 = .ok (.iload 5, 2) := by decide +kernel
theorem dX7_kindOfWord_47 : decode cX7_kindOfWord 47 = .ok (.if_icmp .ne 9, 3) := by decide +kernel
theorem dX7_kindOfWord_50 : decode cX7_kindOfWord 50 = .ok (.iload_n 3, 1) := by decide +kernel
theorem dX7_kindOfWord_51 : decode cX7_kindOfWord 51 = .ok (.iconst 1, 1) := by decide +kernel
theorem dX7_kindOfWord_52 : decode cX7_kindOfWord 52 = .ok (.iadd, 1) := by decide +kernel
theorem dX7_kindOfWord_53 : decode cX7_kindOfWord 53 = .ok (.goto 4, 3) := by decide +kernel
theorem dX7_kindOfWord_56 : decode cX7_kindOfWord 56 = .ok (.iconst (-1), 1) := by decide +kernel
theorem dX7_kindOfWord_57 : decode cX7_kindOfWord 57 = .ok (.istore_n 3, 1) := by decide +kernel
theorem dX7_kindOfWord_58 : decode cX7_kindOfWord 58 = .ok (.goto 25, 3) := by decide +kernel
theorem dX7_kindOfWord_61 : decode cX7_kindOfWord 61 = .ok (.iload_n 3, 1) := by decide +kernel
theorem dX7_kindOfWord_62 : decode cX7_kindOfWord 62 = .ok (.iconst (-1), 1) := by decide +kernel
theorem dX7_kindOfWord_63 : decode cX7_kindOfWord 63 = .ok (.if_icmp .eq 15, 3) := by decide +kernel
theorem dX7_kindOfWord_66 : decode cX7_kindOfWord 66 = .ok (.aload_n 0, 1) := by decide +kernel
theorem dX7_kindOfWord_67 : decode cX7_kindOfWord 67 = .ok (.iload_n 1, 1) := by decide +kernel
theorem dX7_kindOfWord_68 : decode cX7_kindOfWord 68 = .ok (.iload_n 3, 1) := by decide +kernel
theorem dX7_kindOfWord_69 : decode cX7_kindOfWord 69 = .ok (.iadd, 1) := by decide +kernel
theorem dX7_kindOfWord_70 : decode cX7_kindOfWord 70 = .ok (.invokevirtual 44, 3) := by decide +kernel
theorem dX7_kindOfWord_73 : decode cX7_kindOfWord 73 = .ok (.ifCond .ne 5, 3) := by decide +kernel
theorem dX7_kindOfWord_76 : decode cX7_kindOfWord 76 = .ok (.iload_n 2, 1) := by decide +kernel
theorem dX7_kindOfWord_77 : decode cX7_kindOfWord 77 = .ok (.ireturn, 1) := by decide +kernel
theorem dX7_kindOfWord_78 : decode cX7_kindOfWord 78 = .ok (.iinc 2 1, 3) := by decide +kernel
theorem dX7_kindOfWord_81 : decode cX7_kindOfWord 81 = .ok (.iconst 0, 1) := by decide +kernel
theorem dX7_kindOfWord_82 : decode cX7_kindOfWord 82 = .ok (.istore_n 3, 1) := by decide +kernel
theorem dX7_kindOfWord_83 : decode cX7_kindOfWord 83 = .ok (.iinc 4 1, 3) := by decide +kernel
theorem dX7_kindOfWord_86 : decode cX7_kindOfWord 86 = .ok (.goto (-79), 3) := by decide +kernel
theorem dX7_kindOfWord_89 : decode cX7_kindOfWord 89 = .ok (.bipush 17, 2) := by decide +kernel
theorem dX7_kindOfWord_91 : decode cX7_kindOfWord 91 = .ok (.ireturn, 1) := by decide +kernel
theorem dX7_nameAt_0 : decode cX7_nameAt 0 = .ok (.iconst 0, 1) := by decide +kernel
theorem dX7_nameAt_1 : decode cX7_nameAt 1 = .ok (.istore_n 2, 1) := by decide +kernel
theorem dX7_nameAt_2 : decode cX7_nameAt 2 = .ok (.iconst 0, 1) := by decide +kernel
theorem dX7_nameAt_3 : decode cX7_nameAt 3 = .ok (.istore_n 3, 1) := by decide +kernel
theorem dX7_nameAt_4 : decode cX7_nameAt 4 = .ok (.iload_n 3, 1) := by decide +kernel
theorem dX7_nameAt_5 : decode cX7_nameAt 5 = .ok (.iconst 5, 1) := by decide +kernel
theorem dX7_nameAt_6 : decode cX7_nameAt 6 = .ok (.if_icmp .ge 32, 3) := by decide +kernel
theorem dX7_nameAt_9 : decode cX7_nameAt 9 = .ok (.aload_n 0, 1) := by decide +kernel
theorem dX7_nameAt_10 : decode cX7_nameAt 10 = .ok (.iload_n 1, 1) := by decide +kernel
theorem dX7_nameAt_11 : decode cX7_nameAt 11 = .ok (.iload_n 3, 1) := by decide +kernel
theorem dX7_nameAt_12 : decode cX7_nameAt 12 = .ok (.iadd, 1) := by decide +kernel
theorem dX7_nameAt_13 : decode cX7_nameAt 13 = .ok (.invokevirtual 44, 3) := by decide +kernel
theorem dX7_nameAt_16 : decode cX7_nameAt 16 = .ok (.ifCond .eq 22, 3) := by decide +kernel
theorem dX7_nameAt_19 : decode cX7_nameAt 19 = .ok (.iload_n 2, 1) := by decide +kernel
theorem dX7_nameAt_20 : decode cX7_nameAt 20 = .ok (.iload_n 3, 1) := by decide +kernel
theorem dX7_nameAt_21 : decode cX7_nameAt 21 = .ok (.aload_n 0, 1) := by decide +kernel
theorem dX7_nameAt_22 : decode cX7_nameAt 22 = .ok (.iload_n 1, 1) := by decide +kernel
theorem dX7_nameAt_23 : decode cX7_nameAt 23 = .ok (.iload_n 3, 1) := by decide +kernel
theorem dX7_nameAt_24 : decode cX7_nameAt 24 = .ok (.iadd, 1) := by decide +kernel
theorem dX7_nameAt_25 : decode cX7_nameAt 25 = .ok (.invokevirtual 65, 3) := by decide +kernel
theorem dX7_nameAt_28 : decode cX7_nameAt 28 = .ok (.invokestatic 79, 3) := by decide +kernel
theorem dX7_nameAt_31 : decode cX7_nameAt 31 = .ok (.istore_n 2, 1) := by decide +kernel
theorem dX7_nameAt_32 : decode cX7_nameAt 32 = .ok (.iinc 3 1, 3) := by decide +kernel
theorem dX7_nameAt_35 : decode cX7_nameAt 35 = .ok (.goto (-31), 3) := by decide +kernel
theorem dX7_nameAt_38 : decode cX7_nameAt 38 = .ok (.aload_n 0, 1) := by decide +kernel
theorem dX7_nameAt_39 : decode cX7_nameAt 39 = .ok (.iload_n 1, 1) := by decide +kernel
theorem dX7_nameAt_40 : decode cX7_nameAt 40 = .ok (.iload_n 3, 1) := by decide +kernel
theorem dX7_nameAt_41 : decode cX7_nameAt 41 = .ok (.iadd, 1) := by decide +kernel
theorem dX7_nameAt_42 : decode cX7_nameAt 42 = .ok (.invokevirtual 44, 3) := by decide +kernel
theorem dX7_nameAt_45 : decode cX7_nameAt 45 = .ok (.ifCond .eq 7, 3) := by decide +kernel
theorem dX7_nameAt_48 : decode cX7_nameAt 48 = .ok (.iconst (-1), 1) := by decide +kernel
theorem dX7_nameAt_49 : decode cX7_nameAt 49 = .ok (.goto 4, 3) := by decide +kernel
theorem dX7_nameAt_52 : decode cX7_nameAt 52 = .ok (.iload_n 2, 1) := by decide +kernel
theorem dX7_nameAt_53 : decode cX7_nameAt 53 = .ok (.ireturn, 1) := by decide +kernel
theorem dX7_numberAt_0 : decode cX7_numberAt 0 = .ok (.iconst 0, 1) := by decide +kernel
theorem dX7_numberAt_1 : decode cX7_numberAt 1 = .ok (.istore_n 2, 1) := by decide +kernel
theorem dX7_numberAt_2 : decode cX7_numberAt 2 = .ok (.iload_n 1, 1) := by decide +kernel
theorem dX7_numberAt_3 : decode cX7_numberAt 3 = .ok (.istore_n 3, 1) := by decide +kernel
theorem dX7_numberAt_4 : decode cX7_numberAt 4 = .ok (.iload_n 3, 1) := by decide +kernel
theorem dX7_numberAt_5 : decode cX7_numberAt 5 = .ok (.aload_n 0, 1) := by decide +kernel
theorem dX7_numberAt_6 : decode cX7_numberAt 6 = .ok (.getfield 37, 3) := by decide +kernel
theorem dX7_numberAt_9 : decode cX7_numberAt 9 = .ok (.if_icmp .ge 38, 3) := by decide +kernel
theorem dX7_numberAt_12 : decode cX7_numberAt 12 = .ok (.aload_n 0, 1) := by decide +kernel
theorem dX7_numberAt_13 : decode cX7_numberAt 13 = .ok (.iload_n 3, 1) := by decide +kernel
theorem dX7_numberAt_14 : decode cX7_numberAt 14 = .ok (.invokevirtual 59, 3) := by decide +kernel
theorem dX7_numberAt_17 : decode cX7_numberAt 17 = .ok (.ifCond .eq 30, 3) := by decide +kernel
theorem dX7_numberAt_20 : decode cX7_numberAt 20 = .ok (.iload_n 2, 1) := by decide +kernel
theorem dX7_numberAt_21 : decode cX7_numberAt 21 = .ok (.sipush 1000, 3) := by decide +kernel
theorem dX7_numberAt_24 : decode cX7_numberAt 24 = .ok (.if_icmp .ge 23, 3) := by decide +kernel
theorem dX7_numberAt_27 : decode cX7_numberAt 27 = .ok (.iload_n 2, 1) := by decide +kernel
theorem dX7_numberAt_28 : decode cX7_numberAt 28 = .ok (.bipush 10, 2) := by decide +kernel
theorem dX7_numberAt_30 : decode cX7_numberAt 30 = .ok (.imul, 1) := by decide +kernel
theorem dX7_numberAt_31 : decode cX7_numberAt 31 = .ok (.aload_n 0, 1) := by decide +kernel
theorem dX7_numberAt_32 : decode cX7_numberAt 32 = .ok (.iload_n 3, 1) := by decide +kernel
theorem dX7_numberAt_33 : decode cX7_numberAt 33 = .ok (.invokevirtual 65, 3) := by decide +kernel
theorem dX7_numberAt_36 : decode cX7_numberAt 36 = .ok (.iadd, 1) := by decide +kernel
theorem dX7_numberAt_37 : decode cX7_numberAt 37 = .ok (.bipush 48, 2) := by decide +kernel
theorem dX7_numberAt_39 : decode cX7_numberAt 39 = .ok (.isub, 1) := by decide +kernel
theorem dX7_numberAt_40 : decode cX7_numberAt 40 = .ok (.istore_n 2, 1) := by decide +kernel
theorem dX7_numberAt_41 : decode cX7_numberAt 41 = .ok (.iinc 3 1, 3) := by decide +kernel
theorem dX7_numberAt_44 : decode cX7_numberAt 44 = .ok (.goto (-40), 3) := by decide +kernel
theorem dX7_numberAt_47 : decode cX7_numberAt 47 = .ok (.iload_n 2, 1) := by decide +kernel
theorem dX7_numberAt_48 : decode cX7_numberAt 48 = .ok (.ireturn, 1) := by decide +kernel
theorem dX7_isLetter_0 : decode cX7_isLetter 0 = .ok (.aload_n 0, 1) := by decide +kernel
theorem dX7_isLetter_1 : decode cX7_isLetter 1 = .ok (.iload_n 1, 1) := by decide +kernel
theorem dX7_isLetter_2 : decode cX7_isLetter 2 = .ok (.invokevirtual 65, 3) := by decide +kernel
theorem dX7_isLetter_5 : decode cX7_isLetter 5 = .ok (.bipush 97, 2) := by decide +kernel
theorem dX7_isLetter_7 : decode cX7_isLetter 7 = .ok (.if_icmp .lt 17, 3) := by decide +kernel
theorem dX7_isLetter_10 : decode cX7_isLetter 10 = .ok (.aload_n 0, 1) := by decide +kernel
theorem dX7_isLetter_11 : decode cX7_isLetter 11 = .ok (.iload_n 1, 1) := by decide +kernel
theorem dX7_isLetter_12 : decode cX7_isLetter 12 = .ok (.invokevirtual 65, 3) := by decide +kernel
theorem dX7_isLetter_15 : decode cX7_isLetter 15 = .ok (.bipush 122, 2) := by decide +kernel
theorem dX7_isLetter_17 : decode cX7_isLetter 17 = .ok (.if_icmp .gt 7, 3) := by decide +kernel
theorem dX7_isLetter_20 : decode cX7_isLetter 20 = .ok (.iconst 1, 1) := by decide +kernel
theorem dX7_isLetter_21 : decode cX7_isLetter 21 = .ok (.goto 4, 3) := by decide +kernel
theorem dX7_isLetter_24 : decode cX7_isLetter 24 = .ok (.iconst 0, 1) := by decide +kernel
theorem dX7_isLetter_25 : decode cX7_isLetter 25 = .ok (.ireturn, 1) := by decide +kernel
theorem dX7_isDigit_0 : decode cX7_isDigit 0 = .ok (.aload_n 0, 1) := by decide +kernel
theorem dX7_isDigit_1 : decode cX7_isDigit 1 = .ok (.iload_n 1, 1) := by decide +kernel
theorem dX7_isDigit_2 : decode cX7_isDigit 2 = .ok (.invokevirtual 65, 3) := by decide +kernel
theorem dX7_isDigit_5 : decode cX7_isDigit 5 = .ok (.bipush 48, 2) := by decide +kernel
theorem dX7_isDigit_7 : decode cX7_isDigit 7 = .ok (.if_icmp .lt 17, 3) := by decide +kernel
theorem dX7_isDigit_10 : decode cX7_isDigit 10 = .ok (.aload_n 0, 1) := by decide +kernel
theorem dX7_isDigit_11 : decode cX7_isDigit 11 = .ok (.iload_n 1, 1) := by decide +kernel
theorem dX7_isDigit_12 : decode cX7_isDigit 12 = .ok (.invokevirtual 65, 3) := by decide +kernel
theorem dX7_isDigit_15 : decode cX7_isDigit 15 = .ok (.bipush 57, 2) := by decide +kernel
theorem dX7_isDigit_17 : decode cX7_isDigit 17 = .ok (.if_icmp .gt 7, 3) := by decide +kernel
theorem dX7_isDigit_20 : decode cX7_isDigit 20 = .ok (.iconst 1, 1) := by decide +kernel
theorem dX7_isDigit_21 : decode cX7_isDigit 21 = .ok (.goto 4, 3) := by decide +kernel
theorem dX7_isDigit_24 : decode cX7_isDigit 24 = .ok (.iconst 0, 1) := by decide +kernel
theorem dX7_isDigit_25 : decode cX7_isDigit 25 = .ok (.ireturn, 1) := by decide +kernel
theorem dX7_byteAt_0 : decode cX7_byteAt 0 = .ok (.iload_n 1, 1) := by decide +kernel
theorem dX7_byteAt_1 : decode cX7_byteAt 1 = .ok (.ifCond .lt 23, 3) := by decide +kernel
theorem dX7_byteAt_4 : decode cX7_byteAt 4 = .ok (.iload_n 1, 1) := by decide +kernel
theorem dX7_byteAt_5 : decode cX7_byteAt 5 = .ok (.aload_n 0, 1) := by decide +kernel
theorem dX7_byteAt_6 : decode cX7_byteAt 6 = .ok (.getfield 37, 3) := by decide +kernel
theorem dX7_byteAt_9 : decode cX7_byteAt 9 = .ok (.if_icmp .ge 15, 3) := by decide +kernel
theorem dX7_byteAt_12 : decode cX7_byteAt 12 = .ok (.aload_n 0, 1) := by decide +kernel
theorem dX7_byteAt_13 : decode cX7_byteAt 13 = .ok (.getfield 24, 3) := by decide +kernel
theorem dX7_byteAt_16 : decode cX7_byteAt 16 = .ok (.getfield 85, 3) := by decide +kernel
theorem dX7_byteAt_19 : decode cX7_byteAt 19 = .ok (.iload_n 1, 1) := by decide +kernel
theorem dX7_byteAt_20 : decode cX7_byteAt 20 = .ok (.baload, 1) := by decide +kernel
theorem dX7_byteAt_21 : decode cX7_byteAt 21 = .ok (.goto 4, 3) := by decide +kernel
theorem dX7_byteAt_24 : decode cX7_byteAt 24 = .ok (.iconst (-1), 1) := by decide +kernel
theorem dX7_byteAt_25 : decode cX7_byteAt 25 = .ok (.ireturn, 1) := by decide +kernel
theorem dX8_init_0 : decode cX8_init 0 = .ok (.aload_n 0, 1) := by decide +kernel
theorem dX8_init_1 : decode cX8_init 1 = .ok (.invokespecial 1, 3) := by decide +kernel
theorem dX8_init_4 : decode cX8_init 4 = .ok (.aload_n 0, 1) := by decide +kernel
theorem dX8_init_5 : decode cX8_init 5 = .ok (.new 7, 3) := by decide +kernel
theorem dX8_init_8 : decode cX8_init 8 = .ok (.dup, 1) := by decide +kernel
theorem dX8_init_9 : decode cX8_init 9 = .ok (.invokespecial 9, 3) := by decide +kernel
theorem dX8_init_12 : decode cX8_init 12 = .ok (.putfield 10, 3) := by decide +kernel
theorem dX8_init_15 : decode cX8_init 15 = .ok (.aload_n 0, 1) := by decide +kernel
theorem dX8_init_16 : decode cX8_init 16 = .ok (.aload_n 0, 1) := by decide +kernel
theorem dX8_init_17 : decode cX8_init 17 = .ok (.getfield 10, 3) := by decide +kernel
theorem dX8_init_20 : decode cX8_init 20 = .ok (.getfield 16, 3) := by decide +kernel
theorem dX8_init_23 : decode cX8_init 23 = .ok (.getfield 20, 3) := by decide +kernel
theorem dX8_init_26 : decode cX8_init 26 = .ok (.putfield 26, 3) := by decide +kernel
theorem dX8_init_29 : decode cX8_init 29 = .ok (.aload_n 0, 1) := by decide +kernel
theorem dX8_init_30 : decode cX8_init 30 = .ok (.new 27, 3) := by decide +kernel
theorem dX8_init_33 : decode cX8_init 33 = .ok (.dup, 1) := by decide +kernel
theorem dX8_init_34 : decode cX8_init 34 = .ok (.invokespecial 29, 3) := by decide +kernel
theorem dX8_init_37 : decode cX8_init 37 = .ok (.putfield 30, 3) := by decide +kernel
theorem dX8_init_40 : decode cX8_init 40 = .ok (.aload_n 0, 1) := by decide +kernel
theorem dX8_init_41 : decode cX8_init 41 = .ok (.new 34, 3) := by decide +kernel
theorem dX8_init_44 : decode cX8_init 44 = .ok (.dup, 1) := by decide +kernel
theorem dX8_init_45 : decode cX8_init 45 = .ok (.invokespecial 36, 3) := by decide +kernel
theorem dX8_init_48 : decode cX8_init 48 = .ok (.putfield 37, 3) := by decide +kernel
theorem dX8_init_51 : decode cX8_init 51 = .ok (.aload_n 0, 1) := by decide +kernel
theorem dX8_init_52 : decode cX8_init 52 = .ok (.bipush 8, 2) := by decide +kernel
theorem dX8_init_54 : decode cX8_init 54 = .ok (.anewarray 41, 3) := by decide +kernel
theorem dX8_init_57 : decode cX8_init 57 = .ok (.putfield 43, 3) := by decide +kernel
theorem dX8_init_60 : decode cX8_init 60 = .ok (.iconst 0, 1) := by decide +kernel
theorem dX8_init_61 : decode cX8_init 61 = .ok (.istore_n 1, 1) := by decide +kernel
theorem dX8_init_62 : decode cX8_init 62 = .ok (.iload_n 1, 1) := by decide +kernel
theorem dX8_init_63 : decode cX8_init 63 = .ok (.bipush 8, 2) := by decide +kernel
theorem dX8_init_65 : decode cX8_init 65 = .ok (.if_icmp .ge 22, 3) := by decide +kernel
theorem dX8_init_68 : decode cX8_init 68 = .ok (.aload_n 0, 1) := by decide +kernel
theorem dX8_init_69 : decode cX8_init 69 = .ok (.getfield 43, 3) := by decide +kernel
theorem dX8_init_72 : decode cX8_init 72 = .ok (.iload_n 1, 1) := by decide +kernel
theorem dX8_init_73 : decode cX8_init 73 = .ok (.new 41, 3) := by decide +kernel
theorem dX8_init_76 : decode cX8_init 76 = .ok (.dup, 1) := by decide +kernel
theorem dX8_init_77 : decode cX8_init 77 = .ok (.invokespecial 47, 3) := by decide +kernel
theorem dX8_init_80 : decode cX8_init 80 = .ok (.aastore, 1) := by decide +kernel
theorem dX8_init_81 : decode cX8_init 81 = .ok (.iinc 1 1, 3) := by decide +kernel
theorem dX8_init_84 : decode cX8_init 84 = .ok (.goto (-22), 3) := by decide +kernel
theorem dX8_init_87 : decode cX8_init 87 = .ok (.aload_n 0, 1) := by decide +kernel
theorem dX8_init_88 : decode cX8_init 88 = .ok (.new 41, 3) := by decide +kernel
theorem dX8_init_91 : decode cX8_init 91 = .ok (.dup, 1) := by decide +kernel
theorem dX8_init_92 : decode cX8_init 92 = .ok (.invokespecial 47, 3) := by decide +kernel
theorem dX8_init_95 : decode cX8_init 95 = .ok (.putfield 48, 3) := by decide +kernel
theorem dX8_init_98 : decode cX8_init 98 = .ok (.aload_n 0, 1) := by decide +kernel
theorem dX8_init_99 : decode cX8_init 99 = .ok (.iconst (-1), 1) := by decide +kernel
theorem dX8_init_100 : decode cX8_init 100 = .ok (.putfield 52, 3) := by decide +kernel
theorem dX8_init_103 : decode cX8_init 103 = .ok (.return_, 1) := by decide +kernel
theorem dX8_feed_0 : decode cX8_feed 0 = .ok (.aload_n 0, 1) := by decide +kernel
theorem dX8_feed_1 : decode cX8_feed 1 = .ok (.getfield 26, 3) := by decide +kernel
theorem dX8_feed_4 : decode cX8_feed 4 = .ok (.invokevirtual 56, 3) := by decide +kernel
theorem dX8_feed_7 : decode cX8_feed 7 = .ok (.ifCond .ne 5, 3) := by decide +kernel
theorem dX8_feed_10 : decode cX8_feed 10 = .ok (.iconst (-1), 1) := by decide +kernel
theorem dX8_feed_11 : decode cX8_feed 11 = .ok (.ireturn, 1) := by decide +kernel
theorem dX8_feed_12 : decode cX8_feed 12 = .ok (.aload_n 0, 1) := by decide +kernel
theorem dX8_feed_13 : decode cX8_feed 13 = .ok (.getfield 26, 3) := by decide +kernel
theorem dX8_feed_16 : decode cX8_feed 16 = .ok (.iload_n 1, 1) := by decide +kernel
theorem dX8_feed_17 : decode cX8_feed 17 = .ok (.invokevirtual 62, 3) := by decide +kernel
theorem dX8_feed_20 : decode cX8_feed 20 = .ok (.aload_n 0, 1) := by decide +kernel
theorem dX8_feed_21 : decode cX8_feed 21 = .ok (.getfield 26, 3) := by decide +kernel
theorem dX8_feed_24 : decode cX8_feed 24 = .ok (.iload_n 2, 1) := by decide +kernel
theorem dX8_feed_25 : decode cX8_feed 25 = .ok (.invokevirtual 62, 3) := by decide +kernel
theorem dX8_feed_28 : decode cX8_feed 28 = .ok (.aload_n 0, 1) := by decide +kernel
theorem dX8_feed_29 : decode cX8_feed 29 = .ok (.getfield 26, 3) := by decide +kernel
theorem dX8_feed_32 : decode cX8_feed 32 = .ok (.iload_n 3, 1) := by decide +kernel
theorem dX8_feed_33 : decode cX8_feed 33 = .ok (.invokevirtual 62, 3) := by decide +kernel
theorem dX8_feed_36 : decode cX8_feed 36 = .ok (.aload_n 0, 1) := by decide +kernel
theorem dX8_feed_37 : decode cX8_feed 37 = .ok (.getfield 26, 3) := by decide +kernel
theorem dX8_feed_40 : decode cX8_feed 40 = .ok (.iload 4, 2) := by decide +kernel
theorem dX8_feed_42 : decode cX8_feed 42 = .ok (.invokevirtual 62, 3) := by decide +kernel
theorem dX8_feed_45 : decode cX8_feed 45 = .ok (.aload_n 0, 1) := by decide +kernel
theorem dX8_feed_46 : decode cX8_feed 46 = .ok (.getfield 26, 3) := by decide +kernel
theorem dX8_feed_49 : decode cX8_feed 49 = .ok (.iload 5, 2) := by decide +kernel
theorem dX8_feed_51 : decode cX8_feed 51 = .ok (.invokevirtual 62, 3) := by decide +kernel
theorem dX8_feed_54 : decode cX8_feed 54 = .ok (.aload_n 0, 1) := by decide +kernel
theorem dX8_feed_55 : decode cX8_feed 55 = .ok (.getfield 26, 3) := by decide +kernel
theorem dX8_feed_58 : decode cX8_feed 58 = .ok (.getfield 66, 3) := by decide +kernel
theorem dX8_feed_61 : decode cX8_feed 61 = .ok (.ireturn, 1) := by decide +kernel
theorem dX8_text_0 : decode cX8_text 0 = .ok (.aload_n 0, 1) := by decide +kernel
theorem dX8_text_1 : decode cX8_text 1 = .ok (.iload_n 1, 1) := by decide +kernel
theorem dX8_text_2 : decode cX8_text 2 = .ok (.iconst 0, 1) := by decide +kernel
theorem dX8_text_3 : decode cX8_text 3 = .ok (.aload_n 0, 1) := by decide +kernel
theorem dX8_text_4 : decode cX8_text 4 = .ok (.getfield 26, 3) := by decide +kernel
theorem dX8_text_7 : decode cX8_text 7 = .ok (.getfield 66, 3) := by decide +kernel
theorem dX8_text_10 : decode cX8_text 10 = .ok (.invokestatic 69, 3) := by decide +kernel
theorem dX8_text_13 : decode cX8_text 13 = .ok (.invokevirtual 73, 3) := by decide +kernel
theorem dX8_text_16 : decode cX8_text 16 = .ok (.aload_n 0, 1) := by decide +kernel
theorem dX8_text_17 : decode cX8_text 17 = .ok (.getfield 10, 3) := by decide +kernel
theorem dX8_text_20 : decode cX8_text 20 = .ok (.iload_n 1, 1) := by decide +kernel
theorem dX8_text_21 : decode cX8_text 21 = .ok (.invokevirtual 77, 3) := by decide +kernel
theorem dX8_text_24 : decode cX8_text 24 = .ok (.istore_n 2, 1) := by decide +kernel
theorem dX8_text_25 : decode cX8_text 25 = .ok (.aload_n 0, 1) := by decide +kernel
theorem dX8_text_26 : decode cX8_text 26 = .ok (.getfield 26, 3) := by decide +kernel
theorem dX8_text_29 : decode cX8_text 29 = .ok (.iconst 0, 1) := by decide +kernel
theorem dX8_text_30 : decode cX8_text 30 = .ok (.putfield 66, 3) := by decide +kernel
theorem dX8_text_33 : decode cX8_text 33 = .ok (.iload_n 2, 1) := by decide +kernel
theorem dX8_text_34 : decode cX8_text 34 = .ok (.ifCond .ne 25, 3) := by decide +kernel
theorem dX8_text_37 : decode cX8_text 37 = .ok (.aload_n 0, 1) := by decide +kernel
theorem dX8_text_38 : decode cX8_text 38 = .ok (.aload_n 0, 1) := by decide +kernel
theorem dX8_text_39 : decode cX8_text 39 = .ok (.getfield 10, 3) := by decide +kernel
theorem dX8_text_42 : decode cX8_text 42 = .ok (.getfield 81, 3) := by decide +kernel
theorem dX8_text_45 : decode cX8_text 45 = .ok (.putfield 52, 3) := by decide +kernel
theorem dX8_text_48 : decode cX8_text 48 = .ok (.aload_n 0, 1) := by decide +kernel
theorem dX8_text_49 : decode cX8_text 49 = .ok (.getfield 10, 3) := by decide +kernel
theorem dX8_text_52 : decode cX8_text 52 = .ok (.getfield 82, 3) := by decide +kernel
theorem dX8_text_55 : decode cX8_text 55 = .ok (.bipush 10, 2) := by decide +kernel
theorem dX8_text_57 : decode cX8_text 57 = .ok (.isub, 1) := by decide +kernel
theorem dX8_text_58 : decode cX8_text 58 = .ok (.ireturn, 1) := by decide +kernel
theorem dX8_text_59 : decode cX8_text 59 = .ok (.aload_n 0, 1) := by decide +kernel
theorem dX8_text_60 : decode cX8_text 60 = .ok (.iconst (-1), 1) := by decide +kernel
theorem dX8_text_61 : decode cX8_text 61 = .ok (.putfield 52, 3) := by decide +kernel
theorem dX8_text_64 : decode cX8_text 64 = .ok (.aload_n 0, 1) := by decide +kernel
theorem dX8_text_65 : decode cX8_text 65 = .ok (.invokevirtual 85, 3) := by decide +kernel
theorem dX8_text_68 : decode cX8_text 68 = .ok (.aload_n 0, 1) := by decide +kernel
theorem dX8_text_69 : decode cX8_text 69 = .ok (.getfield 48, 3) := by decide +kernel
theorem dX8_text_72 : decode cX8_text 72 = .ok (.aload_n 0, 1) := by decide +kernel
theorem dX8_text_73 : decode cX8_text 73 = .ok (.getfield 10, 3) := by decide +kernel
theorem dX8_text_76 : decode cX8_text 76 = .ok (.getfield 88, 3) := by decide +kernel
theorem dX8_text_79 : decode cX8_text 79 = .ok (.invokevirtual 91, 3) := by decide +kernel
theorem dX8_text_82 : decode cX8_text 82 = .ok (.aload_n 0, 1) := by decide +kernel
theorem dX8_text_83 : decode cX8_text 83 = .ok (.getfield 30, 3) := by decide +kernel
theorem dX8_text_86 : decode cX8_text 86 = .ok (.aload_n 0, 1) := by decide +kernel
theorem dX8_text_87 : decode cX8_text 87 = .ok (.getfield 48, 3) := by decide +kernel
theorem dX8_text_90 : decode cX8_text 90 = .ok (.invokevirtual 95, 3) := by decide +kernel
theorem dX8_text_93 : decode cX8_text 93 = .ok (.aload_n 0, 1) := by decide +kernel
theorem dX8_text_94 : decode cX8_text 94 = .ok (.getfield 48, 3) := by decide +kernel
theorem dX8_text_97 : decode cX8_text 97 = .ok (.getfield 98, 3) := by decide +kernel
theorem dX8_text_100 : decode cX8_text 100 = .ok (.ireturn, 1) := by decide +kernel
theorem dX8_fault_0 : decode cX8_fault 0 = .ok (.aload_n 0, 1) := by decide +kernel
theorem dX8_fault_1 : decode cX8_fault 1 = .ok (.getfield 52, 3) := by decide +kernel
theorem dX8_fault_4 : decode cX8_fault 4 = .ok (.ireturn, 1) := by decide +kernel
theorem dX8_sample_0 : decode cX8_sample 0 = .ok (.aload_n 0, 1) := by decide +kernel
theorem dX8_sample_1 : decode cX8_sample 1 = .ok (.iload_n 1, 1) := by decide +kernel
theorem dX8_sample_2 : decode cX8_sample 2 = .ok (.iconst 0, 1) := by decide +kernel
theorem dX8_sample_3 : decode cX8_sample 3 = .ok (.iconst 1, 1) := by decide +kernel
theorem dX8_sample_4 : decode cX8_sample 4 = .ok (.invokestatic 69, 3) := by decide +kernel
theorem dX8_sample_7 : decode cX8_sample 7 = .ok (.ifCond .eq 22, 3) := by decide +kernel
theorem dX8_sample_10 : decode cX8_sample 10 = .ok (.iload_n 2, 1) := by decide +kernel
theorem dX8_sample_11 : decode cX8_sample 11 = .ok (.iconst 1, 1) := by decide +kernel
theorem dX8_sample_12 : decode cX8_sample 12 = .ok (.aload_n 0, 1) := by decide +kernel
theorem dX8_sample_13 : decode cX8_sample 13 = .ok (.getfield 48, 3) := by decide +kernel
theorem dX8_sample_16 : decode cX8_sample 16 = .ok (.getfield 98, 3) := by decide +kernel
theorem dX8_sample_19 : decode cX8_sample 19 = .ok (.invokestatic 69, 3) := by decide +kernel
theorem dX8_sample_22 : decode cX8_sample 22 = .ok (.ifCond .eq 7, 3) := by decide +kernel
theorem dX8_sample_25 : decode cX8_sample 25 = .ok (.iconst 1, 1) := by decide +kernel
theorem dX8_sample_26 : decode cX8_sample 26 = .ok (.goto 4, 3) := by decide +kernel
theorem dX8_sample_29 : decode cX8_sample 29 = .ok (.iconst 0, 1) := by decide +kernel
theorem dX8_sample_30 : decode cX8_sample 30 = .ok (.invokevirtual 73, 3) := by decide +kernel
theorem dX8_sample_33 : decode cX8_sample 33 = .ok (.aload_n 0, 1) := by decide +kernel
theorem dX8_sample_34 : decode cX8_sample 34 = .ok (.invokevirtual 85, 3) := by decide +kernel
theorem dX8_sample_37 : decode cX8_sample 37 = .ok (.aload_n 0, 1) := by decide +kernel
theorem dX8_sample_38 : decode cX8_sample 38 = .ok (.iload_n 2, 1) := by decide +kernel
theorem dX8_sample_39 : decode cX8_sample 39 = .ok (.iload_n 3, 1) := by decide +kernel
theorem dX8_sample_40 : decode cX8_sample 40 = .ok (.invokevirtual 101, 3) := by decide +kernel
theorem dX8_sample_43 : decode cX8_sample 43 = .ok (.lstore 4, 2) := by decide +kernel
theorem dX8_sample_45 : decode cX8_sample 45 = .ok (.iload_n 1, 1) := by decide +kernel
theorem dX8_sample_46 : decode cX8_sample 46 = .ok (.ifCond .ne 15, 3) := by decide +kernel
theorem dX8_sample_49 : decode cX8_sample 49 = .ok (.aload_n 0, 1) := by decide +kernel
theorem dX8_sample_50 : decode cX8_sample 50 = .ok (.getfield 48, 3) := by decide +kernel
theorem dX8_sample_53 : decode cX8_sample 53 = .ok (.lload 4, 2) := by decide +kernel
theorem dX8_sample_55 : decode cX8_sample 55 = .ok (.putfield 105, 3) := by decide +kernel
theorem dX8_sample_58 : decode cX8_sample 58 = .ok (.goto 12, 3) := by decide +kernel
theorem dX8_sample_61 : decode cX8_sample 61 = .ok (.aload_n 0, 1) := by decide +kernel
theorem dX8_sample_62 : decode cX8_sample 62 = .ok (.getfield 48, 3) := by decide +kernel
theorem dX8_sample_65 : decode cX8_sample 65 = .ok (.lload 4, 2) := by decide +kernel
theorem dX8_sample_67 : decode cX8_sample 67 = .ok (.putfield 109, 3) := by decide +kernel
theorem dX8_sample_70 : decode cX8_sample 70 = .ok (.aload_n 0, 1) := by decide +kernel
theorem dX8_sample_71 : decode cX8_sample 71 = .ok (.getfield 30, 3) := by decide +kernel
theorem dX8_sample_74 : decode cX8_sample 74 = .ok (.lload 4, 2) := by decide +kernel
theorem dX8_sample_76 : decode cX8_sample 76 = .ok (.invokevirtual 112, 3) := by decide +kernel
theorem dX8_sample_79 : decode cX8_sample 79 = .ok (.ireturn, 1) := by decide +kernel
theorem dX8_strike_0 : decode cX8_strike 0 = .ok (.aload_n 0, 1) := by decide +kernel
theorem dX8_strike_1 : decode cX8_strike 1 = .ok (.aload_n 0, 1) := by decide +kernel
theorem dX8_strike_2 : decode cX8_strike 2 = .ok (.iload_n 1, 1) := by decide +kernel
theorem dX8_strike_3 : decode cX8_strike 3 = .ok (.invokevirtual 116, 3) := by decide +kernel
theorem dX8_strike_6 : decode cX8_strike 6 = .ok (.invokevirtual 119, 3) := by decide +kernel
theorem dX8_strike_9 : decode cX8_strike 9 = .ok (.aload_n 0, 1) := by decide +kernel
theorem dX8_strike_10 : decode cX8_strike 10 = .ok (.invokevirtual 85, 3) := by decide +kernel
theorem dX8_strike_13 : decode cX8_strike 13 = .ok (.aload_n 0, 1) := by decide +kernel
theorem dX8_strike_14 : decode cX8_strike 14 = .ok (.getfield 48, 3) := by decide +kernel
theorem dX8_strike_17 : decode cX8_strike 17 = .ok (.iload_n 1, 1) := by decide +kernel
theorem dX8_strike_18 : decode cX8_strike 18 = .ok (.invokevirtual 122, 3) := by decide +kernel
theorem dX8_strike_21 : decode cX8_strike 21 = .ok (.istore_n 3, 1) := by decide +kernel
theorem dX8_strike_22 : decode cX8_strike 22 = .ok (.iload_n 3, 1) := by decide +kernel
theorem dX8_strike_23 : decode cX8_strike 23 = .ok (.iload_n 2, 1) := by decide +kernel
theorem dX8_strike_24 : decode cX8_strike 24 = .ok (.if_icmp .ne 5, 3) := by decide +kernel
theorem dX8_strike_27 : decode cX8_strike 27 = .ok (.iconst 0, 1) := by decide +kernel
theorem dX8_strike_28 : decode cX8_strike 28 = .ok (.ireturn, 1) := by decide +kernel
theorem dX8_strike_29 : decode cX8_strike 29 = .ok (.aload_n 0, 1) := by decide +kernel
theorem dX8_strike_30 : decode cX8_strike 30 = .ok (.getfield 48, 3) := by decide +kernel
theorem dX8_strike_33 : decode cX8_strike 33 = .ok (.dup, 1) := by decide +kernel
theorem dX8_strike_34 : decode cX8_strike 34 = .ok (.getfield 125, 3) := by decide +kernel
theorem dX8_strike_37 : decode cX8_strike 37 = .ok (.iconst 1, 1) := by decide +kernel
theorem dX8_strike_38 : decode cX8_strike 38 = .ok (.iload_n 1, 1) := by decide +kernel
theorem dX8_strike_39 : decode cX8_strike 39 = .ok (.ishl, 1) := by decide +kernel
theorem dX8_strike_40 : decode cX8_strike 40 = .ok (.ixor, 1) := by decide +kernel
theorem dX8_strike_41 : decode cX8_strike 41 = .ok (.putfield 125, 3) := by decide +kernel
theorem dX8_strike_44 : decode cX8_strike 44 = .ok (.aload_n 0, 1) := by decide +kernel
theorem dX8_strike_45 : decode cX8_strike 45 = .ok (.getfield 30, 3) := by decide +kernel
theorem dX8_strike_48 : decode cX8_strike 48 = .ok (.aload_n 0, 1) := by decide +kernel
theorem dX8_strike_49 : decode cX8_strike 49 = .ok (.getfield 48, 3) := by decide +kernel
theorem dX8_strike_52 : decode cX8_strike 52 = .ok (.invokevirtual 95, 3) := by decide +kernel
theorem dX8_strike_55 : decode cX8_strike 55 = .ok (.iconst 1, 1) := by decide +kernel
theorem dX8_strike_56 : decode cX8_strike 56 = .ok (.ireturn, 1) := by decide +kernel
theorem dX8_sign_0 : decode cX8_sign 0 = .ok (.aload_n 0, 1) := by decide +kernel
theorem dX8_sign_1 : decode cX8_sign 1 = .ok (.aload_n 0, 1) := by decide +kernel
theorem dX8_sign_2 : decode cX8_sign 2 = .ok (.iload_n 1, 1) := by decide +kernel
theorem dX8_sign_3 : decode cX8_sign 3 = .ok (.invokevirtual 116, 3) := by decide +kernel
theorem dX8_sign_6 : decode cX8_sign 6 = .ok (.ifCond .eq 15, 3) := by decide +kernel
theorem dX8_sign_9 : decode cX8_sign 9 = .ok (.aload_n 0, 1) := by decide +kernel
theorem dX8_sign_10 : decode cX8_sign 10 = .ok (.iload_n 2, 1) := by decide +kernel
theorem dX8_sign_11 : decode cX8_sign 11 = .ok (.invokevirtual 128, 3) := by decide +kernel
theorem dX8_sign_14 : decode cX8_sign 14 = .ok (.ifCond .eq 7, 3) := by decide +kernel
theorem dX8_sign_17 : decode cX8_sign 17 = .ok (.iconst 1, 1) := by decide +kernel
theorem dX8_sign_18 : decode cX8_sign 18 = .ok (.goto 4, 3) := by decide +kernel
theorem dX8_sign_21 : decode cX8_sign 21 = .ok (.iconst 0, 1) := by decide +kernel
theorem dX8_sign_22 : decode cX8_sign 22 = .ok (.invokevirtual 119, 3) := by decide +kernel
theorem dX8_sign_25 : decode cX8_sign 25 = .ok (.aload_n 0, 1) := by decide +kernel
theorem dX8_sign_26 : decode cX8_sign 26 = .ok (.iload_n 3, 1) := by decide +kernel
theorem dX8_sign_27 : decode cX8_sign 27 = .ok (.iconst 0, 1) := by decide +kernel
theorem dX8_sign_28 : decode cX8_sign 28 = .ok (.sipush 999, 3) := by decide +kernel
theorem dX8_sign_31 : decode cX8_sign 31 = .ok (.invokestatic 69, 3) := by decide +kernel
theorem dX8_sign_34 : decode cX8_sign 34 = .ok (.invokevirtual 73, 3) := by decide +kernel
theorem dX8_sign_37 : decode cX8_sign 37 = .ok (.aload_n 0, 1) := by decide +kernel
theorem dX8_sign_38 : decode cX8_sign 38 = .ok (.aload_n 0, 1) := by decide +kernel
theorem dX8_sign_39 : decode cX8_sign 39 = .ok (.getfield 48, 3) := by decide +kernel
theorem dX8_sign_42 : decode cX8_sign 42 = .ok (.getfield 98, 3) := by decide +kernel
theorem dX8_sign_45 : decode cX8_sign 45 = .ok (.bipush 40, 2) := by decide +kernel
theorem dX8_sign_47 : decode cX8_sign 47 = .ok (.if_icmp .ge 7, 3) := by decide +kernel
theorem dX8_sign_50 : decode cX8_sign 50 = .ok (.iconst 1, 1) := by decide +kernel
theorem dX8_sign_51 : decode cX8_sign 51 = .ok (.goto 4, 3) := by decide +kernel
theorem dX8_sign_54 : decode cX8_sign 54 = .ok (.iconst 0, 1) := by decide +kernel
theorem dX8_sign_55 : decode cX8_sign 55 = .ok (.invokevirtual 131, 3) := by decide +kernel
theorem dX8_sign_58 : decode cX8_sign 58 = .ok (.aload_n 0, 1) := by decide +kernel
theorem dX8_sign_59 : decode cX8_sign 59 = .ok (.invokevirtual 85, 3) := by decide +kernel
theorem dX8_sign_62 : decode cX8_sign 62 = .ok (.aload_n 0, 1) := by decide +kernel
theorem dX8_sign_63 : decode cX8_sign 63 = .ok (.getfield 48, 3) := by decide +kernel
theorem dX8_sign_66 : decode cX8_sign 66 = .ok (.iload_n 1, 1) := by decide +kernel
theorem dX8_sign_67 : decode cX8_sign 67 = .ok (.invokevirtual 134, 3) := by decide +kernel
theorem dX8_sign_70 : decode cX8_sign 70 = .ok (.istore 4, 2) := by decide +kernel
theorem dX8_sign_72 : decode cX8_sign 72 = .ok (.aload_n 0, 1) := by decide +kernel
theorem dX8_sign_73 : decode cX8_sign 73 = .ok (.getfield 48, 3) := by decide +kernel
theorem dX8_sign_76 : decode cX8_sign 76 = .ok (.iload_n 1, 1) := by decide +kernel
theorem dX8_sign_77 : decode cX8_sign 77 = .ok (.aload_n 0, 1) := by decide +kernel
theorem dX8_sign_78 : decode cX8_sign 78 = .ok (.getfield 48, 3) := by decide +kernel
theorem dX8_sign_81 : decode cX8_sign 81 = .ok (.getfield 138, 3) := by decide +kernel
theorem dX8_sign_84 : decode cX8_sign 84 = .ok (.iload_n 2, 1) := by decide +kernel
theorem dX8_sign_85 : decode cX8_sign 85 = .ok (.iaload, 1) := by decide +kernel
theorem dX8_sign_86 : decode cX8_sign 86 = .ok (.aload_n 0, 1) := by decide +kernel
theorem dX8_sign_87 : decode cX8_sign 87 = .ok (.getfield 48, 3) := by decide +kernel
theorem dX8_sign_90 : decode cX8_sign 90 = .ok (.getfield 142, 3) := by decide +kernel
theorem dX8_sign_93 : decode cX8_sign 93 = .ok (.iload_n 2, 1) := by decide +kernel
theorem dX8_sign_94 : decode cX8_sign 94 = .ok (.iaload, 1) := by decide +kernel
theorem dX8_sign_95 : decode cX8_sign 95 = .ok (.iload_n 3, 1) := by decide +kernel
theorem dX8_sign_96 : decode cX8_sign 96 = .ok (.invokevirtual 145, 3) := by decide +kernel
theorem dX8_sign_99 : decode cX8_sign 99 = .ok (.aload_n 0, 1) := by decide +kernel
theorem dX8_sign_100 : decode cX8_sign 100 = .ok (.getfield 48, 3) := by decide +kernel
theorem dX8_sign_103 : decode cX8_sign 103 = .ok (.invokevirtual 149, 3) := by decide +kernel
theorem dX8_sign_106 : decode cX8_sign 106 = .ok (.aload_n 0, 1) := by decide +kernel
theorem dX8_sign_107 : decode cX8_sign 107 = .ok (.getfield 30, 3) := by decide +kernel
theorem dX8_sign_110 : decode cX8_sign 110 = .ok (.aload_n 0, 1) := by decide +kernel
theorem dX8_sign_111 : decode cX8_sign 111 = .ok (.getfield 48, 3) := by decide +kernel
theorem dX8_sign_114 : decode cX8_sign 114 = .ok (.invokevirtual 95, 3) := by decide +kernel
theorem dX8_sign_117 : decode cX8_sign 117 = .ok (.iload 4, 2) := by decide +kernel
theorem dX8_sign_119 : decode cX8_sign 119 = .ok (.ireturn, 1) := by decide +kernel
theorem dX8_erase_0 : decode cX8_erase 0 = .ok (.aload_n 0, 1) := by decide +kernel
theorem dX8_erase_1 : decode cX8_erase 1 = .ok (.aload_n 0, 1) := by decide +kernel
theorem dX8_erase_2 : decode cX8_erase 2 = .ok (.iload_n 1, 1) := by decide +kernel
theorem dX8_erase_3 : decode cX8_erase 3 = .ok (.iload_n 2, 1) := by decide +kernel
theorem dX8_erase_4 : decode cX8_erase 4 = .ok (.invokevirtual 152, 3) := by decide +kernel
theorem dX8_erase_7 : decode cX8_erase 7 = .ok (.invokevirtual 119, 3) := by decide +kernel
theorem dX8_erase_10 : decode cX8_erase 10 = .ok (.aload_n 0, 1) := by decide +kernel
theorem dX8_erase_11 : decode cX8_erase 11 = .ok (.invokevirtual 85, 3) := by decide +kernel
theorem dX8_erase_14 : decode cX8_erase 14 = .ok (.aload_n 0, 1) := by decide +kernel
theorem dX8_erase_15 : decode cX8_erase 15 = .ok (.getfield 48, 3) := by decide +kernel
theorem dX8_erase_18 : decode cX8_erase 18 = .ok (.iload_n 1, 1) := by decide +kernel
theorem dX8_erase_19 : decode cX8_erase 19 = .ok (.invokevirtual 156, 3) := by decide +kernel
theorem dX8_erase_22 : decode cX8_erase 22 = .ok (.iload_n 2, 1) := by decide +kernel
theorem dX8_erase_23 : decode cX8_erase 23 = .ok (.iadd, 1) := by decide +kernel
theorem dX8_erase_24 : decode cX8_erase 24 = .ok (.istore_n 3, 1) := by decide +kernel
theorem dX8_erase_25 : decode cX8_erase 25 = .ok (.aload_n 0, 1) := by decide +kernel
theorem dX8_erase_26 : decode cX8_erase 26 = .ok (.getfield 30, 3) := by decide +kernel
theorem dX8_erase_29 : decode cX8_erase 29 = .ok (.getfield 159, 3) := by decide +kernel
theorem dX8_erase_32 : decode cX8_erase 32 = .ok (.iload_n 3, 1) := by decide +kernel
theorem dX8_erase_33 : decode cX8_erase 33 = .ok (.iaload, 1) := by decide +kernel
theorem dX8_erase_34 : decode cX8_erase 34 = .ok (.istore 4, 2) := by decide +kernel
theorem dX8_erase_36 : decode cX8_erase 36 = .ok (.aload_n 0, 1) := by decide +kernel
theorem dX8_erase_37 : decode cX8_erase 37 = .ok (.getfield 48, 3) := by decide +kernel
theorem dX8_erase_40 : decode cX8_erase 40 = .ok (.iload_n 3, 1) := by decide +kernel
theorem dX8_erase_41 : decode cX8_erase 41 = .ok (.invokevirtual 162, 3) := by decide +kernel
theorem dX8_erase_44 : decode cX8_erase 44 = .ok (.aload_n 0, 1) := by decide +kernel
theorem dX8_erase_45 : decode cX8_erase 45 = .ok (.getfield 48, 3) := by decide +kernel
theorem dX8_erase_48 : decode cX8_erase 48 = .ok (.invokevirtual 149, 3) := by decide +kernel
theorem dX8_erase_51 : decode cX8_erase 51 = .ok (.aload_n 0, 1) := by decide +kernel
theorem dX8_erase_52 : decode cX8_erase 52 = .ok (.getfield 30, 3) := by decide +kernel
theorem dX8_erase_55 : decode cX8_erase 55 = .ok (.aload_n 0, 1) := by decide +kernel
theorem dX8_erase_56 : decode cX8_erase 56 = .ok (.getfield 48, 3) := by decide +kernel
theorem dX8_erase_59 : decode cX8_erase 59 = .ok (.invokevirtual 95, 3) := by decide +kernel
theorem dX8_erase_62 : decode cX8_erase 62 = .ok (.iload 4, 2) := by decide +kernel
theorem dX8_erase_64 : decode cX8_erase 64 = .ok (.ireturn, 1) := by decide +kernel
theorem dX8_undo_0 : decode cX8_undo 0 = .ok (.aload_n 0, 1) := by decide +kernel
theorem dX8_undo_1 : decode cX8_undo 1 = .ok (.getfield 165, 3) := by decide +kernel
theorem dX8_undo_4 : decode cX8_undo 4 = .ok (.ifCond .gt 5, 3) := by decide +kernel
theorem dX8_undo_7 : decode cX8_undo 7 = .ok (.iconst (-1), 1) := by decide +kernel
theorem dX8_undo_8 : decode cX8_undo 8 = .ok (.ireturn, 1) := by decide +kernel
theorem dX8_undo_9 : decode cX8_undo 9 = .ok (.aload_n 0, 1) := by decide +kernel
theorem dX8_undo_10 : decode cX8_undo 10 = .ok (.dup, 1) := by decide +kernel
theorem dX8_undo_11 : decode cX8_undo 11 = .ok (.getfield 165, 3) := by decide +kernel
theorem dX8_undo_14 : decode cX8_undo 14 = .ok (.iconst 1, 1) := by decide +kernel
theorem dX8_undo_15 : decode cX8_undo 15 = .ok (.isub, 1) := by decide +kernel
theorem dX8_undo_16 : decode cX8_undo 16 = .ok (.putfield 165, 3) := by decide +kernel
theorem dX8_undo_19 : decode cX8_undo 19 = .ok (.aload_n 0, 1) := by decide +kernel
theorem dX8_undo_20 : decode cX8_undo 20 = .ok (.getfield 48, 3) := by decide +kernel
theorem dX8_undo_23 : decode cX8_undo 23 = .ok (.astore_n 1, 1) := by decide +kernel
theorem dX8_undo_24 : decode cX8_undo 24 = .ok (.aload_n 0, 1) := by decide +kernel
theorem dX8_undo_25 : decode cX8_undo 25 = .ok (.aload_n 0, 1) := by decide +kernel
theorem dX8_undo_26 : decode cX8_undo 26 = .ok (.getfield 43, 3) := by decide +kernel
theorem dX8_undo_29 : decode cX8_undo 29 = .ok (.aload_n 0, 1) := by decide +kernel
theorem dX8_undo_30 : decode cX8_undo 30 = .ok (.getfield 165, 3) := by decide +kernel
theorem dX8_undo_33 : decode cX8_undo 33 = .ok (.aaload, 1) := by decide +kernel
theorem dX8_undo_34 : decode cX8_undo 34 = .ok (.putfield 48, 3) := by decide +kernel
theorem dX8_undo_37 : decode cX8_undo 37 = .ok (.aload_n 0, 1) := by decide +kernel
theorem dX8_undo_38 : decode cX8_undo 38 = .ok (.getfield 43, 3) := by decide +kernel
theorem dX8_undo_41 : decode cX8_undo 41 = .ok (.aload_n 0, 1) := by decide +kernel
theorem dX8_undo_42 : decode cX8_undo 42 = .ok (.getfield 165, 3) := by decide +kernel
theorem dX8_undo_45 : decode cX8_undo 45 = .ok (.aload_n 1, 1) := by decide +kernel
theorem dX8_undo_46 : decode cX8_undo 46 = .ok (.aastore, 1) := by decide +kernel
theorem dX8_undo_47 : decode cX8_undo 47 = .ok (.aload_n 0, 1) := by decide +kernel
theorem dX8_undo_48 : decode cX8_undo 48 = .ok (.getfield 30, 3) := by decide +kernel
theorem dX8_undo_51 : decode cX8_undo 51 = .ok (.aload_n 0, 1) := by decide +kernel
theorem dX8_undo_52 : decode cX8_undo 52 = .ok (.getfield 48, 3) := by decide +kernel
theorem dX8_undo_55 : decode cX8_undo 55 = .ok (.invokevirtual 95, 3) := by decide +kernel
theorem dX8_undo_58 : decode cX8_undo 58 = .ok (.aload_n 0, 1) := by decide +kernel
theorem dX8_undo_59 : decode cX8_undo 59 = .ok (.getfield 165, 3) := by decide +kernel
theorem dX8_undo_62 : decode cX8_undo 62 = .ok (.ireturn, 1) := by decide +kernel
theorem dX8_told_0 : decode cX8_told 0 = .ok (.aload_n 0, 1) := by decide +kernel
theorem dX8_told_1 : decode cX8_told 1 = .ok (.iload_n 1, 1) := by decide +kernel
theorem dX8_told_2 : decode cX8_told 2 = .ok (.iconst 0, 1) := by decide +kernel
theorem dX8_told_3 : decode cX8_told 3 = .ok (.bipush 10, 2) := by decide +kernel
theorem dX8_told_5 : decode cX8_told 5 = .ok (.invokestatic 69, 3) := by decide +kernel
theorem dX8_told_8 : decode cX8_told 8 = .ok (.invokevirtual 73, 3) := by decide +kernel
theorem dX8_told_11 : decode cX8_told 11 = .ok (.iload_n 1, 1) := by decide +kernel
theorem dX8_told_12 : decode cX8_told 12 = .ok (.tableswitch 136 0 9 #[56, 64, 72, 80, 88, 96, 104, 112, 120, 128], 56) := by decide +kernel
theorem dX8_told_68 : decode cX8_told 68 = .ok (.aload_n 0, 1) := by decide +kernel
theorem dX8_told_69 : decode cX8_told 69 = .ok (.getfield 48, 3) := by decide +kernel
theorem dX8_told_72 : decode cX8_told 72 = .ok (.getfield 168, 3) := by decide +kernel
theorem dX8_told_75 : decode cX8_told 75 = .ok (.ireturn, 1) := by decide +kernel
theorem dX8_told_76 : decode cX8_told 76 = .ok (.aload_n 0, 1) := by decide +kernel
theorem dX8_told_77 : decode cX8_told 77 = .ok (.getfield 48, 3) := by decide +kernel
theorem dX8_told_80 : decode cX8_told 80 = .ok (.getfield 171, 3) := by decide +kernel
theorem dX8_told_83 : decode cX8_told 83 = .ok (.ireturn, 1) := by decide +kernel
theorem dX8_told_84 : decode cX8_told 84 = .ok (.aload_n 0, 1) := by decide +kernel
theorem dX8_told_85 : decode cX8_told 85 = .ok (.getfield 48, 3) := by decide +kernel
theorem dX8_told_88 : decode cX8_told 88 = .ok (.getfield 98, 3) := by decide +kernel
theorem dX8_told_91 : decode cX8_told 91 = .ok (.ireturn, 1) := by decide +kernel
theorem dX8_told_92 : decode cX8_told 92 = .ok (.aload_n 0, 1) := by decide +kernel
theorem dX8_told_93 : decode cX8_told 93 = .ok (.getfield 48, 3) := by decide +kernel
theorem dX8_told_96 : decode cX8_told 96 = .ok (.getfield 174, 3) := by decide +kernel
theorem dX8_told_99 : decode cX8_told 99 = .ok (.ireturn, 1) := by decide +kernel
theorem dX8_told_100 : decode cX8_told 100 = .ok (.aload_n 0, 1) := by decide +kernel
theorem dX8_told_101 : decode cX8_told 101 = .ok (.getfield 48, 3) := by decide +kernel
theorem dX8_told_104 : decode cX8_told 104 = .ok (.getfield 177, 3) := by decide +kernel
theorem dX8_told_107 : decode cX8_told 107 = .ok (.ireturn, 1) := by decide +kernel
theorem dX8_told_108 : decode cX8_told 108 = .ok (.aload_n 0, 1) := by decide +kernel
theorem dX8_told_109 : decode cX8_told 109 = .ok (.getfield 48, 3) := by decide +kernel
theorem dX8_told_112 : decode cX8_told 112 = .ok (.getfield 180, 3) := by decide +kernel
theorem dX8_told_115 : decode cX8_told 115 = .ok (.ireturn, 1) := by decide +kernel
theorem dX8_told_116 : decode cX8_told 116 = .ok (.aload_n 0, 1) := by decide +kernel
theorem dX8_told_117 : decode cX8_told 117 = .ok (.getfield 48, 3) := by decide +kernel
theorem dX8_told_120 : decode cX8_told 120 = .ok (.getfield 183, 3) := by decide +kernel
theorem dX8_told_123 : decode cX8_told 123 = .ok (.ireturn, 1) := by decide +kernel
theorem dX8_told_124 : decode cX8_told 124 = .ok (.aload_n 0, 1) := by decide +kernel
theorem dX8_told_125 : decode cX8_told 125 = .ok (.getfield 48, 3) := by decide +kernel
theorem dX8_told_128 : decode cX8_told 128 = .ok (.getfield 186, 3) := by decide +kernel
theorem dX8_told_131 : decode cX8_told 131 = .ok (.ireturn, 1) := by decide +kernel
theorem dX8_told_132 : decode cX8_told 132 = .ok (.aload_n 0, 1) := by decide +kernel
theorem dX8_told_133 : decode cX8_told 133 = .ok (.getfield 30, 3) := by decide +kernel
theorem dX8_told_136 : decode cX8_told 136 = .ok (.getfield 189, 3) := by decide +kernel
theorem dX8_told_139 : decode cX8_told 139 = .ok (.ireturn, 1) := by decide +kernel
theorem dX8_told_140 : decode cX8_told 140 = .ok (.aload_n 0, 1) := by decide +kernel
theorem dX8_told_141 : decode cX8_told 141 = .ok (.getfield 26, 3) := by decide +kernel
theorem dX8_told_144 : decode cX8_told 144 = .ok (.getfield 66, 3) := by decide +kernel
theorem dX8_told_147 : decode cX8_told 147 = .ok (.ireturn, 1) := by decide +kernel
theorem dX8_told_148 : decode cX8_told 148 = .ok (.aload_n 0, 1) := by decide +kernel
theorem dX8_told_149 : decode cX8_told 149 = .ok (.getfield 165, 3) := by decide +kernel
theorem dX8_told_152 : decode cX8_told 152 = .ok (.ireturn, 1) := by decide +kernel
theorem dX8_voter_0 : decode cX8_voter 0 = .ok (.aload_n 0, 1) := by decide +kernel
theorem dX8_voter_1 : decode cX8_voter 1 = .ok (.aload_n 0, 1) := by decide +kernel
theorem dX8_voter_2 : decode cX8_voter 2 = .ok (.iload_n 1, 1) := by decide +kernel
theorem dX8_voter_3 : decode cX8_voter 3 = .ok (.invokevirtual 128, 3) := by decide +kernel
theorem dX8_voter_6 : decode cX8_voter 6 = .ok (.invokevirtual 119, 3) := by decide +kernel
theorem dX8_voter_9 : decode cX8_voter 9 = .ok (.aload_n 0, 1) := by decide +kernel
theorem dX8_voter_10 : decode cX8_voter 10 = .ok (.iload_n 2, 1) := by decide +kernel
theorem dX8_voter_11 : decode cX8_voter 11 = .ok (.iconst 0, 1) := by decide +kernel
theorem dX8_voter_12 : decode cX8_voter 12 = .ok (.iconst 3, 1) := by decide +kernel
theorem dX8_voter_13 : decode cX8_voter 13 = .ok (.invokestatic 69, 3) := by decide +kernel
theorem dX8_voter_16 : decode cX8_voter 16 = .ok (.invokevirtual 73, 3) := by decide +kernel
theorem dX8_voter_19 : decode cX8_voter 19 = .ok (.iload_n 2, 1) := by decide +kernel
theorem dX8_voter_20 : decode cX8_voter 20 = .ok (.tableswitch 57 0 2 #[28, 38, 48], 28) := by decide +kernel
theorem dX8_voter_48 : decode cX8_voter 48 = .ok (.aload_n 0, 1) := by decide +kernel
theorem dX8_voter_49 : decode cX8_voter 49 = .ok (.getfield 48, 3) := by decide +kernel
theorem dX8_voter_52 : decode cX8_voter 52 = .ok (.getfield 142, 3) := by decide +kernel
theorem dX8_voter_55 : decode cX8_voter 55 = .ok (.iload_n 1, 1) := by decide +kernel
theorem dX8_voter_56 : decode cX8_voter 56 = .ok (.iaload, 1) := by decide +kernel
theorem dX8_voter_57 : decode cX8_voter 57 = .ok (.ireturn, 1) := by decide +kernel
theorem dX8_voter_58 : decode cX8_voter 58 = .ok (.aload_n 0, 1) := by decide +kernel
theorem dX8_voter_59 : decode cX8_voter 59 = .ok (.getfield 48, 3) := by decide +kernel
theorem dX8_voter_62 : decode cX8_voter 62 = .ok (.getfield 192, 3) := by decide +kernel
theorem dX8_voter_65 : decode cX8_voter 65 = .ok (.iload_n 1, 1) := by decide +kernel
theorem dX8_voter_66 : decode cX8_voter 66 = .ok (.iaload, 1) := by decide +kernel
theorem dX8_voter_67 : decode cX8_voter 67 = .ok (.ireturn, 1) := by decide +kernel
theorem dX8_voter_68 : decode cX8_voter 68 = .ok (.aload_n 0, 1) := by decide +kernel
theorem dX8_voter_69 : decode cX8_voter 69 = .ok (.getfield 30, 3) := by decide +kernel
theorem dX8_voter_72 : decode cX8_voter 72 = .ok (.iload_n 1, 1) := by decide +kernel
theorem dX8_voter_73 : decode cX8_voter 73 = .ok (.invokevirtual 195, 3) := by decide +kernel
theorem dX8_voter_76 : decode cX8_voter 76 = .ok (.ireturn, 1) := by decide +kernel
theorem dX8_voter_77 : decode cX8_voter 77 = .ok (.aload_n 0, 1) := by decide +kernel
theorem dX8_voter_78 : decode cX8_voter 78 = .ok (.getfield 30, 3) := by decide +kernel
theorem dX8_voter_81 : decode cX8_voter 81 = .ok (.iload_n 1, 1) := by decide +kernel
theorem dX8_voter_82 : decode cX8_voter 82 = .ok (.invokevirtual 198, 3) := by decide +kernel
theorem dX8_voter_85 : decode cX8_voter 85 = .ok (.ireturn, 1) := by decide +kernel
theorem dX8_letter_0 : decode cX8_letter 0 = .ok (.aload_n 0, 1) := by decide +kernel
theorem dX8_letter_1 : decode cX8_letter 1 = .ok (.aload_n 0, 1) := by decide +kernel
theorem dX8_letter_2 : decode cX8_letter 2 = .ok (.iload_n 1, 1) := by decide +kernel
theorem dX8_letter_3 : decode cX8_letter 3 = .ok (.invokevirtual 128, 3) := by decide +kernel
theorem dX8_letter_6 : decode cX8_letter 6 = .ok (.ifCond .eq 27, 3) := by decide +kernel
theorem dX8_letter_9 : decode cX8_letter 9 = .ok (.iload_n 2, 1) := by decide +kernel
theorem dX8_letter_10 : decode cX8_letter 10 = .ok (.ifCond .lt 23, 3) := by decide +kernel
theorem dX8_letter_13 : decode cX8_letter 13 = .ok (.iload_n 2, 1) := by decide +kernel
theorem dX8_letter_14 : decode cX8_letter 14 = .ok (.aload_n 0, 1) := by decide +kernel
theorem dX8_letter_15 : decode cX8_letter 15 = .ok (.getfield 48, 3) := by decide +kernel
theorem dX8_letter_18 : decode cX8_letter 18 = .ok (.getfield 138, 3) := by decide +kernel
theorem dX8_letter_21 : decode cX8_letter 21 = .ok (.iload_n 1, 1) := by decide +kernel
theorem dX8_letter_22 : decode cX8_letter 22 = .ok (.iaload, 1) := by decide +kernel
theorem dX8_letter_23 : decode cX8_letter 23 = .ok (.invokestatic 201, 3) := by decide +kernel
theorem dX8_letter_26 : decode cX8_letter 26 = .ok (.if_icmp .ge 7, 3) := by decide +kernel
theorem dX8_letter_29 : decode cX8_letter 29 = .ok (.iconst 1, 1) := by decide +kernel
theorem dX8_letter_30 : decode cX8_letter 30 = .ok (.goto 4, 3) := by decide +kernel
theorem dX8_letter_33 : decode cX8_letter 33 = .ok (.iconst 0, 1) := by decide +kernel
theorem dX8_letter_34 : decode cX8_letter 34 = .ok (.invokevirtual 119, 3) := by decide +kernel
theorem dX8_letter_37 : decode cX8_letter 37 = .ok (.aload_n 0, 1) := by decide +kernel
theorem dX8_letter_38 : decode cX8_letter 38 = .ok (.getfield 48, 3) := by decide +kernel
theorem dX8_letter_41 : decode cX8_letter 41 = .ok (.getfield 138, 3) := by decide +kernel
theorem dX8_letter_44 : decode cX8_letter 44 = .ok (.iload_n 1, 1) := by decide +kernel
theorem dX8_letter_45 : decode cX8_letter 45 = .ok (.iaload, 1) := by decide +kernel
theorem dX8_letter_46 : decode cX8_letter 46 = .ok (.iload_n 2, 1) := by decide +kernel
theorem dX8_letter_47 : decode cX8_letter 47 = .ok (.invokestatic 206, 3) := by decide +kernel
theorem dX8_letter_50 : decode cX8_letter 50 = .ok (.ireturn, 1) := by decide +kernel
theorem dX8_sheet_0 : decode cX8_sheet 0 = .ok (.aload_n 0, 1) := by decide +kernel
theorem dX8_sheet_1 : decode cX8_sheet 1 = .ok (.aload_n 0, 1) := by decide +kernel
theorem dX8_sheet_2 : decode cX8_sheet 2 = .ok (.iload_n 1, 1) := by decide +kernel
theorem dX8_sheet_3 : decode cX8_sheet 3 = .ok (.invokevirtual 116, 3) := by decide +kernel
theorem dX8_sheet_6 : decode cX8_sheet 6 = .ok (.invokevirtual 119, 3) := by decide +kernel
theorem dX8_sheet_9 : decode cX8_sheet 9 = .ok (.aload_n 0, 1) := by decide +kernel
theorem dX8_sheet_10 : decode cX8_sheet 10 = .ok (.iload_n 2, 1) := by decide +kernel
theorem dX8_sheet_11 : decode cX8_sheet 11 = .ok (.iconst 0, 1) := by decide +kernel
theorem dX8_sheet_12 : decode cX8_sheet 12 = .ok (.bipush 8, 2) := by decide +kernel
theorem dX8_sheet_14 : decode cX8_sheet 14 = .ok (.invokestatic 69, 3) := by decide +kernel
theorem dX8_sheet_17 : decode cX8_sheet 17 = .ok (.invokevirtual 73, 3) := by decide +kernel
theorem dX8_sheet_20 : decode cX8_sheet 20 = .ok (.aload_n 0, 1) := by decide +kernel
theorem dX8_sheet_21 : decode cX8_sheet 21 = .ok (.getfield 48, 3) := by decide +kernel
theorem dX8_sheet_24 : decode cX8_sheet 24 = .ok (.iload_n 1, 1) := by decide +kernel
theorem dX8_sheet_25 : decode cX8_sheet 25 = .ok (.invokevirtual 156, 3) := by decide +kernel
theorem dX8_sheet_28 : decode cX8_sheet 28 = .ok (.istore_n 3, 1) := by decide +kernel
theorem dX8_sheet_29 : decode cX8_sheet 29 = .ok (.aload_n 0, 1) := by decide +kernel
theorem dX8_sheet_30 : decode cX8_sheet 30 = .ok (.getfield 48, 3) := by decide +kernel
theorem dX8_sheet_33 : decode cX8_sheet 33 = .ok (.iload_n 1, 1) := by decide +kernel
theorem dX8_sheet_34 : decode cX8_sheet 34 = .ok (.iconst 1, 1) := by decide +kernel
theorem dX8_sheet_35 : decode cX8_sheet 35 = .ok (.iadd, 1) := by decide +kernel
theorem dX8_sheet_36 : decode cX8_sheet 36 = .ok (.invokevirtual 156, 3) := by decide +kernel
theorem dX8_sheet_39 : decode cX8_sheet 39 = .ok (.istore 4, 2) := by decide +kernel
theorem dX8_sheet_41 : decode cX8_sheet 41 = .ok (.iload_n 2, 1) := by decide +kernel
theorem dX8_sheet_42 : decode cX8_sheet 42 = .ok (.tableswitch 60 0 2 #[26, 31, 43], 26) := by decide +kernel
theorem dX8_sheet_68 : decode cX8_sheet 68 = .ok (.iload 4, 2) := by decide +kernel
theorem dX8_sheet_70 : decode cX8_sheet 70 = .ok (.iload_n 3, 1) := by decide +kernel
theorem dX8_sheet_71 : decode cX8_sheet 71 = .ok (.isub, 1) := by decide +kernel
theorem dX8_sheet_72 : decode cX8_sheet 72 = .ok (.ireturn, 1) := by decide +kernel
theorem dX8_sheet_73 : decode cX8_sheet 73 = .ok (.aload_n 0, 1) := by decide +kernel
theorem dX8_sheet_74 : decode cX8_sheet 74 = .ok (.getfield 30, 3) := by decide +kernel
theorem dX8_sheet_77 : decode cX8_sheet 77 = .ok (.getfield 189, 3) := by decide +kernel
theorem dX8_sheet_80 : decode cX8_sheet 80 = .ok (.iload_n 1, 1) := by decide +kernel
theorem dX8_sheet_81 : decode cX8_sheet 81 = .ok (.ishr, 1) := by decide +kernel
theorem dX8_sheet_82 : decode cX8_sheet 82 = .ok (.iconst 1, 1) := by decide +kernel
theorem dX8_sheet_83 : decode cX8_sheet 83 = .ok (.iand, 1) := by decide +kernel
theorem dX8_sheet_84 : decode cX8_sheet 84 = .ok (.ireturn, 1) := by decide +kernel
theorem dX8_sheet_85 : decode cX8_sheet 85 = .ok (.aload_n 0, 1) := by decide +kernel
theorem dX8_sheet_86 : decode cX8_sheet 86 = .ok (.getfield 48, 3) := by decide +kernel
theorem dX8_sheet_89 : decode cX8_sheet 89 = .ok (.iload_n 1, 1) := by decide +kernel
theorem dX8_sheet_90 : decode cX8_sheet 90 = .ok (.invokevirtual 122, 3) := by decide +kernel
theorem dX8_sheet_93 : decode cX8_sheet 93 = .ok (.ifCond .eq 7, 3) := by decide +kernel
theorem dX8_sheet_96 : decode cX8_sheet 96 = .ok (.iconst 1, 1) := by decide +kernel
theorem dX8_sheet_97 : decode cX8_sheet 97 = .ok (.goto 4, 3) := by decide +kernel
theorem dX8_sheet_100 : decode cX8_sheet 100 = .ok (.iconst 0, 1) := by decide +kernel
theorem dX8_sheet_101 : decode cX8_sheet 101 = .ok (.ireturn, 1) := by decide +kernel
theorem dX8_sheet_102 : decode cX8_sheet 102 = .ok (.aload_n 0, 1) := by decide +kernel
theorem dX8_sheet_103 : decode cX8_sheet 103 = .ok (.getfield 30, 3) := by decide +kernel
theorem dX8_sheet_106 : decode cX8_sheet 106 = .ok (.iload_n 2, 1) := by decide +kernel
theorem dX8_sheet_107 : decode cX8_sheet 107 = .ok (.iconst 3, 1) := by decide +kernel
theorem dX8_sheet_108 : decode cX8_sheet 108 = .ok (.isub, 1) := by decide +kernel
theorem dX8_sheet_109 : decode cX8_sheet 109 = .ok (.iload_n 3, 1) := by decide +kernel
theorem dX8_sheet_110 : decode cX8_sheet 110 = .ok (.iload 4, 2) := by decide +kernel
theorem dX8_sheet_112 : decode cX8_sheet 112 = .ok (.invokevirtual 210, 3) := by decide +kernel
theorem dX8_sheet_115 : decode cX8_sheet 115 = .ok (.ireturn, 1) := by decide +kernel
theorem dX8_line_0 : decode cX8_line 0 = .ok (.aload_n 0, 1) := by decide +kernel
theorem dX8_line_1 : decode cX8_line 1 = .ok (.aload_n 0, 1) := by decide +kernel
theorem dX8_line_2 : decode cX8_line 2 = .ok (.iload_n 1, 1) := by decide +kernel
theorem dX8_line_3 : decode cX8_line 3 = .ok (.iload_n 2, 1) := by decide +kernel
theorem dX8_line_4 : decode cX8_line 4 = .ok (.invokevirtual 152, 3) := by decide +kernel
theorem dX8_line_7 : decode cX8_line 7 = .ok (.invokevirtual 119, 3) := by decide +kernel
theorem dX8_line_10 : decode cX8_line 10 = .ok (.aload_n 0, 1) := by decide +kernel
theorem dX8_line_11 : decode cX8_line 11 = .ok (.iload_n 3, 1) := by decide +kernel
theorem dX8_line_12 : decode cX8_line 12 = .ok (.iconst 0, 1) := by decide +kernel
theorem dX8_line_13 : decode cX8_line 13 = .ok (.iconst 5, 1) := by decide +kernel
theorem dX8_line_14 : decode cX8_line 14 = .ok (.invokestatic 69, 3) := by decide +kernel
theorem dX8_line_17 : decode cX8_line 17 = .ok (.invokevirtual 73, 3) := by decide +kernel
theorem dX8_line_20 : decode cX8_line 20 = .ok (.aload_n 0, 1) := by decide +kernel
theorem dX8_line_21 : decode cX8_line 21 = .ok (.getfield 48, 3) := by decide +kernel
theorem dX8_line_24 : decode cX8_line 24 = .ok (.iload_n 1, 1) := by decide +kernel
theorem dX8_line_25 : decode cX8_line 25 = .ok (.invokevirtual 156, 3) := by decide +kernel
theorem dX8_line_28 : decode cX8_line 28 = .ok (.iload_n 2, 1) := by decide +kernel
theorem dX8_line_29 : decode cX8_line 29 = .ok (.iadd, 1) := by decide +kernel
theorem dX8_line_30 : decode cX8_line 30 = .ok (.istore 4, 2) := by decide +kernel
theorem dX8_line_32 : decode cX8_line 32 = .ok (.iload_n 3, 1) := by decide +kernel
theorem dX8_line_33 : decode cX8_line 33 = .ok (.tableswitch 93 0 4 #[35, 46, 57, 68, 79], 35) := by decide +kernel
theorem dX8_line_68 : decode cX8_line 68 = .ok (.aload_n 0, 1) := by decide +kernel
theorem dX8_line_69 : decode cX8_line 69 = .ok (.getfield 48, 3) := by decide +kernel
theorem dX8_line_72 : decode cX8_line 72 = .ok (.getfield 214, 3) := by decide +kernel
theorem dX8_line_75 : decode cX8_line 75 = .ok (.iload 4, 2) := by decide +kernel
theorem dX8_line_77 : decode cX8_line 77 = .ok (.iaload, 1) := by decide +kernel
theorem dX8_line_78 : decode cX8_line 78 = .ok (.ireturn, 1) := by decide +kernel
theorem dX8_line_79 : decode cX8_line 79 = .ok (.aload_n 0, 1) := by decide +kernel
theorem dX8_line_80 : decode cX8_line 80 = .ok (.getfield 48, 3) := by decide +kernel
theorem dX8_line_83 : decode cX8_line 83 = .ok (.getfield 217, 3) := by decide +kernel
theorem dX8_line_86 : decode cX8_line 86 = .ok (.iload 4, 2) := by decide +kernel
theorem dX8_line_88 : decode cX8_line 88 = .ok (.iaload, 1) := by decide +kernel
theorem dX8_line_89 : decode cX8_line 89 = .ok (.ireturn, 1) := by decide +kernel
theorem dX8_line_90 : decode cX8_line 90 = .ok (.aload_n 0, 1) := by decide +kernel
theorem dX8_line_91 : decode cX8_line 91 = .ok (.getfield 30, 3) := by decide +kernel
theorem dX8_line_94 : decode cX8_line 94 = .ok (.getfield 220, 3) := by decide +kernel
theorem dX8_line_97 : decode cX8_line 97 = .ok (.iload 4, 2) := by decide +kernel
theorem dX8_line_99 : decode cX8_line 99 = .ok (.iaload, 1) := by decide +kernel
theorem dX8_line_100 : decode cX8_line 100 = .ok (.ireturn, 1) := by decide +kernel
theorem dX8_line_101 : decode cX8_line 101 = .ok (.aload_n 0, 1) := by decide +kernel
theorem dX8_line_102 : decode cX8_line 102 = .ok (.getfield 30, 3) := by decide +kernel
theorem dX8_line_105 : decode cX8_line 105 = .ok (.getfield 159, 3) := by decide +kernel
theorem dX8_line_108 : decode cX8_line 108 = .ok (.iload 4, 2) := by decide +kernel
theorem dX8_line_110 : decode cX8_line 110 = .ok (.iaload, 1) := by decide +kernel
theorem dX8_line_111 : decode cX8_line 111 = .ok (.ireturn, 1) := by decide +kernel
theorem dX8_line_112 : decode cX8_line 112 = .ok (.aload_n 0, 1) := by decide +kernel
theorem dX8_line_113 : decode cX8_line 113 = .ok (.getfield 48, 3) := by decide +kernel
theorem dX8_line_116 : decode cX8_line 116 = .ok (.getfield 105, 3) := by decide +kernel
theorem dX8_line_119 : decode cX8_line 119 = .ok (.iload 4, 2) := by decide +kernel
theorem dX8_line_121 : decode cX8_line 121 = .ok (.lshr, 1) := by decide +kernel
theorem dX8_line_122 : decode cX8_line 122 = .ok (.lconst 1, 1) := by decide +kernel
theorem dX8_line_123 : decode cX8_line 123 = .ok (.land, 1) := by decide +kernel
theorem dX8_line_124 : decode cX8_line 124 = .ok (.l2i, 1) := by decide +kernel
theorem dX8_line_125 : decode cX8_line 125 = .ok (.ireturn, 1) := by decide +kernel
theorem dX8_line_126 : decode cX8_line 126 = .ok (.aload_n 0, 1) := by decide +kernel
theorem dX8_line_127 : decode cX8_line 127 = .ok (.getfield 48, 3) := by decide +kernel
theorem dX8_line_130 : decode cX8_line 130 = .ok (.getfield 109, 3) := by decide +kernel
theorem dX8_line_133 : decode cX8_line 133 = .ok (.iload 4, 2) := by decide +kernel
theorem dX8_line_135 : decode cX8_line 135 = .ok (.lshr, 1) := by decide +kernel
theorem dX8_line_136 : decode cX8_line 136 = .ok (.lconst 1, 1) := by decide +kernel
theorem dX8_line_137 : decode cX8_line 137 = .ok (.land, 1) := by decide +kernel
theorem dX8_line_138 : decode cX8_line 138 = .ok (.l2i, 1) := by decide +kernel
theorem dX8_line_139 : decode cX8_line 139 = .ok (.ireturn, 1) := by decide +kernel
theorem dX8_judged_0 : decode cX8_judged 0 = .ok (.aload_n 0, 1) := by decide +kernel
theorem dX8_judged_1 : decode cX8_judged 1 = .ok (.iload_n 1, 1) := by decide +kernel
theorem dX8_judged_2 : decode cX8_judged 2 = .ok (.iconst 0, 1) := by decide +kernel
theorem dX8_judged_3 : decode cX8_judged 3 = .ok (.iconst 5, 1) := by decide +kernel
theorem dX8_judged_4 : decode cX8_judged 4 = .ok (.invokestatic 69, 3) := by decide +kernel
theorem dX8_judged_7 : decode cX8_judged 7 = .ok (.invokevirtual 73, 3) := by decide +kernel
theorem dX8_judged_10 : decode cX8_judged 10 = .ok (.aload_n 0, 1) := by decide +kernel
theorem dX8_judged_11 : decode cX8_judged 11 = .ok (.getfield 30, 3) := by decide +kernel
theorem dX8_judged_14 : decode cX8_judged 14 = .ok (.iload_n 1, 1) := by decide +kernel
theorem dX8_judged_15 : decode cX8_judged 15 = .ok (.iconst 0, 1) := by decide +kernel
theorem dX8_judged_16 : decode cX8_judged 16 = .ok (.aload_n 0, 1) := by decide +kernel
theorem dX8_judged_17 : decode cX8_judged 17 = .ok (.getfield 48, 3) := by decide +kernel
theorem dX8_judged_20 : decode cX8_judged 20 = .ok (.getfield 98, 3) := by decide +kernel
theorem dX8_judged_23 : decode cX8_judged 23 = .ok (.invokevirtual 210, 3) := by decide +kernel
theorem dX8_judged_26 : decode cX8_judged 26 = .ok (.ireturn, 1) := by decide +kernel
theorem dX8_passes_0 : decode cX8_passes 0 = .ok (.aload_n 0, 1) := by decide +kernel
theorem dX8_passes_1 : decode cX8_passes 1 = .ok (.getfield 30, 3) := by decide +kernel
theorem dX8_passes_4 : decode cX8_passes 4 = .ok (.iconst 0, 1) := by decide +kernel
theorem dX8_passes_5 : decode cX8_passes 5 = .ok (.iconst 0, 1) := by decide +kernel
theorem dX8_passes_6 : decode cX8_passes 6 = .ok (.aload_n 0, 1) := by decide +kernel
theorem dX8_passes_7 : decode cX8_passes 7 = .ok (.getfield 48, 3) := by decide +kernel
theorem dX8_passes_10 : decode cX8_passes 10 = .ok (.getfield 98, 3) := by decide +kernel
theorem dX8_passes_13 : decode cX8_passes 13 = .ok (.invokevirtual 210, 3) := by decide +kernel
theorem dX8_passes_16 : decode cX8_passes 16 = .ok (.aload_n 0, 1) := by decide +kernel
theorem dX8_passes_17 : decode cX8_passes 17 = .ok (.getfield 48, 3) := by decide +kernel
theorem dX8_passes_20 : decode cX8_passes 20 = .ok (.getfield 174, 3) := by decide +kernel
theorem dX8_passes_23 : decode cX8_passes 23 = .ok (.if_icmp .lt 7, 3) := by decide +kernel
theorem dX8_passes_26 : decode cX8_passes 26 = .ok (.iconst 1, 1) := by decide +kernel
theorem dX8_passes_27 : decode cX8_passes 27 = .ok (.goto 4, 3) := by decide +kernel
theorem dX8_passes_30 : decode cX8_passes 30 = .ok (.iconst 0, 1) := by decide +kernel
theorem dX8_passes_31 : decode cX8_passes 31 = .ok (.ireturn, 1) := by decide +kernel
theorem dX8_drawn_0 : decode cX8_drawn 0 = .ok (.aload_n 0, 1) := by decide +kernel
theorem dX8_drawn_1 : decode cX8_drawn 1 = .ok (.iload_n 1, 1) := by decide +kernel
theorem dX8_drawn_2 : decode cX8_drawn 2 = .ok (.iconst 0, 1) := by decide +kernel
theorem dX8_drawn_3 : decode cX8_drawn 3 = .ok (.iconst 1, 1) := by decide +kernel
theorem dX8_drawn_4 : decode cX8_drawn 4 = .ok (.invokestatic 69, 3) := by decide +kernel
theorem dX8_drawn_7 : decode cX8_drawn 7 = .ok (.ifCond .eq 16, 3) := by decide +kernel
theorem dX8_drawn_10 : decode cX8_drawn 10 = .ok (.iload_n 2, 1) := by decide +kernel
theorem dX8_drawn_11 : decode cX8_drawn 11 = .ok (.iconst 0, 1) := by decide +kernel
theorem dX8_drawn_12 : decode cX8_drawn 12 = .ok (.iconst 5, 1) := by decide +kernel
theorem dX8_drawn_13 : decode cX8_drawn 13 = .ok (.invokestatic 69, 3) := by decide +kernel
theorem dX8_drawn_16 : decode cX8_drawn 16 = .ok (.ifCond .eq 7, 3) := by decide +kernel
theorem dX8_drawn_19 : decode cX8_drawn 19 = .ok (.iconst 1, 1) := by decide +kernel
theorem dX8_drawn_20 : decode cX8_drawn 20 = .ok (.goto 4, 3) := by decide +kernel
theorem dX8_drawn_23 : decode cX8_drawn 23 = .ok (.iconst 0, 1) := by decide +kernel
theorem dX8_drawn_24 : decode cX8_drawn 24 = .ok (.invokevirtual 73, 3) := by decide +kernel
theorem dX8_drawn_27 : decode cX8_drawn 27 = .ok (.aload_n 0, 1) := by decide +kernel
theorem dX8_drawn_28 : decode cX8_drawn 28 = .ok (.iload_n 1, 1) := by decide +kernel
theorem dX8_drawn_29 : decode cX8_drawn 29 = .ok (.invokevirtual 223, 3) := by decide +kernel
theorem dX8_drawn_32 : decode cX8_drawn 32 = .ok (.lstore_n 3, 1) := by decide +kernel
theorem dX8_drawn_33 : decode cX8_drawn 33 = .ok (.lload_n 3, 1) := by decide +kernel
theorem dX8_drawn_34 : decode cX8_drawn 34 = .ok (.invokestatic 227, 3) := by decide +kernel
theorem dX8_drawn_37 : decode cX8_drawn 37 = .ok (.istore 5, 2) := by decide +kernel
theorem dX8_drawn_39 : decode cX8_drawn 39 = .ok (.aload_n 0, 1) := by decide +kernel
theorem dX8_drawn_40 : decode cX8_drawn 40 = .ok (.getfield 30, 3) := by decide +kernel
theorem dX8_drawn_43 : decode cX8_drawn 43 = .ok (.lload_n 3, 1) := by decide +kernel
theorem dX8_drawn_44 : decode cX8_drawn 44 = .ok (.invokevirtual 112, 3) := by decide +kernel
theorem dX8_drawn_47 : decode cX8_drawn 47 = .ok (.istore 6, 2) := by decide +kernel
theorem dX8_drawn_49 : decode cX8_drawn 49 = .ok (.iload_n 2, 1) := by decide +kernel
theorem dX8_drawn_50 : decode cX8_drawn 50 = .ok (.ifCond .ne 6, 3) := by decide +kernel
theorem dX8_drawn_53 : decode cX8_drawn 53 = .ok (.iload 5, 2) := by decide +kernel
theorem dX8_drawn_55 : decode cX8_drawn 55 = .ok (.ireturn, 1) := by decide +kernel
theorem dX8_drawn_56 : decode cX8_drawn 56 = .ok (.iload_n 2, 1) := by decide +kernel
theorem dX8_drawn_57 : decode cX8_drawn 57 = .ok (.iconst 1, 1) := by decide +kernel
theorem dX8_drawn_58 : decode cX8_drawn 58 = .ok (.if_icmp .ne 6, 3) := by decide +kernel
theorem dX8_drawn_61 : decode cX8_drawn 61 = .ok (.iload 6, 2) := by decide +kernel
theorem dX8_drawn_63 : decode cX8_drawn 63 = .ok (.ireturn, 1) := by decide +kernel
theorem dX8_drawn_64 : decode cX8_drawn 64 = .ok (.iload_n 2, 1) := by decide +kernel
theorem dX8_drawn_65 : decode cX8_drawn 65 = .ok (.iconst 2, 1) := by decide +kernel
theorem dX8_drawn_66 : decode cX8_drawn 66 = .ok (.if_icmp .ne 12, 3) := by decide +kernel
theorem dX8_drawn_69 : decode cX8_drawn 69 = .ok (.aload_n 0, 1) := by decide +kernel
theorem dX8_drawn_70 : decode cX8_drawn 70 = .ok (.getfield 30, 3) := by decide +kernel
theorem dX8_drawn_73 : decode cX8_drawn 73 = .ok (.lload_n 3, 1) := by decide +kernel
theorem dX8_drawn_74 : decode cX8_drawn 74 = .ok (.invokevirtual 232, 3) := by decide +kernel
theorem dX8_drawn_77 : decode cX8_drawn 77 = .ok (.ireturn, 1) := by decide +kernel
theorem dX8_drawn_78 : decode cX8_drawn 78 = .ok (.iload 5, 2) := by decide +kernel
theorem dX8_drawn_80 : decode cX8_drawn 80 = .ok (.ifCond .ne 5, 3) := by decide +kernel
theorem dX8_drawn_83 : decode cX8_drawn 83 = .ok (.iconst (-1), 1) := by decide +kernel
theorem dX8_drawn_84 : decode cX8_drawn 84 = .ok (.ireturn, 1) := by decide +kernel
theorem dX8_drawn_85 : decode cX8_drawn 85 = .ok (.iload_n 2, 1) := by decide +kernel
theorem dX8_drawn_86 : decode cX8_drawn 86 = .ok (.iconst 3, 1) := by decide +kernel
theorem dX8_drawn_87 : decode cX8_drawn 87 = .ok (.if_icmp .ne 29, 3) := by decide +kernel
theorem dX8_drawn_90 : decode cX8_drawn 90 = .ok (.aload_n 0, 1) := by decide +kernel
theorem dX8_drawn_91 : decode cX8_drawn 91 = .ok (.getfield 37, 3) := by decide +kernel
theorem dX8_drawn_94 : decode cX8_drawn 94 = .ok (.aload_n 0, 1) := by decide +kernel
theorem dX8_drawn_95 : decode cX8_drawn 95 = .ok (.getfield 48, 3) := by decide +kernel
theorem dX8_drawn_98 : decode cX8_drawn 98 = .ok (.getfield 98, 3) := by decide +kernel
theorem dX8_drawn_101 : decode cX8_drawn 101 = .ok (.iload 5, 2) := by decide +kernel
theorem dX8_drawn_103 : decode cX8_drawn 103 = .ok (.iload 6, 2) := by decide +kernel
theorem dX8_drawn_105 : decode cX8_drawn 105 = .ok (.aload_n 0, 1) := by decide +kernel
theorem dX8_drawn_106 : decode cX8_drawn 106 = .ok (.getfield 48, 3) := by decide +kernel
theorem dX8_drawn_109 : decode cX8_drawn 109 = .ok (.getfield 186, 3) := by decide +kernel
theorem dX8_drawn_112 : decode cX8_drawn 112 = .ok (.invokevirtual 235, 3) := by decide +kernel
theorem dX8_drawn_115 : decode cX8_drawn 115 = .ok (.ireturn, 1) := by decide +kernel
theorem dX8_drawn_116 : decode cX8_drawn 116 = .ok (.iload_n 2, 1) := by decide +kernel
theorem dX8_drawn_117 : decode cX8_drawn 117 = .ok (.iconst 4, 1) := by decide +kernel
theorem dX8_drawn_118 : decode cX8_drawn 118 = .ok (.if_icmp .ne 29, 3) := by decide +kernel
theorem dX8_drawn_121 : decode cX8_drawn 121 = .ok (.aload_n 0, 1) := by decide +kernel
theorem dX8_drawn_122 : decode cX8_drawn 122 = .ok (.getfield 37, 3) := by decide +kernel
theorem dX8_drawn_125 : decode cX8_drawn 125 = .ok (.aload_n 0, 1) := by decide +kernel
theorem dX8_drawn_126 : decode cX8_drawn 126 = .ok (.getfield 48, 3) := by decide +kernel
theorem dX8_drawn_129 : decode cX8_drawn 129 = .ok (.getfield 98, 3) := by decide +kernel
theorem dX8_drawn_132 : decode cX8_drawn 132 = .ok (.iload 5, 2) := by decide +kernel
theorem dX8_drawn_134 : decode cX8_drawn 134 = .ok (.iload 6, 2) := by decide +kernel
theorem dX8_drawn_136 : decode cX8_drawn 136 = .ok (.aload_n 0, 1) := by decide +kernel
theorem dX8_drawn_137 : decode cX8_drawn 137 = .ok (.getfield 48, 3) := by decide +kernel
theorem dX8_drawn_140 : decode cX8_drawn 140 = .ok (.getfield 186, 3) := by decide +kernel
theorem dX8_drawn_143 : decode cX8_drawn 143 = .ok (.invokevirtual 239, 3) := by decide +kernel
theorem dX8_drawn_146 : decode cX8_drawn 146 = .ok (.ireturn, 1) := by decide +kernel
theorem dX8_drawn_147 : decode cX8_drawn 147 = .ok (.aload_n 0, 1) := by decide +kernel
theorem dX8_drawn_148 : decode cX8_drawn 148 = .ok (.iload 5, 2) := by decide +kernel
theorem dX8_drawn_150 : decode cX8_drawn 150 = .ok (.iload 6, 2) := by decide +kernel
theorem dX8_drawn_152 : decode cX8_drawn 152 = .ok (.invokevirtual 242, 3) := by decide +kernel
theorem dX8_drawn_155 : decode cX8_drawn 155 = .ok (.ireturn, 1) := by decide +kernel
theorem dX8_estimate_0 : decode cX8_estimate 0 = .ok (.aload_n 0, 1) := by decide +kernel
theorem dX8_estimate_1 : decode cX8_estimate 1 = .ok (.iload_n 1, 1) := by decide +kernel
theorem dX8_estimate_2 : decode cX8_estimate 2 = .ok (.iconst 0, 1) := by decide +kernel
theorem dX8_estimate_3 : decode cX8_estimate 3 = .ok (.iconst 1, 1) := by decide +kernel
theorem dX8_estimate_4 : decode cX8_estimate 4 = .ok (.invokestatic 69, 3) := by decide +kernel
theorem dX8_estimate_7 : decode cX8_estimate 7 = .ok (.ifCond .eq 16, 3) := by decide +kernel
theorem dX8_estimate_10 : decode cX8_estimate 10 = .ok (.iload_n 2, 1) := by decide +kernel
theorem dX8_estimate_11 : decode cX8_estimate 11 = .ok (.iconst 0, 1) := by decide +kernel
theorem dX8_estimate_12 : decode cX8_estimate 12 = .ok (.iconst 1, 1) := by decide +kernel
theorem dX8_estimate_13 : decode cX8_estimate 13 = .ok (.invokestatic 69, 3) := by decide +kernel
theorem dX8_estimate_16 : decode cX8_estimate 16 = .ok (.ifCond .eq 7, 3) := by decide +kernel
theorem dX8_estimate_19 : decode cX8_estimate 19 = .ok (.iconst 1, 1) := by decide +kernel
theorem dX8_estimate_20 : decode cX8_estimate 20 = .ok (.goto 4, 3) := by decide +kernel
theorem dX8_estimate_23 : decode cX8_estimate 23 = .ok (.iconst 0, 1) := by decide +kernel
theorem dX8_estimate_24 : decode cX8_estimate 24 = .ok (.invokevirtual 73, 3) := by decide +kernel
theorem dX8_estimate_27 : decode cX8_estimate 27 = .ok (.aload_n 0, 1) := by decide +kernel
theorem dX8_estimate_28 : decode cX8_estimate 28 = .ok (.iload_n 1, 1) := by decide +kernel
theorem dX8_estimate_29 : decode cX8_estimate 29 = .ok (.invokevirtual 223, 3) := by decide +kernel
theorem dX8_estimate_32 : decode cX8_estimate 32 = .ok (.lstore_n 3, 1) := by decide +kernel
theorem dX8_estimate_33 : decode cX8_estimate 33 = .ok (.lload_n 3, 1) := by decide +kernel
theorem dX8_estimate_34 : decode cX8_estimate 34 = .ok (.invokestatic 227, 3) := by decide +kernel
theorem dX8_estimate_37 : decode cX8_estimate 37 = .ok (.i2l, 1) := by decide +kernel
theorem dX8_estimate_38 : decode cX8_estimate 38 = .ok (.lstore 5, 2) := by decide +kernel
theorem dX8_estimate_40 : decode cX8_estimate 40 = .ok (.aload_n 0, 1) := by decide +kernel
theorem dX8_estimate_41 : decode cX8_estimate 41 = .ok (.lload 5, 2) := by decide +kernel
theorem dX8_estimate_43 : decode cX8_estimate 43 = .ok (.ldc2_w 245, 3) := by decide +kernel
theorem dX8_estimate_46 : decode cX8_estimate 46 = .ok (.lcmp, 1) := by decide +kernel
theorem dX8_estimate_47 : decode cX8_estimate 47 = .ok (.ifCond .lt 7, 3) := by decide +kernel
theorem dX8_estimate_50 : decode cX8_estimate 50 = .ok (.iconst 1, 1) := by decide +kernel
theorem dX8_estimate_51 : decode cX8_estimate 51 = .ok (.goto 4, 3) := by decide +kernel
theorem dX8_estimate_54 : decode cX8_estimate 54 = .ok (.iconst 0, 1) := by decide +kernel
theorem dX8_estimate_55 : decode cX8_estimate 55 = .ok (.invokevirtual 131, 3) := by decide +kernel
theorem dX8_estimate_58 : decode cX8_estimate 58 = .ok (.aload_n 0, 1) := by decide +kernel
theorem dX8_estimate_59 : decode cX8_estimate 59 = .ok (.getfield 48, 3) := by decide +kernel
theorem dX8_estimate_62 : decode cX8_estimate 62 = .ok (.getfield 98, 3) := by decide +kernel
theorem dX8_estimate_65 : decode cX8_estimate 65 = .ok (.i2l, 1) := by decide +kernel
theorem dX8_estimate_66 : decode cX8_estimate 66 = .ok (.lstore 7, 2) := by decide +kernel
theorem dX8_estimate_68 : decode cX8_estimate 68 = .ok (.aload_n 0, 1) := by decide +kernel
theorem dX8_estimate_69 : decode cX8_estimate 69 = .ok (.getfield 30, 3) := by decide +kernel
theorem dX8_estimate_72 : decode cX8_estimate 72 = .ok (.lload_n 3, 1) := by decide +kernel
theorem dX8_estimate_73 : decode cX8_estimate 73 = .ok (.invokevirtual 112, 3) := by decide +kernel
theorem dX8_estimate_76 : decode cX8_estimate 76 = .ok (.i2l, 1) := by decide +kernel
theorem dX8_estimate_77 : decode cX8_estimate 77 = .ok (.lstore 9, 2) := by decide +kernel
theorem dX8_estimate_79 : decode cX8_estimate 79 = .ok (.aload_n 0, 1) := by decide +kernel
theorem dX8_estimate_80 : decode cX8_estimate 80 = .ok (.getfield 30, 3) := by decide +kernel
theorem dX8_estimate_83 : decode cX8_estimate 83 = .ok (.lload_n 3, 1) := by decide +kernel
theorem dX8_estimate_84 : decode cX8_estimate 84 = .ok (.invokevirtual 232, 3) := by decide +kernel
theorem dX8_estimate_87 : decode cX8_estimate 87 = .ok (.i2l, 1) := by decide +kernel
theorem dX8_estimate_88 : decode cX8_estimate 88 = .ok (.lstore 11, 2) := by decide +kernel
theorem dX8_estimate_90 : decode cX8_estimate 90 = .ok (.lload 7, 2) := by decide +kernel
theorem dX8_estimate_92 : decode cX8_estimate 92 = .ok (.lload 9, 2) := by decide +kernel
theorem dX8_estimate_94 : decode cX8_estimate 94 = .ok (.lmul, 1) := by decide +kernel
theorem dX8_estimate_95 : decode cX8_estimate 95 = .ok (.lload 5, 2) := by decide +kernel
theorem dX8_estimate_97 : decode cX8_estimate 97 = .ok (.lconst 1, 1) := by decide +kernel
theorem dX8_estimate_98 : decode cX8_estimate 98 = .ok (.lsub, 1) := by decide +kernel
theorem dX8_estimate_99 : decode cX8_estimate 99 = .ok (.lmul, 1) := by decide +kernel
theorem dX8_estimate_100 : decode cX8_estimate 100 = .ok (.lload 7, 2) := by decide +kernel
theorem dX8_estimate_102 : decode cX8_estimate 102 = .ok (.lload 7, 2) := by decide +kernel
theorem dX8_estimate_104 : decode cX8_estimate 104 = .ok (.lconst 1, 1) := by decide +kernel
theorem dX8_estimate_105 : decode cX8_estimate 105 = .ok (.lsub, 1) := by decide +kernel
theorem dX8_estimate_106 : decode cX8_estimate 106 = .ok (.lmul, 1) := by decide +kernel
theorem dX8_estimate_107 : decode cX8_estimate 107 = .ok (.lload 11, 2) := by decide +kernel
theorem dX8_estimate_109 : decode cX8_estimate 109 = .ok (.lmul, 1) := by decide +kernel
theorem dX8_estimate_110 : decode cX8_estimate 110 = .ok (.lsub, 1) := by decide +kernel
theorem dX8_estimate_111 : decode cX8_estimate 111 = .ok (.lstore 13, 2) := by decide +kernel
theorem dX8_estimate_113 : decode cX8_estimate 113 = .ok (.lload 13, 2) := by decide +kernel
theorem dX8_estimate_115 : decode cX8_estimate 115 = .ok (.lload 5, 2) := by decide +kernel
theorem dX8_estimate_117 : decode cX8_estimate 117 = .ok (.lload 5, 2) := by decide +kernel
theorem dX8_estimate_119 : decode cX8_estimate 119 = .ok (.lconst 1, 1) := by decide +kernel
theorem dX8_estimate_120 : decode cX8_estimate 120 = .ok (.lsub, 1) := by decide +kernel
theorem dX8_estimate_121 : decode cX8_estimate 121 = .ok (.lmul, 1) := by decide +kernel
theorem dX8_estimate_122 : decode cX8_estimate 122 = .ok (.iload_n 2, 1) := by decide +kernel
theorem dX8_estimate_123 : decode cX8_estimate 123 = .ok (.invokestatic 247, 3) := by decide +kernel
theorem dX8_estimate_126 : decode cX8_estimate 126 = .ok (.lreturn, 1) := by decide +kernel
theorem dX8_unlike_0 : decode cX8_unlike 0 = .ok (.aload_n 0, 1) := by decide +kernel
theorem dX8_unlike_1 : decode cX8_unlike 1 = .ok (.iload_n 1, 1) := by decide +kernel
theorem dX8_unlike_2 : decode cX8_unlike 2 = .ok (.iconst 0, 1) := by decide +kernel
theorem dX8_unlike_3 : decode cX8_unlike 3 = .ok (.iconst 1, 1) := by decide +kernel
theorem dX8_unlike_4 : decode cX8_unlike 4 = .ok (.invokestatic 69, 3) := by decide +kernel
theorem dX8_unlike_7 : decode cX8_unlike 7 = .ok (.invokevirtual 73, 3) := by decide +kernel
theorem dX8_unlike_10 : decode cX8_unlike 10 = .ok (.aload_n 0, 1) := by decide +kernel
theorem dX8_unlike_11 : decode cX8_unlike 11 = .ok (.getfield 30, 3) := by decide +kernel
theorem dX8_unlike_14 : decode cX8_unlike 14 = .ok (.aload_n 0, 1) := by decide +kernel
theorem dX8_unlike_15 : decode cX8_unlike 15 = .ok (.getfield 48, 3) := by decide +kernel
theorem dX8_unlike_18 : decode cX8_unlike 18 = .ok (.getfield 105, 3) := by decide +kernel
theorem dX8_unlike_21 : decode cX8_unlike 21 = .ok (.invokevirtual 251, 3) := by decide +kernel
theorem dX8_unlike_24 : decode cX8_unlike 24 = .ok (.istore_n 2, 1) := by decide +kernel
theorem dX8_unlike_25 : decode cX8_unlike 25 = .ok (.aload_n 0, 1) := by decide +kernel
theorem dX8_unlike_26 : decode cX8_unlike 26 = .ok (.getfield 30, 3) := by decide +kernel
theorem dX8_unlike_29 : decode cX8_unlike 29 = .ok (.aload_n 0, 1) := by decide +kernel
theorem dX8_unlike_30 : decode cX8_unlike 30 = .ok (.getfield 48, 3) := by decide +kernel
theorem dX8_unlike_33 : decode cX8_unlike 33 = .ok (.getfield 109, 3) := by decide +kernel
theorem dX8_unlike_36 : decode cX8_unlike 36 = .ok (.invokevirtual 251, 3) := by decide +kernel
theorem dX8_unlike_39 : decode cX8_unlike 39 = .ok (.istore_n 3, 1) := by decide +kernel
theorem dX8_unlike_40 : decode cX8_unlike 40 = .ok (.iload_n 2, 1) := by decide +kernel
theorem dX8_unlike_41 : decode cX8_unlike 41 = .ok (.iload_n 3, 1) := by decide +kernel
theorem dX8_unlike_42 : decode cX8_unlike 42 = .ok (.iand, 1) := by decide +kernel
theorem dX8_unlike_43 : decode cX8_unlike 43 = .ok (.invokestatic 254, 3) := by decide +kernel
theorem dX8_unlike_46 : decode cX8_unlike 46 = .ok (.istore 4, 2) := by decide +kernel
theorem dX8_unlike_48 : decode cX8_unlike 48 = .ok (.iload 4, 2) := by decide +kernel
theorem dX8_unlike_50 : decode cX8_unlike 50 = .ok (.ifCond .ne 5, 3) := by decide +kernel
theorem dX8_unlike_53 : decode cX8_unlike 53 = .ok (.iconst (-1), 1) := by decide +kernel
theorem dX8_unlike_54 : decode cX8_unlike 54 = .ok (.ireturn, 1) := by decide +kernel
theorem dX8_unlike_55 : decode cX8_unlike 55 = .ok (.iload_n 2, 1) := by decide +kernel
theorem dX8_unlike_56 : decode cX8_unlike 56 = .ok (.invokestatic 254, 3) := by decide +kernel
theorem dX8_unlike_59 : decode cX8_unlike 59 = .ok (.iload_n 3, 1) := by decide +kernel
theorem dX8_unlike_60 : decode cX8_unlike 60 = .ok (.invokestatic 254, 3) := by decide +kernel
theorem dX8_unlike_63 : decode cX8_unlike 63 = .ok (.imul, 1) := by decide +kernel
theorem dX8_unlike_64 : decode cX8_unlike 64 = .ok (.i2l, 1) := by decide +kernel
theorem dX8_unlike_65 : decode cX8_unlike 65 = .ok (.iload 4, 2) := by decide +kernel
theorem dX8_unlike_67 : decode cX8_unlike 67 = .ok (.i2l, 1) := by decide +kernel
theorem dX8_unlike_68 : decode cX8_unlike 68 = .ok (.iload_n 1, 1) := by decide +kernel
theorem dX8_unlike_69 : decode cX8_unlike 69 = .ok (.invokestatic 247, 3) := by decide +kernel
theorem dX8_unlike_72 : decode cX8_unlike 72 = .ok (.l2i, 1) := by decide +kernel
theorem dX8_unlike_73 : decode cX8_unlike 73 = .ok (.ireturn, 1) := by decide +kernel
theorem dX8_unseen_0 : decode cX8_unseen 0 = .ok (.aload_n 0, 1) := by decide +kernel
theorem dX8_unseen_1 : decode cX8_unseen 1 = .ok (.iload_n 1, 1) := by decide +kernel
theorem dX8_unseen_2 : decode cX8_unseen 2 = .ok (.iconst 0, 1) := by decide +kernel
theorem dX8_unseen_3 : decode cX8_unseen 3 = .ok (.aload_n 0, 1) := by decide +kernel
theorem dX8_unseen_4 : decode cX8_unseen 4 = .ok (.getfield 48, 3) := by decide +kernel
theorem dX8_unseen_7 : decode cX8_unseen 7 = .ok (.getfield 98, 3) := by decide +kernel
theorem dX8_unseen_10 : decode cX8_unseen 10 = .ok (.invokestatic 69, 3) := by decide +kernel
theorem dX8_unseen_13 : decode cX8_unseen 13 = .ok (.ifCond .eq 16, 3) := by decide +kernel
theorem dX8_unseen_16 : decode cX8_unseen 16 = .ok (.iload_n 2, 1) := by decide +kernel
theorem dX8_unseen_17 : decode cX8_unseen 17 = .ok (.iconst 0, 1) := by decide +kernel
theorem dX8_unseen_18 : decode cX8_unseen 18 = .ok (.iconst 1, 1) := by decide +kernel
theorem dX8_unseen_19 : decode cX8_unseen 19 = .ok (.invokestatic 69, 3) := by decide +kernel
theorem dX8_unseen_22 : decode cX8_unseen 22 = .ok (.ifCond .eq 7, 3) := by decide +kernel
theorem dX8_unseen_25 : decode cX8_unseen 25 = .ok (.iconst 1, 1) := by decide +kernel
theorem dX8_unseen_26 : decode cX8_unseen 26 = .ok (.goto 4, 3) := by decide +kernel
theorem dX8_unseen_29 : decode cX8_unseen 29 = .ok (.iconst 0, 1) := by decide +kernel
theorem dX8_unseen_30 : decode cX8_unseen 30 = .ok (.invokevirtual 73, 3) := by decide +kernel
theorem dX8_unseen_33 : decode cX8_unseen 33 = .ok (.aload_n 0, 1) := by decide +kernel
theorem dX8_unseen_34 : decode cX8_unseen 34 = .ok (.getfield 30, 3) := by decide +kernel
theorem dX8_unseen_37 : decode cX8_unseen 37 = .ok (.ldc2_w 258, 3) := by decide +kernel
theorem dX8_unseen_40 : decode cX8_unseen 40 = .ok (.invokevirtual 260, 3) := by decide +kernel
theorem dX8_unseen_43 : decode cX8_unseen 43 = .ok (.aload_n 0, 1) := by decide +kernel
theorem dX8_unseen_44 : decode cX8_unseen 44 = .ok (.getfield 37, 3) := by decide +kernel
theorem dX8_unseen_47 : decode cX8_unseen 47 = .ok (.aload_n 0, 1) := by decide +kernel
theorem dX8_unseen_48 : decode cX8_unseen 48 = .ok (.getfield 30, 3) := by decide +kernel
theorem dX8_unseen_51 : decode cX8_unseen 51 = .ok (.getfield 264, 3) := by decide +kernel
theorem dX8_unseen_54 : decode cX8_unseen 54 = .ok (.aload_n 0, 1) := by decide +kernel
theorem dX8_unseen_55 : decode cX8_unseen 55 = .ok (.getfield 48, 3) := by decide +kernel
theorem dX8_unseen_58 : decode cX8_unseen 58 = .ok (.getfield 98, 3) := by decide +kernel
theorem dX8_unseen_61 : decode cX8_unseen 61 = .ok (.iload_n 1, 1) := by decide +kernel
theorem dX8_unseen_62 : decode cX8_unseen 62 = .ok (.invokevirtual 267, 3) := by decide +kernel
theorem dX8_unseen_65 : decode cX8_unseen 65 = .ok (.lstore_n 3, 1) := by decide +kernel
theorem dX8_unseen_66 : decode cX8_unseen 66 = .ok (.lload_n 3, 1) := by decide +kernel
theorem dX8_unseen_67 : decode cX8_unseen 67 = .ok (.aload_n 0, 1) := by decide +kernel
theorem dX8_unseen_68 : decode cX8_unseen 68 = .ok (.getfield 37, 3) := by decide +kernel
theorem dX8_unseen_71 : decode cX8_unseen 71 = .ok (.aload_n 0, 1) := by decide +kernel
theorem dX8_unseen_72 : decode cX8_unseen 72 = .ok (.getfield 48, 3) := by decide +kernel
theorem dX8_unseen_75 : decode cX8_unseen 75 = .ok (.getfield 98, 3) := by decide +kernel
theorem dX8_unseen_78 : decode cX8_unseen 78 = .ok (.iload_n 1, 1) := by decide +kernel
theorem dX8_unseen_79 : decode cX8_unseen 79 = .ok (.invokevirtual 271, 3) := by decide +kernel
theorem dX8_unseen_82 : decode cX8_unseen 82 = .ok (.iload_n 2, 1) := by decide +kernel
theorem dX8_unseen_83 : decode cX8_unseen 83 = .ok (.invokestatic 247, 3) := by decide +kernel
theorem dX8_unseen_86 : decode cX8_unseen 86 = .ok (.lreturn, 1) := by decide +kernel
theorem dX8_fewest_0 : decode cX8_fewest 0 = .ok (.iconst 1, 1) := by decide +kernel
theorem dX8_fewest_1 : decode cX8_fewest 1 = .ok (.istore_n 1, 1) := by decide +kernel
theorem dX8_fewest_2 : decode cX8_fewest 2 = .ok (.iload_n 1, 1) := by decide +kernel
theorem dX8_fewest_3 : decode cX8_fewest 3 = .ok (.aload_n 0, 1) := by decide +kernel
theorem dX8_fewest_4 : decode cX8_fewest 4 = .ok (.getfield 48, 3) := by decide +kernel
theorem dX8_fewest_7 : decode cX8_fewest 7 = .ok (.getfield 98, 3) := by decide +kernel
theorem dX8_fewest_10 : decode cX8_fewest 10 = .ok (.if_icmp .gt 21, 3) := by decide +kernel
theorem dX8_fewest_13 : decode cX8_fewest 13 = .ok (.aload_n 0, 1) := by decide +kernel
theorem dX8_fewest_14 : decode cX8_fewest 14 = .ok (.iload_n 1, 1) := by decide +kernel
theorem dX8_fewest_15 : decode cX8_fewest 15 = .ok (.iload_n 1, 1) := by decide +kernel
theorem dX8_fewest_16 : decode cX8_fewest 16 = .ok (.invokevirtual 242, 3) := by decide +kernel
theorem dX8_fewest_19 : decode cX8_fewest 19 = .ok (.iconst 1, 1) := by decide +kernel
theorem dX8_fewest_20 : decode cX8_fewest 20 = .ok (.if_icmp .ne 5, 3) := by decide +kernel
theorem dX8_fewest_23 : decode cX8_fewest 23 = .ok (.iload_n 1, 1) := by decide +kernel
theorem dX8_fewest_24 : decode cX8_fewest 24 = .ok (.ireturn, 1) := by decide +kernel
theorem dX8_fewest_25 : decode cX8_fewest 25 = .ok (.iinc 1 1, 3) := by decide +kernel
theorem dX8_fewest_28 : decode cX8_fewest 28 = .ok (.goto (-26), 3) := by decide +kernel
theorem dX8_fewest_31 : decode cX8_fewest 31 = .ok (.iconst (-1), 1) := by decide +kernel
theorem dX8_fewest_32 : decode cX8_fewest 32 = .ok (.ireturn, 1) := by decide +kernel
theorem dX8_worst_0 : decode cX8_worst 0 = .ok (.aload_n 0, 1) := by decide +kernel
theorem dX8_worst_1 : decode cX8_worst 1 = .ok (.iload_n 1, 1) := by decide +kernel
theorem dX8_worst_2 : decode cX8_worst 2 = .ok (.iconst 1, 1) := by decide +kernel
theorem dX8_worst_3 : decode cX8_worst 3 = .ok (.bipush 8, 2) := by decide +kernel
theorem dX8_worst_5 : decode cX8_worst 5 = .ok (.invokestatic 69, 3) := by decide +kernel
theorem dX8_worst_8 : decode cX8_worst 8 = .ok (.ifCond .eq 16, 3) := by decide +kernel
theorem dX8_worst_11 : decode cX8_worst 11 = .ok (.iload_n 2, 1) := by decide +kernel
theorem dX8_worst_12 : decode cX8_worst 12 = .ok (.iconst 0, 1) := by decide +kernel
theorem dX8_worst_13 : decode cX8_worst 13 = .ok (.iconst 1, 1) := by decide +kernel
theorem dX8_worst_14 : decode cX8_worst 14 = .ok (.invokestatic 69, 3) := by decide +kernel
theorem dX8_worst_17 : decode cX8_worst 17 = .ok (.ifCond .eq 7, 3) := by decide +kernel
theorem dX8_worst_20 : decode cX8_worst 20 = .ok (.iconst 1, 1) := by decide +kernel
theorem dX8_worst_21 : decode cX8_worst 21 = .ok (.goto 4, 3) := by decide +kernel
theorem dX8_worst_24 : decode cX8_worst 24 = .ok (.iconst 0, 1) := by decide +kernel
theorem dX8_worst_25 : decode cX8_worst 25 = .ok (.invokevirtual 73, 3) := by decide +kernel
theorem dX8_worst_28 : decode cX8_worst 28 = .ok (.iconst (-1), 1) := by decide +kernel
theorem dX8_worst_29 : decode cX8_worst 29 = .ok (.istore_n 3, 1) := by decide +kernel
theorem dX8_worst_30 : decode cX8_worst 30 = .ok (.iconst (-1), 1) := by decide +kernel
theorem dX8_worst_31 : decode cX8_worst 31 = .ok (.istore 4, 2) := by decide +kernel
theorem dX8_worst_33 : decode cX8_worst 33 = .ok (.iconst 0, 1) := by decide +kernel
theorem dX8_worst_34 : decode cX8_worst 34 = .ok (.istore 5, 2) := by decide +kernel
theorem dX8_worst_36 : decode cX8_worst 36 = .ok (.iload 5, 2) := by decide +kernel
theorem dX8_worst_38 : decode cX8_worst 38 = .ok (.iconst 1, 1) := by decide +kernel
theorem dX8_worst_39 : decode cX8_worst 39 = .ok (.aload_n 0, 1) := by decide +kernel
theorem dX8_worst_40 : decode cX8_worst 40 = .ok (.getfield 48, 3) := by decide +kernel
theorem dX8_worst_43 : decode cX8_worst 43 = .ok (.getfield 171, 3) := by decide +kernel
theorem dX8_worst_46 : decode cX8_worst 46 = .ok (.ishl, 1) := by decide +kernel
theorem dX8_worst_47 : decode cX8_worst 47 = .ok (.if_icmp .ge 61, 3) := by decide +kernel
theorem dX8_worst_50 : decode cX8_worst 50 = .ok (.iload 5, 2) := by decide +kernel
theorem dX8_worst_52 : decode cX8_worst 52 = .ok (.invokestatic 254, 3) := by decide +kernel
theorem dX8_worst_55 : decode cX8_worst 55 = .ok (.iload_n 1, 1) := by decide +kernel
theorem dX8_worst_56 : decode cX8_worst 56 = .ok (.if_icmp .ne 46, 3) := by decide +kernel
theorem dX8_worst_59 : decode cX8_worst 59 = .ok (.iload 5, 2) := by decide +kernel
theorem dX8_worst_61 : decode cX8_worst 61 = .ok (.aload_n 0, 1) := by decide +kernel
theorem dX8_worst_62 : decode cX8_worst 62 = .ok (.getfield 30, 3) := by decide +kernel
theorem dX8_worst_65 : decode cX8_worst 65 = .ok (.getfield 189, 3) := by decide +kernel
theorem dX8_worst_68 : decode cX8_worst 68 = .ok (.iand, 1) := by decide +kernel
theorem dX8_worst_69 : decode cX8_worst 69 = .ok (.ifCond .ne 33, 3) := by decide +kernel
theorem dX8_worst_72 : decode cX8_worst 72 = .ok (.aload_n 0, 1) := by decide +kernel
theorem dX8_worst_73 : decode cX8_worst 73 = .ok (.getfield 30, 3) := by decide +kernel
theorem dX8_worst_76 : decode cX8_worst 76 = .ok (.iload 5, 2) := by decide +kernel
theorem dX8_worst_78 : decode cX8_worst 78 = .ok (.invokevirtual 274, 3) := by decide +kernel
theorem dX8_worst_81 : decode cX8_worst 81 = .ok (.istore 6, 2) := by decide +kernel
theorem dX8_worst_83 : decode cX8_worst 83 = .ok (.iload_n 3, 1) := by decide +kernel
theorem dX8_worst_84 : decode cX8_worst 84 = .ok (.iconst (-1), 1) := by decide +kernel
theorem dX8_worst_85 : decode cX8_worst 85 = .ok (.if_icmp .eq 10, 3) := by decide +kernel
theorem dX8_worst_88 : decode cX8_worst 88 = .ok (.iload 6, 2) := by decide +kernel
theorem dX8_worst_90 : decode cX8_worst 90 = .ok (.iload 4, 2) := by decide +kernel
theorem dX8_worst_92 : decode cX8_worst 92 = .ok (.if_icmp .ge 10, 3) := by decide +kernel
theorem dX8_worst_95 : decode cX8_worst 95 = .ok (.iload 5, 2) := by decide +kernel
theorem dX8_worst_97 : decode cX8_worst 97 = .ok (.istore_n 3, 1) := by decide +kernel
theorem dX8_worst_98 : decode cX8_worst 98 = .ok (.iload 6, 2) := by decide +kernel
theorem dX8_worst_100 : decode cX8_worst 100 = .ok (.istore 4, 2) := by decide +kernel
theorem dX8_worst_102 : decode cX8_worst 102 = .ok (.iinc 5 1, 3) := by decide +kernel
theorem dX8_worst_105 : decode cX8_worst 105 = .ok (.goto (-69), 3) := by decide +kernel
theorem dX8_worst_108 : decode cX8_worst 108 = .ok (.iload_n 2, 1) := by decide +kernel
theorem dX8_worst_109 : decode cX8_worst 109 = .ok (.ifCond .ne 7, 3) := by decide +kernel
theorem dX8_worst_112 : decode cX8_worst 112 = .ok (.iload_n 3, 1) := by decide +kernel
theorem dX8_worst_113 : decode cX8_worst 113 = .ok (.goto 5, 3) := by decide +kernel
theorem dX8_worst_116 : decode cX8_worst 116 = .ok (.iload 4, 2) := by decide +kernel
theorem dX8_worst_118 : decode cX8_worst 118 = .ok (.ireturn, 1) := by decide +kernel
theorem dX8_cost_0 : decode cX8_cost 0 = .ok (.iload_n 1, 1) := by decide +kernel
theorem dX8_cost_1 : decode cX8_cost 1 = .ok (.i2l, 1) := by decide +kernel
theorem dX8_cost_2 : decode cX8_cost 2 = .ok (.aload_n 0, 1) := by decide +kernel
theorem dX8_cost_3 : decode cX8_cost 3 = .ok (.getfield 48, 3) := by decide +kernel
theorem dX8_cost_6 : decode cX8_cost 6 = .ok (.getfield 98, 3) := by decide +kernel
theorem dX8_cost_9 : decode cX8_cost 9 = .ok (.i2l, 1) := by decide +kernel
theorem dX8_cost_10 : decode cX8_cost 10 = .ok (.lmul, 1) := by decide +kernel
theorem dX8_cost_11 : decode cX8_cost 11 = .ok (.lstore_n 2, 1) := by decide +kernel
theorem dX8_cost_12 : decode cX8_cost 12 = .ok (.aload_n 0, 1) := by decide +kernel
theorem dX8_cost_13 : decode cX8_cost 13 = .ok (.iload_n 1, 1) := by decide +kernel
theorem dX8_cost_14 : decode cX8_cost 14 = .ok (.ifCond .lt 15, 3) := by decide +kernel
theorem dX8_cost_17 : decode cX8_cost 17 = .ok (.lload_n 2, 1) := by decide +kernel
theorem dX8_cost_18 : decode cX8_cost 18 = .ok (.ldc2_w 277, 3) := by decide +kernel
theorem dX8_cost_21 : decode cX8_cost 21 = .ok (.lcmp, 1) := by decide +kernel
theorem dX8_cost_22 : decode cX8_cost 22 = .ok (.ifCond .gt 7, 3) := by decide +kernel
theorem dX8_cost_25 : decode cX8_cost 25 = .ok (.iconst 1, 1) := by decide +kernel
theorem dX8_cost_26 : decode cX8_cost 26 = .ok (.goto 4, 3) := by decide +kernel
theorem dX8_cost_29 : decode cX8_cost 29 = .ok (.iconst 0, 1) := by decide +kernel
theorem dX8_cost_30 : decode cX8_cost 30 = .ok (.invokevirtual 73, 3) := by decide +kernel
theorem dX8_cost_33 : decode cX8_cost 33 = .ok (.lload_n 2, 1) := by decide +kernel
theorem dX8_cost_34 : decode cX8_cost 34 = .ok (.l2i, 1) := by decide +kernel
theorem dX8_cost_35 : decode cX8_cost 35 = .ok (.ireturn, 1) := by decide +kernel
theorem dX8_print_0 : decode cX8_print 0 = .ok (.lconst 0, 1) := by decide +kernel
theorem dX8_print_1 : decode cX8_print 1 = .ok (.lstore_n 1, 1) := by decide +kernel
theorem dX8_print_2 : decode cX8_print 2 = .ok (.iconst 0, 1) := by decide +kernel
theorem dX8_print_3 : decode cX8_print 3 = .ok (.istore_n 3, 1) := by decide +kernel
theorem dX8_print_4 : decode cX8_print 4 = .ok (.iload_n 3, 1) := by decide +kernel
theorem dX8_print_5 : decode cX8_print 5 = .ok (.aload_n 0, 1) := by decide +kernel
theorem dX8_print_6 : decode cX8_print 6 = .ok (.getfield 48, 3) := by decide +kernel
theorem dX8_print_9 : decode cX8_print 9 = .ok (.getfield 98, 3) := by decide +kernel
theorem dX8_print_12 : decode cX8_print 12 = .ok (.if_icmp .ge 43, 3) := by decide +kernel
theorem dX8_print_15 : decode cX8_print 15 = .ok (.ldc2_w 279, 3) := by decide +kernel
theorem dX8_print_18 : decode cX8_print 18 = .ok (.lload_n 1, 1) := by decide +kernel
theorem dX8_print_19 : decode cX8_print 19 = .ok (.lmul, 1) := by decide +kernel
theorem dX8_print_20 : decode cX8_print 20 = .ok (.aload_n 0, 1) := by decide +kernel
theorem dX8_print_21 : decode cX8_print 21 = .ok (.getfield 48, 3) := by decide +kernel
theorem dX8_print_24 : decode cX8_print 24 = .ok (.getfield 214, 3) := by decide +kernel
theorem dX8_print_27 : decode cX8_print 27 = .ok (.iload_n 3, 1) := by decide +kernel
theorem dX8_print_28 : decode cX8_print 28 = .ok (.iaload, 1) := by decide +kernel
theorem dX8_print_29 : decode cX8_print 29 = .ok (.i2l, 1) := by decide +kernel
theorem dX8_print_30 : decode cX8_print 30 = .ok (.ladd, 1) := by decide +kernel
theorem dX8_print_31 : decode cX8_print 31 = .ok (.lstore_n 1, 1) := by decide +kernel
theorem dX8_print_32 : decode cX8_print 32 = .ok (.ldc2_w 279, 3) := by decide +kernel
theorem dX8_print_35 : decode cX8_print 35 = .ok (.lload_n 1, 1) := by decide +kernel
theorem dX8_print_36 : decode cX8_print 36 = .ok (.lmul, 1) := by decide +kernel
theorem dX8_print_37 : decode cX8_print 37 = .ok (.aload_n 0, 1) := by decide +kernel
theorem dX8_print_38 : decode cX8_print 38 = .ok (.getfield 30, 3) := by decide +kernel
theorem dX8_print_41 : decode cX8_print 41 = .ok (.getfield 159, 3) := by decide +kernel
theorem dX8_print_44 : decode cX8_print 44 = .ok (.iload_n 3, 1) := by decide +kernel
theorem dX8_print_45 : decode cX8_print 45 = .ok (.iaload, 1) := by decide +kernel
theorem dX8_print_46 : decode cX8_print 46 = .ok (.i2l, 1) := by decide +kernel
theorem dX8_print_47 : decode cX8_print 47 = .ok (.ladd, 1) := by decide +kernel
theorem dX8_print_48 : decode cX8_print 48 = .ok (.lstore_n 1, 1) := by decide +kernel
theorem dX8_print_49 : decode cX8_print 49 = .ok (.iinc 3 1, 3) := by decide +kernel
theorem dX8_print_52 : decode cX8_print 52 = .ok (.goto (-48), 3) := by decide +kernel
theorem dX8_print_55 : decode cX8_print 55 = .ok (.lload_n 1, 1) := by decide +kernel
theorem dX8_print_56 : decode cX8_print 56 = .ok (.lreturn, 1) := by decide +kernel
theorem dX8_status_0 : decode cX8_status 0 = .ok (.iload_n 1, 1) := by decide +kernel
theorem dX8_status_1 : decode cX8_status 1 = .ok (.tableswitch 42 0 2 #[27, 32, 37], 27) := by decide +kernel
theorem dX8_status_28 : decode cX8_status 28 = .ok (.aload_n 0, 1) := by decide +kernel
theorem dX8_status_29 : decode cX8_status 29 = .ok (.getfield 281, 3) := by decide +kernel
theorem dX8_status_32 : decode cX8_status 32 = .ok (.ireturn, 1) := by decide +kernel
theorem dX8_status_33 : decode cX8_status 33 = .ok (.aload_n 0, 1) := by decide +kernel
theorem dX8_status_34 : decode cX8_status 34 = .ok (.getfield 284, 3) := by decide +kernel
theorem dX8_status_37 : decode cX8_status 37 = .ok (.ireturn, 1) := by decide +kernel
theorem dX8_status_38 : decode cX8_status 38 = .ok (.aload_n 0, 1) := by decide +kernel
theorem dX8_status_39 : decode cX8_status 39 = .ok (.getfield 287, 3) := by decide +kernel
theorem dX8_status_42 : decode cX8_status 42 = .ok (.ireturn, 1) := by decide +kernel
theorem dX8_status_43 : decode cX8_status 43 = .ok (.iconst (-1), 1) := by decide +kernel
theorem dX8_status_44 : decode cX8_status 44 = .ok (.ireturn, 1) := by decide +kernel
theorem dX8_requireFound_0 : decode cX8_requireFound 0 = .ok (.iload_n 1, 1) := by decide +kernel
theorem dX8_requireFound_1 : decode cX8_requireFound 1 = .ok (.ifCond .ne 24, 3) := by decide +kernel
theorem dX8_requireFound_4 : decode cX8_requireFound 4 = .ok (.aload_n 0, 1) := by decide +kernel
theorem dX8_requireFound_5 : decode cX8_requireFound 5 = .ok (.dup, 1) := by decide +kernel
theorem dX8_requireFound_6 : decode cX8_requireFound 6 = .ok (.getfield 281, 3) := by decide +kernel
theorem dX8_requireFound_9 : decode cX8_requireFound 9 = .ok (.iconst 1, 1) := by decide +kernel
theorem dX8_requireFound_10 : decode cX8_requireFound 10 = .ok (.iadd, 1) := by decide +kernel
theorem dX8_requireFound_11 : decode cX8_requireFound 11 = .ok (.putfield 281, 3) := by decide +kernel
theorem dX8_requireFound_14 : decode cX8_requireFound 14 = .ok (.new 290, 3) := by decide +kernel
theorem dX8_requireFound_17 : decode cX8_requireFound 17 = .ok (.dup, 1) := by decide +kernel
theorem dX8_requireFound_18 : decode cX8_requireFound 18 = .ok (.ldc_w 292, 3) := by decide +kernel
theorem dX8_requireFound_21 : decode cX8_requireFound 21 = .ok (.invokespecial 294, 3) := by decide +kernel
theorem dX8_requireFound_24 : decode cX8_requireFound 24 = .ok (.athrow, 1) := by decide +kernel
theorem dX8_requireFound_25 : decode cX8_requireFound 25 = .ok (.return_, 1) := by decide +kernel
theorem dX8_requireArgument_0 : decode cX8_requireArgument 0 = .ok (.iload_n 1, 1) := by decide +kernel
theorem dX8_requireArgument_1 : decode cX8_requireArgument 1 = .ok (.ifCond .ne 24, 3) := by decide +kernel
theorem dX8_requireArgument_4 : decode cX8_requireArgument 4 = .ok (.aload_n 0, 1) := by decide +kernel
theorem dX8_requireArgument_5 : decode cX8_requireArgument 5 = .ok (.dup, 1) := by decide +kernel
theorem dX8_requireArgument_6 : decode cX8_requireArgument 6 = .ok (.getfield 284, 3) := by decide +kernel
theorem dX8_requireArgument_9 : decode cX8_requireArgument 9 = .ok (.iconst 1, 1) := by decide +kernel
theorem dX8_requireArgument_10 : decode cX8_requireArgument 10 = .ok (.iadd, 1) := by decide +kernel
theorem dX8_requireArgument_11 : decode cX8_requireArgument 11 = .ok (.putfield 284, 3) := by decide +kernel
theorem dX8_requireArgument_14 : decode cX8_requireArgument 14 = .ok (.new 297, 3) := by decide +kernel
theorem dX8_requireArgument_17 : decode cX8_requireArgument 17 = .ok (.dup, 1) := by decide +kernel
theorem dX8_requireArgument_18 : decode cX8_requireArgument 18 = .ok (.ldc_w 299, 3) := by decide +kernel
theorem dX8_requireArgument_21 : decode cX8_requireArgument 21 = .ok (.invokespecial 301, 3) := by decide +kernel
theorem dX8_requireArgument_24 : decode cX8_requireArgument 24 = .ok (.athrow, 1) := by decide +kernel
theorem dX8_requireArgument_25 : decode cX8_requireArgument 25 = .ok (.return_, 1) := by decide +kernel
theorem dX8_requireState_0 : decode cX8_requireState 0 = .ok (.iload_n 1, 1) := by decide +kernel
theorem dX8_requireState_1 : decode cX8_requireState 1 = .ok (.ifCond .ne 24, 3) := by decide +kernel
theorem dX8_requireState_4 : decode cX8_requireState 4 = .ok (.aload_n 0, 1) := by decide +kernel
theorem dX8_requireState_5 : decode cX8_requireState 5 = .ok (.dup, 1) := by decide +kernel
theorem dX8_requireState_6 : decode cX8_requireState 6 = .ok (.getfield 287, 3) := by decide +kernel
theorem dX8_requireState_9 : decode cX8_requireState 9 = .ok (.iconst 1, 1) := by decide +kernel
theorem dX8_requireState_10 : decode cX8_requireState 10 = .ok (.iadd, 1) := by decide +kernel
theorem dX8_requireState_11 : decode cX8_requireState 11 = .ok (.putfield 287, 3) := by decide +kernel
theorem dX8_requireState_14 : decode cX8_requireState 14 = .ok (.new 302, 3) := by decide +kernel
theorem dX8_requireState_17 : decode cX8_requireState 17 = .ok (.dup, 1) := by decide +kernel
theorem dX8_requireState_18 : decode cX8_requireState 18 = .ok (.ldc_w 304, 3) := by decide +kernel
theorem dX8_requireState_21 : decode cX8_requireState 21 = .ok (.invokespecial 306, 3) := by decide +kernel
theorem dX8_requireState_24 : decode cX8_requireState 24 = .ok (.athrow, 1) := by decide +kernel
theorem dX8_requireState_25 : decode cX8_requireState 25 = .ok (.return_, 1) := by decide +kernel
theorem dX8_isFrom_0 : decode cX8_isFrom 0 = .ok (.iload_n 0, 1) := by decide +kernel
theorem dX8_isFrom_1 : decode cX8_isFrom 1 = .ok (.iload_n 1, 1) := by decide +kernel
theorem dX8_isFrom_2 : decode cX8_isFrom 2 = .ok (.if_icmp .lt 12, 3) := by decide +kernel
theorem dX8_isFrom_5 : decode cX8_isFrom 5 = .ok (.iload_n 0, 1) := by decide +kernel
theorem dX8_isFrom_6 : decode cX8_isFrom 6 = .ok (.iload_n 2, 1) := by decide +kernel
theorem dX8_isFrom_7 : decode cX8_isFrom 7 = .ok (.if_icmp .gt 7, 3) := by decide +kernel
theorem dX8_isFrom_10 : decode cX8_isFrom 10 = .ok (.iconst 1, 1) := by decide +kernel
theorem dX8_isFrom_11 : decode cX8_isFrom 11 = .ok (.goto 4, 3) := by decide +kernel
theorem dX8_isFrom_14 : decode cX8_isFrom 14 = .ok (.iconst 0, 1) := by decide +kernel
theorem dX8_isFrom_15 : decode cX8_isFrom 15 = .ok (.ireturn, 1) := by decide +kernel
theorem dX8_isVoter_0 : decode cX8_isVoter 0 = .ok (.iload_n 1, 1) := by decide +kernel
theorem dX8_isVoter_1 : decode cX8_isVoter 1 = .ok (.ifCond .lt 18, 3) := by decide +kernel
theorem dX8_isVoter_4 : decode cX8_isVoter 4 = .ok (.iload_n 1, 1) := by decide +kernel
theorem dX8_isVoter_5 : decode cX8_isVoter 5 = .ok (.aload_n 0, 1) := by decide +kernel
theorem dX8_isVoter_6 : decode cX8_isVoter 6 = .ok (.getfield 48, 3) := by decide +kernel
theorem dX8_isVoter_9 : decode cX8_isVoter 9 = .ok (.getfield 168, 3) := by decide +kernel
theorem dX8_isVoter_12 : decode cX8_isVoter 12 = .ok (.if_icmp .ge 7, 3) := by decide +kernel
theorem dX8_isVoter_15 : decode cX8_isVoter 15 = .ok (.iconst 1, 1) := by decide +kernel
theorem dX8_isVoter_16 : decode cX8_isVoter 16 = .ok (.goto 4, 3) := by decide +kernel
theorem dX8_isVoter_19 : decode cX8_isVoter 19 = .ok (.iconst 0, 1) := by decide +kernel
theorem dX8_isVoter_20 : decode cX8_isVoter 20 = .ok (.ireturn, 1) := by decide +kernel
theorem dX8_isSheet_0 : decode cX8_isSheet 0 = .ok (.iload_n 1, 1) := by decide +kernel
theorem dX8_isSheet_1 : decode cX8_isSheet 1 = .ok (.ifCond .lt 18, 3) := by decide +kernel
theorem dX8_isSheet_4 : decode cX8_isSheet 4 = .ok (.iload_n 1, 1) := by decide +kernel
theorem dX8_isSheet_5 : decode cX8_isSheet 5 = .ok (.aload_n 0, 1) := by decide +kernel
theorem dX8_isSheet_6 : decode cX8_isSheet 6 = .ok (.getfield 48, 3) := by decide +kernel
theorem dX8_isSheet_9 : decode cX8_isSheet 9 = .ok (.getfield 171, 3) := by decide +kernel
theorem dX8_isSheet_12 : decode cX8_isSheet 12 = .ok (.if_icmp .ge 7, 3) := by decide +kernel
theorem dX8_isSheet_15 : decode cX8_isSheet 15 = .ok (.iconst 1, 1) := by decide +kernel
theorem dX8_isSheet_16 : decode cX8_isSheet 16 = .ok (.goto 4, 3) := by decide +kernel
theorem dX8_isSheet_19 : decode cX8_isSheet 19 = .ok (.iconst 0, 1) := by decide +kernel
theorem dX8_isSheet_20 : decode cX8_isSheet 20 = .ok (.ireturn, 1) := by decide +kernel
theorem dX8_isLine_0 : decode cX8_isLine 0 = .ok (.aload_n 0, 1) := by decide +kernel
theorem dX8_isLine_1 : decode cX8_isLine 1 = .ok (.iload_n 1, 1) := by decide +kernel
theorem dX8_isLine_2 : decode cX8_isLine 2 = .ok (.invokevirtual 116, 3) := by decide +kernel
theorem dX8_isLine_5 : decode cX8_isLine 5 = .ok (.ifCond .eq 23, 3) := by decide +kernel
theorem dX8_isLine_8 : decode cX8_isLine 8 = .ok (.iload_n 2, 1) := by decide +kernel
theorem dX8_isLine_9 : decode cX8_isLine 9 = .ok (.ifCond .lt 19, 3) := by decide +kernel
theorem dX8_isLine_12 : decode cX8_isLine 12 = .ok (.iload_n 2, 1) := by decide +kernel
theorem dX8_isLine_13 : decode cX8_isLine 13 = .ok (.aload_n 0, 1) := by decide +kernel
theorem dX8_isLine_14 : decode cX8_isLine 14 = .ok (.getfield 48, 3) := by decide +kernel
theorem dX8_isLine_17 : decode cX8_isLine 17 = .ok (.iload_n 1, 1) := by decide +kernel
theorem dX8_isLine_18 : decode cX8_isLine 18 = .ok (.invokevirtual 134, 3) := by decide +kernel
theorem dX8_isLine_21 : decode cX8_isLine 21 = .ok (.if_icmp .ge 7, 3) := by decide +kernel
theorem dX8_isLine_24 : decode cX8_isLine 24 = .ok (.iconst 1, 1) := by decide +kernel
theorem dX8_isLine_25 : decode cX8_isLine 25 = .ok (.goto 4, 3) := by decide +kernel
theorem dX8_isLine_28 : decode cX8_isLine 28 = .ok (.iconst 0, 1) := by decide +kernel
theorem dX8_isLine_29 : decode cX8_isLine 29 = .ok (.ireturn, 1) := by decide +kernel
theorem dX8_sampleOf_0 : decode cX8_sampleOf 0 = .ok (.iload_n 1, 1) := by decide +kernel
theorem dX8_sampleOf_1 : decode cX8_sampleOf 1 = .ok (.ifCond .ne 13, 3) := by decide +kernel
theorem dX8_sampleOf_4 : decode cX8_sampleOf 4 = .ok (.aload_n 0, 1) := by decide +kernel
theorem dX8_sampleOf_5 : decode cX8_sampleOf 5 = .ok (.getfield 48, 3) := by decide +kernel
theorem dX8_sampleOf_8 : decode cX8_sampleOf 8 = .ok (.getfield 105, 3) := by decide +kernel
theorem dX8_sampleOf_11 : decode cX8_sampleOf 11 = .ok (.goto 10, 3) := by decide +kernel
theorem dX8_sampleOf_14 : decode cX8_sampleOf 14 = .ok (.aload_n 0, 1) := by decide +kernel
theorem dX8_sampleOf_15 : decode cX8_sampleOf 15 = .ok (.getfield 48, 3) := by decide +kernel
theorem dX8_sampleOf_18 : decode cX8_sampleOf 18 = .ok (.getfield 109, 3) := by decide +kernel
theorem dX8_sampleOf_21 : decode cX8_sampleOf 21 = .ok (.lreturn, 1) := by decide +kernel
theorem dX8_keepForUndo_0 : decode cX8_keepForUndo 0 = .ok (.aload_n 0, 1) := by decide +kernel
theorem dX8_keepForUndo_1 : decode cX8_keepForUndo 1 = .ok (.getfield 165, 3) := by decide +kernel
theorem dX8_keepForUndo_4 : decode cX8_keepForUndo 4 = .ok (.bipush 8, 2) := by decide +kernel
theorem dX8_keepForUndo_6 : decode cX8_keepForUndo 6 = .ok (.if_icmp .lt 52, 3) := by decide +kernel
theorem dX8_keepForUndo_9 : decode cX8_keepForUndo 9 = .ok (.aload_n 0, 1) := by decide +kernel
theorem dX8_keepForUndo_10 : decode cX8_keepForUndo 10 = .ok (.getfield 43, 3) := by decide +kernel
theorem dX8_keepForUndo_13 : decode cX8_keepForUndo 13 = .ok (.iconst 0, 1) := by decide +kernel
theorem dX8_keepForUndo_14 : decode cX8_keepForUndo 14 = .ok (.aaload, 1) := by decide +kernel
theorem dX8_keepForUndo_15 : decode cX8_keepForUndo 15 = .ok (.astore_n 1, 1) := by decide +kernel
theorem dX8_keepForUndo_16 : decode cX8_keepForUndo 16 = .ok (.iconst 1, 1) := by decide +kernel
theorem dX8_keepForUndo_17 : decode cX8_keepForUndo 17 = .ok (.istore_n 2, 1) := by decide +kernel
theorem dX8_keepForUndo_18 : decode cX8_keepForUndo 18 = .ok (.iload_n 2, 1) := by decide +kernel
theorem dX8_keepForUndo_19 : decode cX8_keepForUndo 19 = .ok (.bipush 8, 2) := by decide +kernel
theorem dX8_keepForUndo_21 : decode cX8_keepForUndo 21 = .ok (.if_icmp .ge 23, 3) := by decide +kernel
theorem dX8_keepForUndo_24 : decode cX8_keepForUndo 24 = .ok (.aload_n 0, 1) := by decide +kernel
theorem dX8_keepForUndo_25 : decode cX8_keepForUndo 25 = .ok (.getfield 43, 3) := by decide +kernel
theorem dX8_keepForUndo_28 : decode cX8_keepForUndo 28 = .ok (.iload_n 2, 1) := by decide +kernel
theorem dX8_keepForUndo_29 : decode cX8_keepForUndo 29 = .ok (.iconst 1, 1) := by decide +kernel
theorem dX8_keepForUndo_30 : decode cX8_keepForUndo 30 = .ok (.isub, 1) := by decide +kernel
theorem dX8_keepForUndo_31 : decode cX8_keepForUndo 31 = .ok (.aload_n 0, 1) := by decide +kernel
theorem dX8_keepForUndo_32 : decode cX8_keepForUndo 32 = .ok (.getfield 43, 3) := by decide +kernel
theorem dX8_keepForUndo_35 : decode cX8_keepForUndo 35 = .ok (.iload_n 2, 1) := by decide +kernel
theorem dX8_keepForUndo_36 : decode cX8_keepForUndo 36 = .ok (.aaload, 1) := by decide +kernel
theorem dX8_keepForUndo_37 : decode cX8_keepForUndo 37 = .ok (.aastore, 1) := by decide +kernel
theorem dX8_keepForUndo_38 : decode cX8_keepForUndo 38 = .ok (.iinc 2 1, 3) := by decide +kernel
theorem dX8_keepForUndo_41 : decode cX8_keepForUndo 41 = .ok (.goto (-23), 3) := by decide +kernel
theorem dX8_keepForUndo_44 : decode cX8_keepForUndo 44 = .ok (.aload_n 0, 1) := by decide +kernel
theorem dX8_keepForUndo_45 : decode cX8_keepForUndo 45 = .ok (.getfield 43, 3) := by decide +kernel
theorem dX8_keepForUndo_48 : decode cX8_keepForUndo 48 = .ok (.bipush 7, 2) := by decide +kernel
theorem dX8_keepForUndo_50 : decode cX8_keepForUndo 50 = .ok (.aload_n 1, 1) := by decide +kernel
theorem dX8_keepForUndo_51 : decode cX8_keepForUndo 51 = .ok (.aastore, 1) := by decide +kernel
theorem dX8_keepForUndo_52 : decode cX8_keepForUndo 52 = .ok (.aload_n 0, 1) := by decide +kernel
theorem dX8_keepForUndo_53 : decode cX8_keepForUndo 53 = .ok (.bipush 7, 2) := by decide +kernel
theorem dX8_keepForUndo_55 : decode cX8_keepForUndo 55 = .ok (.putfield 165, 3) := by decide +kernel
theorem dX8_keepForUndo_58 : decode cX8_keepForUndo 58 = .ok (.aload_n 0, 1) := by decide +kernel
theorem dX8_keepForUndo_59 : decode cX8_keepForUndo 59 = .ok (.getfield 43, 3) := by decide +kernel
theorem dX8_keepForUndo_62 : decode cX8_keepForUndo 62 = .ok (.aload_n 0, 1) := by decide +kernel
theorem dX8_keepForUndo_63 : decode cX8_keepForUndo 63 = .ok (.getfield 165, 3) := by decide +kernel
theorem dX8_keepForUndo_66 : decode cX8_keepForUndo 66 = .ok (.aaload, 1) := by decide +kernel
theorem dX8_keepForUndo_67 : decode cX8_keepForUndo 67 = .ok (.aload_n 0, 1) := by decide +kernel
theorem dX8_keepForUndo_68 : decode cX8_keepForUndo 68 = .ok (.getfield 48, 3) := by decide +kernel
theorem dX8_keepForUndo_71 : decode cX8_keepForUndo 71 = .ok (.invokevirtual 91, 3) := by decide +kernel
theorem dX8_keepForUndo_74 : decode cX8_keepForUndo 74 = .ok (.aload_n 0, 1) := by decide +kernel
theorem dX8_keepForUndo_75 : decode cX8_keepForUndo 75 = .ok (.dup, 1) := by decide +kernel
theorem dX8_keepForUndo_76 : decode cX8_keepForUndo 76 = .ok (.getfield 165, 3) := by decide +kernel
theorem dX8_keepForUndo_79 : decode cX8_keepForUndo 79 = .ok (.iconst 1, 1) := by decide +kernel
theorem dX8_keepForUndo_80 : decode cX8_keepForUndo 80 = .ok (.iadd, 1) := by decide +kernel
theorem dX8_keepForUndo_81 : decode cX8_keepForUndo 81 = .ok (.putfield 165, 3) := by decide +kernel
theorem dX8_keepForUndo_84 : decode cX8_keepForUndo 84 = .ok (.return_, 1) := by decide +kernel
theorem dX8_drawLines_0 : decode cX8_drawLines 0 = .ok (.lconst 0, 1) := by decide +kernel
theorem dX8_drawLines_1 : decode cX8_drawLines 1 = .ok (.lstore_n 3, 1) := by decide +kernel
theorem dX8_drawLines_2 : decode cX8_drawLines 2 = .ok (.iload_n 2, 1) := by decide +kernel
theorem dX8_drawLines_3 : decode cX8_drawLines 3 = .ok (.istore 5, 2) := by decide +kernel
theorem dX8_drawLines_5 : decode cX8_drawLines 5 = .ok (.aload_n 0, 1) := by decide +kernel
theorem dX8_drawLines_6 : decode cX8_drawLines 6 = .ok (.getfield 48, 3) := by decide +kernel
theorem dX8_drawLines_9 : decode cX8_drawLines 9 = .ok (.getfield 98, 3) := by decide +kernel
theorem dX8_drawLines_12 : decode cX8_drawLines 12 = .ok (.istore 6, 2) := by decide +kernel
theorem dX8_drawLines_14 : decode cX8_drawLines 14 = .ok (.iload 6, 2) := by decide +kernel
theorem dX8_drawLines_16 : decode cX8_drawLines 16 = .ok (.ifCond .le 53, 3) := by decide +kernel
theorem dX8_drawLines_19 : decode cX8_drawLines 19 = .ok (.iload 6, 2) := by decide +kernel
theorem dX8_drawLines_21 : decode cX8_drawLines 21 = .ok (.aload_n 0, 1) := by decide +kernel
theorem dX8_drawLines_22 : decode cX8_drawLines 22 = .ok (.getfield 48, 3) := by decide +kernel
theorem dX8_drawLines_25 : decode cX8_drawLines 25 = .ok (.getfield 98, 3) := by decide +kernel
theorem dX8_drawLines_28 : decode cX8_drawLines 28 = .ok (.iload_n 1, 1) := by decide +kernel
theorem dX8_drawLines_29 : decode cX8_drawLines 29 = .ok (.isub, 1) := by decide +kernel
theorem dX8_drawLines_30 : decode cX8_drawLines 30 = .ok (.if_icmp .le 39, 3) := by decide +kernel
theorem dX8_drawLines_33 : decode cX8_drawLines 33 = .ok (.iload 5, 2) := by decide +kernel
theorem dX8_drawLines_35 : decode cX8_drawLines 35 = .ok (.ldc_w 307, 3) := by decide +kernel
theorem dX8_drawLines_38 : decode cX8_drawLines 38 = .ok (.imul, 1) := by decide +kernel
theorem dX8_drawLines_39 : decode cX8_drawLines 39 = .ok (.sipush 12345, 3) := by decide +kernel
theorem dX8_drawLines_42 : decode cX8_drawLines 42 = .ok (.iadd, 1) := by decide +kernel
theorem dX8_drawLines_43 : decode cX8_drawLines 43 = .ok (.istore 5, 2) := by decide +kernel
theorem dX8_drawLines_45 : decode cX8_drawLines 45 = .ok (.lload_n 3, 1) := by decide +kernel
theorem dX8_drawLines_46 : decode cX8_drawLines 46 = .ok (.lconst 1, 1) := by decide +kernel
theorem dX8_drawLines_47 : decode cX8_drawLines 47 = .ok (.aload_n 0, 1) := by decide +kernel
theorem dX8_drawLines_48 : decode cX8_drawLines 48 = .ok (.lload_n 3, 1) := by decide +kernel
theorem dX8_drawLines_49 : decode cX8_drawLines 49 = .ok (.iload 5, 2) := by decide +kernel
theorem dX8_drawLines_51 : decode cX8_drawLines 51 = .ok (.bipush 8, 2) := by decide +kernel
theorem dX8_drawLines_53 : decode cX8_drawLines 53 = .ok (.iushr, 1) := by decide +kernel
theorem dX8_drawLines_54 : decode cX8_drawLines 54 = .ok (.iload 6, 2) := by decide +kernel
theorem dX8_drawLines_56 : decode cX8_drawLines 56 = .ok (.irem, 1) := by decide +kernel
theorem dX8_drawLines_57 : decode cX8_drawLines 57 = .ok (.invokevirtual 308, 3) := by decide +kernel
theorem dX8_drawLines_60 : decode cX8_drawLines 60 = .ok (.lshl, 1) := by decide +kernel
theorem dX8_drawLines_61 : decode cX8_drawLines 61 = .ok (.lor, 1) := by decide +kernel
theorem dX8_drawLines_62 : decode cX8_drawLines 62 = .ok (.lstore_n 3, 1) := by decide +kernel
theorem dX8_drawLines_63 : decode cX8_drawLines 63 = .ok (.iinc 6 (-1), 3) := by decide +kernel
theorem dX8_drawLines_66 : decode cX8_drawLines 66 = .ok (.goto (-52), 3) := by decide +kernel
theorem dX8_drawLines_69 : decode cX8_drawLines 69 = .ok (.lload_n 3, 1) := by decide +kernel
theorem dX8_drawLines_70 : decode cX8_drawLines 70 = .ok (.lreturn, 1) := by decide +kernel
theorem dX8_indexOfUndrawn_0 : decode cX8_indexOfUndrawn 0 = .ok (.iconst 0, 1) := by decide +kernel
theorem dX8_indexOfUndrawn_1 : decode cX8_indexOfUndrawn 1 = .ok (.istore 4, 2) := by decide +kernel
theorem dX8_indexOfUndrawn_3 : decode cX8_indexOfUndrawn 3 = .ok (.iconst 0, 1) := by decide +kernel
theorem dX8_indexOfUndrawn_4 : decode cX8_indexOfUndrawn 4 = .ok (.istore 5, 2) := by decide +kernel
theorem dX8_indexOfUndrawn_6 : decode cX8_indexOfUndrawn 6 = .ok (.iload 5, 2) := by decide +kernel
theorem dX8_indexOfUndrawn_8 : decode cX8_indexOfUndrawn 8 = .ok (.aload_n 0, 1) := by decide +kernel
theorem dX8_indexOfUndrawn_9 : decode cX8_indexOfUndrawn 9 = .ok (.getfield 48, 3) := by decide +kernel
theorem dX8_indexOfUndrawn_12 : decode cX8_indexOfUndrawn 12 = .ok (.getfield 98, 3) := by decide +kernel
theorem dX8_indexOfUndrawn_15 : decode cX8_indexOfUndrawn 15 = .ok (.if_icmp .ge 32, 3) := by decide +kernel
theorem dX8_indexOfUndrawn_18 : decode cX8_indexOfUndrawn 18 = .ok (.lload_n 1, 1) := by decide +kernel
theorem dX8_indexOfUndrawn_19 : decode cX8_indexOfUndrawn 19 = .ok (.iload 5, 2) := by decide +kernel
theorem dX8_indexOfUndrawn_21 : decode cX8_indexOfUndrawn 21 = .ok (.lshr, 1) := by decide +kernel
theorem dX8_indexOfUndrawn_22 : decode cX8_indexOfUndrawn 22 = .ok (.lconst 1, 1) := by decide +kernel
theorem dX8_indexOfUndrawn_23 : decode cX8_indexOfUndrawn 23 = .ok (.land, 1) := by decide +kernel
theorem dX8_indexOfUndrawn_24 : decode cX8_indexOfUndrawn 24 = .ok (.lconst 0, 1) := by decide +kernel
theorem dX8_indexOfUndrawn_25 : decode cX8_indexOfUndrawn 25 = .ok (.lcmp, 1) := by decide +kernel
theorem dX8_indexOfUndrawn_26 : decode cX8_indexOfUndrawn 26 = .ok (.ifCond .ne 15, 3) := by decide +kernel
theorem dX8_indexOfUndrawn_29 : decode cX8_indexOfUndrawn 29 = .ok (.iload 4, 2) := by decide +kernel
theorem dX8_indexOfUndrawn_31 : decode cX8_indexOfUndrawn 31 = .ok (.iload_n 3, 1) := by decide +kernel
theorem dX8_indexOfUndrawn_32 : decode cX8_indexOfUndrawn 32 = .ok (.if_icmp .ne 6, 3) := by decide +kernel
theorem dX8_indexOfUndrawn_35 : decode cX8_indexOfUndrawn 35 = .ok (.iload 5, 2) := by decide +kernel
theorem dX8_indexOfUndrawn_37 : decode cX8_indexOfUndrawn 37 = .ok (.ireturn, 1) := by decide +kernel
theorem dX8_indexOfUndrawn_38 : decode cX8_indexOfUndrawn 38 = .ok (.iinc 4 1, 3) := by decide +kernel
theorem dX8_indexOfUndrawn_41 : decode cX8_indexOfUndrawn 41 = .ok (.iinc 5 1, 3) := by decide +kernel
theorem dX8_indexOfUndrawn_44 : decode cX8_indexOfUndrawn 44 = .ok (.goto (-38), 3) := by decide +kernel
theorem dX8_indexOfUndrawn_47 : decode cX8_indexOfUndrawn 47 = .ok (.iconst 0, 1) := by decide +kernel
theorem dX8_indexOfUndrawn_48 : decode cX8_indexOfUndrawn 48 = .ok (.ireturn, 1) := by decide +kernel
theorem dX8_verdictOf_0 : decode cX8_verdictOf 0 = .ok (.aload_n 0, 1) := by decide +kernel
theorem dX8_verdictOf_1 : decode cX8_verdictOf 1 = .ok (.getfield 37, 3) := by decide +kernel
theorem dX8_verdictOf_4 : decode cX8_verdictOf 4 = .ok (.aload_n 0, 1) := by decide +kernel
theorem dX8_verdictOf_5 : decode cX8_verdictOf 5 = .ok (.getfield 48, 3) := by decide +kernel
theorem dX8_verdictOf_8 : decode cX8_verdictOf 8 = .ok (.getfield 98, 3) := by decide +kernel
theorem dX8_verdictOf_11 : decode cX8_verdictOf 11 = .ok (.iload_n 1, 1) := by decide +kernel
theorem dX8_verdictOf_12 : decode cX8_verdictOf 12 = .ok (.iload_n 2, 1) := by decide +kernel
theorem dX8_verdictOf_13 : decode cX8_verdictOf 13 = .ok (.aload_n 0, 1) := by decide +kernel
theorem dX8_verdictOf_14 : decode cX8_verdictOf 14 = .ok (.getfield 48, 3) := by decide +kernel
theorem dX8_verdictOf_17 : decode cX8_verdictOf 17 = .ok (.getfield 186, 3) := by decide +kernel
theorem dX8_verdictOf_20 : decode cX8_verdictOf 20 = .ok (.invokevirtual 235, 3) := by decide +kernel
theorem dX8_verdictOf_23 : decode cX8_verdictOf 23 = .ok (.aload_n 0, 1) := by decide +kernel
theorem dX8_verdictOf_24 : decode cX8_verdictOf 24 = .ok (.getfield 48, 3) := by decide +kernel
theorem dX8_verdictOf_27 : decode cX8_verdictOf 27 = .ok (.getfield 174, 3) := by decide +kernel
theorem dX8_verdictOf_30 : decode cX8_verdictOf 30 = .ok (.if_icmp .lt 5, 3) := by decide +kernel
theorem dX8_verdictOf_33 : decode cX8_verdictOf 33 = .ok (.iconst 1, 1) := by decide +kernel
theorem dX8_verdictOf_34 : decode cX8_verdictOf 34 = .ok (.ireturn, 1) := by decide +kernel
theorem dX8_verdictOf_35 : decode cX8_verdictOf 35 = .ok (.aload_n 0, 1) := by decide +kernel
theorem dX8_verdictOf_36 : decode cX8_verdictOf 36 = .ok (.getfield 37, 3) := by decide +kernel
theorem dX8_verdictOf_39 : decode cX8_verdictOf 39 = .ok (.aload_n 0, 1) := by decide +kernel
theorem dX8_verdictOf_40 : decode cX8_verdictOf 40 = .ok (.getfield 48, 3) := by decide +kernel
theorem dX8_verdictOf_43 : decode cX8_verdictOf 43 = .ok (.getfield 98, 3) := by decide +kernel
theorem dX8_verdictOf_46 : decode cX8_verdictOf 46 = .ok (.iload_n 1, 1) := by decide +kernel
theorem dX8_verdictOf_47 : decode cX8_verdictOf 47 = .ok (.iload_n 2, 1) := by decide +kernel
theorem dX8_verdictOf_48 : decode cX8_verdictOf 48 = .ok (.aload_n 0, 1) := by decide +kernel
theorem dX8_verdictOf_49 : decode cX8_verdictOf 49 = .ok (.getfield 48, 3) := by decide +kernel
theorem dX8_verdictOf_52 : decode cX8_verdictOf 52 = .ok (.getfield 186, 3) := by decide +kernel
theorem dX8_verdictOf_55 : decode cX8_verdictOf 55 = .ok (.invokevirtual 239, 3) := by decide +kernel
theorem dX8_verdictOf_58 : decode cX8_verdictOf 58 = .ok (.aload_n 0, 1) := by decide +kernel
theorem dX8_verdictOf_59 : decode cX8_verdictOf 59 = .ok (.getfield 48, 3) := by decide +kernel
theorem dX8_verdictOf_62 : decode cX8_verdictOf 62 = .ok (.getfield 174, 3) := by decide +kernel
theorem dX8_verdictOf_65 : decode cX8_verdictOf 65 = .ok (.if_icmp .ge 7, 3) := by decide +kernel
theorem dX8_verdictOf_68 : decode cX8_verdictOf 68 = .ok (.iconst 2, 1) := by decide +kernel
theorem dX8_verdictOf_69 : decode cX8_verdictOf 69 = .ok (.goto 4, 3) := by decide +kernel
theorem dX8_verdictOf_72 : decode cX8_verdictOf 72 = .ok (.iconst 0, 1) := by decide +kernel
theorem dX8_verdictOf_73 : decode cX8_verdictOf 73 = .ok (.ireturn, 1) := by decide +kernel
theorem dX8_inLowestTerms_0 : decode cX8_inLowestTerms 0 = .ok (.lload_n 0, 1) := by decide +kernel
theorem dX8_inLowestTerms_1 : decode cX8_inLowestTerms 1 = .ok (.lload_n 2, 1) := by decide +kernel
theorem dX8_inLowestTerms_2 : decode cX8_inLowestTerms 2 = .ok (.invokestatic 312, 3) := by decide +kernel
theorem dX8_inLowestTerms_5 : decode cX8_inLowestTerms 5 = .ok (.lstore 5, 2) := by decide +kernel
theorem dX8_inLowestTerms_7 : decode cX8_inLowestTerms 7 = .ok (.lload 5, 2) := by decide +kernel
theorem dX8_inLowestTerms_9 : decode cX8_inLowestTerms 9 = .ok (.lconst 0, 1) := by decide +kernel
theorem dX8_inLowestTerms_10 : decode cX8_inLowestTerms 10 = .ok (.lcmp, 1) := by decide +kernel
theorem dX8_inLowestTerms_11 : decode cX8_inLowestTerms 11 = .ok (.ifCond .ne 5, 3) := by decide +kernel
theorem dX8_inLowestTerms_14 : decode cX8_inLowestTerms 14 = .ok (.lconst 0, 1) := by decide +kernel
theorem dX8_inLowestTerms_15 : decode cX8_inLowestTerms 15 = .ok (.lreturn, 1) := by decide +kernel
theorem dX8_inLowestTerms_16 : decode cX8_inLowestTerms 16 = .ok (.iload 4, 2) := by decide +kernel
theorem dX8_inLowestTerms_18 : decode cX8_inLowestTerms 18 = .ok (.ifCond .ne 7, 3) := by decide +kernel
theorem dX8_inLowestTerms_21 : decode cX8_inLowestTerms 21 = .ok (.lload_n 0, 1) := by decide +kernel
theorem dX8_inLowestTerms_22 : decode cX8_inLowestTerms 22 = .ok (.goto 4, 3) := by decide +kernel
theorem dX8_inLowestTerms_25 : decode cX8_inLowestTerms 25 = .ok (.lload_n 2, 1) := by decide +kernel
theorem dX8_inLowestTerms_26 : decode cX8_inLowestTerms 26 = .ok (.lload 5, 2) := by decide +kernel
theorem dX8_inLowestTerms_28 : decode cX8_inLowestTerms 28 = .ok (.ldiv, 1) := by decide +kernel
theorem dX8_inLowestTerms_29 : decode cX8_inLowestTerms 29 = .ok (.lreturn, 1) := by decide +kernel
