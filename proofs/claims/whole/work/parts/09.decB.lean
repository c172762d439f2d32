theorem dX9_init_0 : decode cX9_init 0 = .ok (.aload_n 0, 1) := by decide +kernel
theorem dX9_init_1 : decode cX9_init 1 = .ok (.invokespecial 3, 3) := by decide +kernel
theorem dX9_init_4 : decode cX9_init 4 = .ok (.aload_n 0, 1) := by decide +kernel
theorem dX9_init_5 : decode cX9_init 5 = .ok (.iconst 3, 1) := by decide +kernel
theorem dX9_init_6 : decode cX9_init 6 = .ok (.newarray .int, 2) := by decide +kernel
theorem dX9_init_8 : decode cX9_init 8 = .ok (.putfield 9, 3) := by decide +kernel
theorem dX9_init_11 : decode cX9_init 11 = .ok (.aload_n 0, 1) := by decide +kernel
theorem dX9_init_12 : decode cX9_init 12 = .ok (.iconst (-1), 1) := by decide +kernel
theorem dX9_init_13 : decode cX9_init 13 = .ok (.putfield 13, 3) := by decide +kernel
theorem dX9_init_16 : decode cX9_init 16 = .ok (.aload_n 0, 1) := by decide +kernel
theorem dX9_init_17 : decode cX9_init 17 = .ok (.sipush 600, 3) := by decide +kernel
theorem dX9_init_20 : decode cX9_init 20 = .ok (.newarray .int, 2) := by decide +kernel
theorem dX9_init_22 : decode cX9_init 22 = .ok (.putfield 17, 3) := by decide +kernel
theorem dX9_init_25 : decode cX9_init 25 = .ok (.aload_n 0, 1) := by decide +kernel
theorem dX9_init_26 : decode cX9_init 26 = .ok (.sipush 1105, 3) := by decide +kernel
theorem dX9_init_29 : decode cX9_init 29 = .ok (.newarray .int, 2) := by decide +kernel
theorem dX9_init_31 : decode cX9_init 31 = .ok (.putfield 20, 3) := by decide +kernel
theorem dX9_init_34 : decode cX9_init 34 = .ok (.aload_n 0, 1) := by decide +kernel
theorem dX9_init_35 : decode cX9_init 35 = .ok (.sipush 1105, 3) := by decide +kernel
theorem dX9_init_38 : decode cX9_init 38 = .ok (.newarray .int, 2) := by decide +kernel
theorem dX9_init_40 : decode cX9_init 40 = .ok (.putfield 23, 3) := by decide +kernel
theorem dX9_init_43 : decode cX9_init 43 = .ok (.aload_n 0, 1) := by decide +kernel
theorem dX9_init_44 : decode cX9_init 44 = .ok (.bipush 8, 2) := by decide +kernel
theorem dX9_init_46 : decode cX9_init 46 = .ok (.sipush 1105, 3) := by decide +kernel
theorem dX9_init_49 : decode cX9_init 49 = .ok (.multianewarray 26 2, 4) := by decide +kernel
theorem dX9_init_53 : decode cX9_init 53 = .ok (.putfield 28, 3) := by decide +kernel
theorem dX9_init_56 : decode cX9_init 56 = .ok (.aload_n 0, 1) := by decide +kernel
theorem dX9_init_57 : decode cX9_init 57 = .ok (.bipush 40, 2) := by decide +kernel
theorem dX9_init_59 : decode cX9_init 59 = .ok (.newarray .int, 2) := by decide +kernel
theorem dX9_init_61 : decode cX9_init 61 = .ok (.putfield 31, 3) := by decide +kernel
theorem dX9_init_64 : decode cX9_init 64 = .ok (.aload_n 0, 1) := by decide +kernel
theorem dX9_init_65 : decode cX9_init 65 = .ok (.bipush 40, 2) := by decide +kernel
theorem dX9_init_67 : decode cX9_init 67 = .ok (.newarray .int, 2) := by decide +kernel
theorem dX9_init_69 : decode cX9_init 69 = .ok (.putfield 34, 3) := by decide +kernel
theorem dX9_init_72 : decode cX9_init 72 = .ok (.aload_n 0, 1) := by decide +kernel
theorem dX9_init_73 : decode cX9_init 73 = .ok (.sipush 800, 3) := by decide +kernel
theorem dX9_init_76 : decode cX9_init 76 = .ok (.newarray .int, 2) := by decide +kernel
theorem dX9_init_78 : decode cX9_init 78 = .ok (.putfield 37, 3) := by decide +kernel
theorem dX9_init_81 : decode cX9_init 81 = .ok (.aload_n 0, 1) := by decide +kernel
theorem dX9_init_82 : decode cX9_init 82 = .ok (.bipush 41, 2) := by decide +kernel
theorem dX9_init_84 : decode cX9_init 84 = .ok (.newarray .long, 2) := by decide +kernel
theorem dX9_init_86 : decode cX9_init 86 = .ok (.putfield 40, 3) := by decide +kernel
theorem dX9_init_89 : decode cX9_init 89 = .ok (.aload_n 0, 1) := by decide +kernel
theorem dX9_init_90 : decode cX9_init 90 = .ok (.getfield 20, 3) := by decide +kernel
theorem dX9_init_93 : decode cX9_init 93 = .ok (.invokestatic 44, 3) := by decide +kernel
theorem dX9_init_96 : decode cX9_init 96 = .ok (.return_, 1) := by decide +kernel
theorem dX9_begins_0 : decode cX9_begins 0 = .ok (.iconst 0, 1) := by decide +kernel
theorem dX9_begins_1 : decode cX9_begins 1 = .ok (.istore_n 1, 1) := by decide +kernel
theorem dX9_begins_2 : decode cX9_begins 2 = .ok (.iload_n 1, 1) := by decide +kernel
theorem dX9_begins_3 : decode cX9_begins 3 = .ok (.sipush 1105, 3) := by decide +kernel
theorem dX9_begins_6 : decode cX9_begins 6 = .ok (.if_icmp .ge 13, 3) := by decide +kernel
theorem dX9_begins_9 : decode cX9_begins 9 = .ok (.aload_n 0, 1) := by decide +kernel
theorem dX9_begins_10 : decode cX9_begins 10 = .ok (.iload_n 1, 1) := by decide +kernel
theorem dX9_begins_11 : decode cX9_begins 11 = .ok (.iconst 0, 1) := by decide +kernel
theorem dX9_begins_12 : decode cX9_begins 12 = .ok (.iastore, 1) := by decide +kernel
theorem dX9_begins_13 : decode cX9_begins 13 = .ok (.iinc 1 1, 3) := by decide +kernel
theorem dX9_begins_16 : decode cX9_begins 16 = .ok (.goto (-14), 3) := by decide +kernel
theorem dX9_begins_19 : decode cX9_begins 19 = .ok (.aload_n 0, 1) := by decide +kernel
theorem dX9_begins_20 : decode cX9_begins 20 = .ok (.iconst 3, 1) := by decide +kernel
theorem dX9_begins_21 : decode cX9_begins 21 = .ok (.iconst 1, 1) := by decide +kernel
theorem dX9_begins_22 : decode cX9_begins 22 = .ok (.iastore, 1) := by decide +kernel
theorem dX9_begins_23 : decode cX9_begins 23 = .ok (.aload_n 0, 1) := by decide +kernel
theorem dX9_begins_24 : decode cX9_begins 24 = .ok (.iconst 5, 1) := by decide +kernel
theorem dX9_begins_25 : decode cX9_begins 25 = .ok (.sipush 999, 3) := by decide +kernel
theorem dX9_begins_28 : decode cX9_begins 28 = .ok (.iastore, 1) := by decide +kernel
theorem dX9_begins_29 : decode cX9_begins 29 = .ok (.aload_n 0, 1) := by decide +kernel
theorem dX9_begins_30 : decode cX9_begins 30 = .ok (.bipush 6, 2) := by decide +kernel
theorem dX9_begins_32 : decode cX9_begins 32 = .ok (.bipush 100, 2) := by decide +kernel
theorem dX9_begins_34 : decode cX9_begins 34 = .ok (.iastore, 1) := by decide +kernel
theorem dX9_begins_35 : decode cX9_begins 35 = .ok (.aload_n 0, 1) := by decide +kernel
theorem dX9_begins_36 : decode cX9_begins 36 = .ok (.bipush 7, 2) := by decide +kernel
theorem dX9_begins_38 : decode cX9_begins 38 = .ok (.bipush 50, 2) := by decide +kernel
theorem dX9_begins_40 : decode cX9_begins 40 = .ok (.iastore, 1) := by decide +kernel
theorem dX9_begins_41 : decode cX9_begins 41 = .ok (.return_, 1) := by decide +kernel
theorem dX9_thrown_0 : decode cX9_thrown 0 = .ok (.aload_n 0, 1) := by decide +kernel
theorem dX9_thrown_1 : decode cX9_thrown 1 = .ok (.getfield 48, 3) := by decide +kernel
theorem dX9_thrown_4 : decode cX9_thrown 4 = .ok (.ireturn, 1) := by decide +kernel
theorem dX9_bad_0 : decode cX9_bad 0 = .ok (.iload_n 1, 1) := by decide +kernel
theorem dX9_bad_1 : decode cX9_bad 1 = .ok (.ifCond .eq 25, 3) := by decide +kernel
theorem dX9_bad_4 : decode cX9_bad 4 = .ok (.aload_n 0, 1) := by decide +kernel
theorem dX9_bad_5 : decode cX9_bad 5 = .ok (.getfield 48, 3) := by decide +kernel
theorem dX9_bad_8 : decode cX9_bad 8 = .ok (.ifCond .ne 18, 3) := by decide +kernel
theorem dX9_bad_11 : decode cX9_bad 11 = .ok (.aload_n 0, 1) := by decide +kernel
theorem dX9_bad_12 : decode cX9_bad 12 = .ok (.iload_n 2, 1) := by decide +kernel
theorem dX9_bad_13 : decode cX9_bad 13 = .ok (.putfield 48, 3) := by decide +kernel
theorem dX9_bad_16 : decode cX9_bad 16 = .ok (.aload_n 0, 1) := by decide +kernel
theorem dX9_bad_17 : decode cX9_bad 17 = .ok (.getfield 9, 3) := by decide +kernel
theorem dX9_bad_20 : decode cX9_bad 20 = .ok (.iload_n 3, 1) := by decide +kernel
theorem dX9_bad_21 : decode cX9_bad 21 = .ok (.dup2, 1) := by decide +kernel
theorem dX9_bad_22 : decode cX9_bad 22 = .ok (.iaload, 1) := by decide +kernel
theorem dX9_bad_23 : decode cX9_bad 23 = .ok (.iconst 1, 1) := by decide +kernel
theorem dX9_bad_24 : decode cX9_bad 24 = .ok (.iadd, 1) := by decide +kernel
theorem dX9_bad_25 : decode cX9_bad 25 = .ok (.iastore, 1) := by decide +kernel
theorem dX9_bad_26 : decode cX9_bad 26 = .ok (.aload_n 0, 1) := by decide +kernel
theorem dX9_bad_27 : decode cX9_bad 27 = .ok (.getfield 48, 3) := by decide +kernel
theorem dX9_bad_30 : decode cX9_bad 30 = .ok (.ifCond .eq 7, 3) := by decide +kernel
theorem dX9_bad_33 : decode cX9_bad 33 = .ok (.iconst 1, 1) := by decide +kernel
theorem dX9_bad_34 : decode cX9_bad 34 = .ok (.goto 4, 3) := by decide +kernel
theorem dX9_bad_37 : decode cX9_bad 37 = .ok (.iconst 0, 1) := by decide +kernel
theorem dX9_bad_38 : decode cX9_bad 38 = .ok (.ireturn, 1) := by decide +kernel
theorem dX9_in_0 : decode cX9_in 0 = .ok (.lload_n 0, 1) := by decide +kernel
theorem dX9_in_1 : decode cX9_in 1 = .ok (.lload_n 2, 1) := by decide +kernel
theorem dX9_in_2 : decode cX9_in 2 = .ok (.lcmp, 1) := by decide +kernel
theorem dX9_in_3 : decode cX9_in 3 = .ok (.ifCond .lt 14, 3) := by decide +kernel
theorem dX9_in_6 : decode cX9_in 6 = .ok (.lload_n 0, 1) := by decide +kernel
theorem dX9_in_7 : decode cX9_in 7 = .ok (.lload 4, 2) := by decide +kernel
theorem dX9_in_9 : decode cX9_in 9 = .ok (.lcmp, 1) := by decide +kernel
theorem dX9_in_10 : decode cX9_in 10 = .ok (.ifCond .gt 7, 3) := by decide +kernel
theorem dX9_in_13 : decode cX9_in 13 = .ok (.iconst 1, 1) := by decide +kernel
theorem dX9_in_14 : decode cX9_in 14 = .ok (.goto 4, 3) := by decide +kernel
theorem dX9_in_17 : decode cX9_in 17 = .ok (.iconst 0, 1) := by decide +kernel
theorem dX9_in_18 : decode cX9_in 18 = .ok (.ireturn, 1) := by decide +kernel
theorem dX9_less_0 : decode cX9_less 0 = .ok (.iload_n 0, 1) := by decide +kernel
theorem dX9_less_1 : decode cX9_less 1 = .ok (.iload_n 1, 1) := by decide +kernel
theorem dX9_less_2 : decode cX9_less 2 = .ok (.if_icmp .ge 7, 3) := by decide +kernel
theorem dX9_less_5 : decode cX9_less 5 = .ok (.iload_n 0, 1) := by decide +kernel
theorem dX9_less_6 : decode cX9_less 6 = .ok (.goto 4, 3) := by decide +kernel
theorem dX9_less_9 : decode cX9_less 9 = .ok (.iload_n 1, 1) := by decide +kernel
theorem dX9_less_10 : decode cX9_less 10 = .ok (.ireturn, 1) := by decide +kernel
theorem dX9_feed_0 : decode cX9_feed 0 = .ok (.aload_n 0, 1) := by decide +kernel
theorem dX9_feed_1 : decode cX9_feed 1 = .ok (.iconst 0, 1) := by decide +kernel
theorem dX9_feed_2 : decode cX9_feed 2 = .ok (.putfield 48, 3) := by decide +kernel
theorem dX9_feed_5 : decode cX9_feed 5 = .ok (.aload_n 0, 1) := by decide +kernel
theorem dX9_feed_6 : decode cX9_feed 6 = .ok (.getfield 51, 3) := by decide +kernel
theorem dX9_feed_9 : decode cX9_feed 9 = .ok (.bipush 20, 2) := by decide +kernel
theorem dX9_feed_11 : decode cX9_feed 11 = .ok (.iadd, 1) := by decide +kernel
theorem dX9_feed_12 : decode cX9_feed 12 = .ok (.sipush 600, 3) := by decide +kernel
theorem dX9_feed_15 : decode cX9_feed 15 = .ok (.if_icmp .le 5, 3) := by decide +kernel
theorem dX9_feed_18 : decode cX9_feed 18 = .ok (.iconst (-1), 1) := by decide +kernel
theorem dX9_feed_19 : decode cX9_feed 19 = .ok (.ireturn, 1) := by decide +kernel
theorem dX9_feed_20 : decode cX9_feed 20 = .ok (.iconst 0, 1) := by decide +kernel
theorem dX9_feed_21 : decode cX9_feed 21 = .ok (.istore 6, 2) := by decide +kernel
theorem dX9_feed_23 : decode cX9_feed 23 = .ok (.iload 6, 2) := by decide +kernel
theorem dX9_feed_25 : decode cX9_feed 25 = .ok (.bipush 20, 2) := by decide +kernel
theorem dX9_feed_27 : decode cX9_feed 27 = .ok (.if_icmp .ge 93, 3) := by decide +kernel
theorem dX9_feed_30 : decode cX9_feed 30 = .ok (.iload 6, 2) := by decide +kernel
theorem dX9_feed_32 : decode cX9_feed 32 = .ok (.iconst 4, 1) := by decide +kernel
theorem dX9_feed_33 : decode cX9_feed 33 = .ok (.if_icmp .ge 7, 3) := by decide +kernel
theorem dX9_feed_36 : decode cX9_feed 36 = .ok (.iload_n 1, 1) := by decide +kernel
theorem dX9_feed_37 : decode cX9_feed 37 = .ok (.goto 39, 3) := by decide +kernel
theorem dX9_feed_40 : decode cX9_feed 40 = .ok (.iload 6, 2) := by decide +kernel
theorem dX9_feed_42 : decode cX9_feed 42 = .ok (.bipush 8, 2) := by decide +kernel
theorem dX9_feed_44 : decode cX9_feed 44 = .ok (.if_icmp .ge 7, 3) := by decide +kernel
theorem dX9_feed_47 : decode cX9_feed 47 = .ok (.iload_n 2, 1) := by decide +kernel
theorem dX9_feed_48 : decode cX9_feed 48 = .ok (.goto 28, 3) := by decide +kernel
theorem dX9_feed_51 : decode cX9_feed 51 = .ok (.iload 6, 2) := by decide +kernel
theorem dX9_feed_53 : decode cX9_feed 53 = .ok (.bipush 12, 2) := by decide +kernel
theorem dX9_feed_55 : decode cX9_feed 55 = .ok (.if_icmp .ge 7, 3) := by decide +kernel
theorem dX9_feed_58 : decode cX9_feed 58 = .ok (.iload_n 3, 1) := by decide +kernel
theorem dX9_feed_59 : decode cX9_feed 59 = .ok (.goto 17, 3) := by decide +kernel
theorem dX9_feed_62 : decode cX9_feed 62 = .ok (.iload 6, 2) := by decide +kernel
theorem dX9_feed_64 : decode cX9_feed 64 = .ok (.bipush 16, 2) := by decide +kernel
theorem dX9_feed_66 : decode cX9_feed 66 = .ok (.if_icmp .ge 8, 3) := by decide +kernel
theorem dX9_feed_69 : decode cX9_feed 69 = .ok (.iload 4, 2) := by decide +kernel
theorem dX9_feed_71 : decode cX9_feed 71 = .ok (.goto 5, 3) := by decide +kernel
theorem dX9_feed_74 : decode cX9_feed 74 = .ok (.iload 5, 2) := by decide +kernel
theorem dX9_feed_76 : decode cX9_feed 76 = .ok (.istore 7, 2) := by decide +kernel
theorem dX9_feed_78 : decode cX9_feed 78 = .ok (.aload_n 0, 1) := by decide +kernel
theorem dX9_feed_79 : decode cX9_feed 79 = .ok (.getfield 17, 3) := by decide +kernel
theorem dX9_feed_82 : decode cX9_feed 82 = .ok (.aload_n 0, 1) := by decide +kernel
theorem dX9_feed_83 : decode cX9_feed 83 = .ok (.getfield 51, 3) := by decide +kernel
theorem dX9_feed_86 : decode cX9_feed 86 = .ok (.iload 7, 2) := by decide +kernel
theorem dX9_feed_88 : decode cX9_feed 88 = .ok (.bipush 24, 2) := by decide +kernel
theorem dX9_feed_90 : decode cX9_feed 90 = .ok (.bipush 8, 2) := by decide +kernel
theorem dX9_feed_92 : decode cX9_feed 92 = .ok (.iload 6, 2) := by decide +kernel
theorem dX9_feed_94 : decode cX9_feed 94 = .ok (.iconst 4, 1) := by decide +kernel
theorem dX9_feed_95 : decode cX9_feed 95 = .ok (.irem, 1) := by decide +kernel
theorem dX9_feed_96 : decode cX9_feed 96 = .ok (.imul, 1) := by decide +kernel
theorem dX9_feed_97 : decode cX9_feed 97 = .ok (.isub, 1) := by decide +kernel
theorem dX9_feed_98 : decode cX9_feed 98 = .ok (.ishr, 1) := by decide +kernel
theorem dX9_feed_99 : decode cX9_feed 99 = .ok (.sipush 255, 3) := by decide +kernel
theorem dX9_feed_102 : decode cX9_feed 102 = .ok (.iand, 1) := by decide +kernel
theorem dX9_feed_103 : decode cX9_feed 103 = .ok (.iastore, 1) := by decide +kernel
theorem dX9_feed_104 : decode cX9_feed 104 = .ok (.aload_n 0, 1) := by decide +kernel
theorem dX9_feed_105 : decode cX9_feed 105 = .ok (.dup, 1) := by decide +kernel
theorem dX9_feed_106 : decode cX9_feed 106 = .ok (.getfield 51, 3) := by decide +kernel
theorem dX9_feed_109 : decode cX9_feed 109 = .ok (.iconst 1, 1) := by decide +kernel
theorem dX9_feed_110 : decode cX9_feed 110 = .ok (.iadd, 1) := by decide +kernel
theorem dX9_feed_111 : decode cX9_feed 111 = .ok (.putfield 51, 3) := by decide +kernel
theorem dX9_feed_114 : decode cX9_feed 114 = .ok (.iinc 6 1, 3) := by decide +kernel
theorem dX9_feed_117 : decode cX9_feed 117 = .ok (.goto (-94), 3) := by decide +kernel
theorem dX9_feed_120 : decode cX9_feed 120 = .ok (.aload_n 0, 1) := by decide +kernel
theorem dX9_feed_121 : decode cX9_feed 121 = .ok (.getfield 51, 3) := by decide +kernel
theorem dX9_feed_124 : decode cX9_feed 124 = .ok (.ireturn, 1) := by decide +kernel
theorem dX9_copies_0 : decode cX9_copies 0 = .ok (.iconst 0, 1) := by decide +kernel
theorem dX9_copies_1 : decode cX9_copies 1 = .ok (.istore_n 2, 1) := by decide +kernel
theorem dX9_copies_2 : decode cX9_copies 2 = .ok (.iload_n 2, 1) := by decide +kernel
theorem dX9_copies_3 : decode cX9_copies 3 = .ok (.sipush 1105, 3) := by decide +kernel
theorem dX9_copies_6 : decode cX9_copies 6 = .ok (.if_icmp .ge 15, 3) := by decide +kernel
theorem dX9_copies_9 : decode cX9_copies 9 = .ok (.aload_n 1, 1) := by decide +kernel
theorem dX9_copies_10 : decode cX9_copies 10 = .ok (.iload_n 2, 1) := by decide +kernel
theorem dX9_copies_11 : decode cX9_copies 11 = .ok (.aload_n 0, 1) := by decide +kernel
theorem dX9_copies_12 : decode cX9_copies 12 = .ok (.iload_n 2, 1) := by decide +kernel
theorem dX9_copies_13 : decode cX9_copies 13 = .ok (.iaload, 1) := by decide +kernel
theorem dX9_copies_14 : decode cX9_copies 14 = .ok (.iastore, 1) := by decide +kernel
theorem dX9_copies_15 : decode cX9_copies 15 = .ok (.iinc 2 1, 3) := by decide +kernel
theorem dX9_copies_18 : decode cX9_copies 18 = .ok (.goto (-16), 3) := by decide +kernel
theorem dX9_copies_21 : decode cX9_copies 21 = .ok (.return_, 1) := by decide +kernel
theorem dX9_lineAt_0 : decode cX9_lineAt 0 = .ok (.bipush 65, 2) := by decide +kernel
theorem dX9_lineAt_2 : decode cX9_lineAt 2 = .ok (.iconst 4, 1) := by decide +kernel
theorem dX9_lineAt_3 : decode cX9_lineAt 3 = .ok (.iload_n 0, 1) := by decide +kernel
theorem dX9_lineAt_4 : decode cX9_lineAt 4 = .ok (.imul, 1) := by decide +kernel
theorem dX9_lineAt_5 : decode cX9_lineAt 5 = .ok (.iadd, 1) := by decide +kernel
theorem dX9_lineAt_6 : decode cX9_lineAt 6 = .ok (.iload_n 1, 1) := by decide +kernel
theorem dX9_lineAt_7 : decode cX9_lineAt 7 = .ok (.iadd, 1) := by decide +kernel
theorem dX9_lineAt_8 : decode cX9_lineAt 8 = .ok (.ireturn, 1) := by decide +kernel
theorem dX9_voterAt_0 : decode cX9_voterAt 0 = .ok (.bipush 9, 2) := by decide +kernel
theorem dX9_voterAt_2 : decode cX9_voterAt 2 = .ok (.iconst 3, 1) := by decide +kernel
theorem dX9_voterAt_3 : decode cX9_voterAt 3 = .ok (.iload_n 0, 1) := by decide +kernel
theorem dX9_voterAt_4 : decode cX9_voterAt 4 = .ok (.imul, 1) := by decide +kernel
theorem dX9_voterAt_5 : decode cX9_voterAt 5 = .ok (.iadd, 1) := by decide +kernel
theorem dX9_voterAt_6 : decode cX9_voterAt 6 = .ok (.iload_n 1, 1) := by decide +kernel
theorem dX9_voterAt_7 : decode cX9_voterAt 7 = .ok (.iadd, 1) := by decide +kernel
theorem dX9_voterAt_8 : decode cX9_voterAt 8 = .ok (.ireturn, 1) := by decide +kernel
theorem dX9_lines_0 : decode cX9_lines 0 = .ok (.aload_n 0, 1) := by decide +kernel
theorem dX9_lines_1 : decode cX9_lines 1 = .ok (.getfield 20, 3) := by decide +kernel
theorem dX9_lines_4 : decode cX9_lines 4 = .ok (.iconst 2, 1) := by decide +kernel
theorem dX9_lines_5 : decode cX9_lines 5 = .ok (.iaload, 1) := by decide +kernel
theorem dX9_lines_6 : decode cX9_lines 6 = .ok (.ireturn, 1) := by decide +kernel
theorem dX9_byteAt_0 : decode cX9_byteAt 0 = .ok (.iload_n 1, 1) := by decide +kernel
theorem dX9_byteAt_1 : decode cX9_byteAt 1 = .ok (.aload_n 0, 1) := by decide +kernel
theorem dX9_byteAt_2 : decode cX9_byteAt 2 = .ok (.getfield 54, 3) := by decide +kernel
theorem dX9_byteAt_5 : decode cX9_byteAt 5 = .ok (.if_icmp .lt 7, 3) := by decide +kernel
theorem dX9_byteAt_8 : decode cX9_byteAt 8 = .ok (.iconst (-1), 1) := by decide +kernel
theorem dX9_byteAt_9 : decode cX9_byteAt 9 = .ok (.goto 9, 3) := by decide +kernel
theorem dX9_byteAt_12 : decode cX9_byteAt 12 = .ok (.aload_n 0, 1) := by decide +kernel
theorem dX9_byteAt_13 : decode cX9_byteAt 13 = .ok (.getfield 17, 3) := by decide +kernel
theorem dX9_byteAt_16 : decode cX9_byteAt 16 = .ok (.iload_n 1, 1) := by decide +kernel
theorem dX9_byteAt_17 : decode cX9_byteAt 17 = .ok (.iaload, 1) := by decide +kernel
theorem dX9_byteAt_18 : decode cX9_byteAt 18 = .ok (.ireturn, 1) := by decide +kernel
theorem dX9_here_0 : decode cX9_here 0 = .ok (.aload_n 0, 1) := by decide +kernel
theorem dX9_here_1 : decode cX9_here 1 = .ok (.aload_n 0, 1) := by decide +kernel
theorem dX9_here_2 : decode cX9_here 2 = .ok (.getfield 57, 3) := by decide +kernel
theorem dX9_here_5 : decode cX9_here 5 = .ok (.invokevirtual 60, 3) := by decide +kernel
theorem dX9_here_8 : decode cX9_here 8 = .ok (.bipush 32, 2) := by decide +kernel
theorem dX9_here_10 : decode cX9_here 10 = .ok (.if_icmp .ne 16, 3) := by decide +kernel
theorem dX9_here_13 : decode cX9_here 13 = .ok (.aload_n 0, 1) := by decide +kernel
theorem dX9_here_14 : decode cX9_here 14 = .ok (.dup, 1) := by decide +kernel
theorem dX9_here_15 : decode cX9_here 15 = .ok (.getfield 57, 3) := by decide +kernel
theorem dX9_here_18 : decode cX9_here 18 = .ok (.iconst 1, 1) := by decide +kernel
theorem dX9_here_19 : decode cX9_here 19 = .ok (.iadd, 1) := by decide +kernel
theorem dX9_here_20 : decode cX9_here 20 = .ok (.putfield 57, 3) := by decide +kernel
theorem dX9_here_23 : decode cX9_here 23 = .ok (.goto (-23), 3) := by decide +kernel
theorem dX9_here_26 : decode cX9_here 26 = .ok (.aload_n 0, 1) := by decide +kernel
theorem dX9_here_27 : decode cX9_here 27 = .ok (.aload_n 0, 1) := by decide +kernel
theorem dX9_here_28 : decode cX9_here 28 = .ok (.getfield 57, 3) := by decide +kernel
theorem dX9_here_31 : decode cX9_here 31 = .ok (.invokevirtual 60, 3) := by decide +kernel
theorem dX9_here_34 : decode cX9_here 34 = .ok (.ireturn, 1) := by decide +kernel
theorem dX9_fine_0 : decode cX9_fine 0 = .ok (.aload_n 0, 1) := by decide +kernel
theorem dX9_fine_1 : decode cX9_fine 1 = .ok (.getfield 64, 3) := by decide +kernel
theorem dX9_fine_4 : decode cX9_fine 4 = .ok (.ifCond .ne 7, 3) := by decide +kernel
theorem dX9_fine_7 : decode cX9_fine 7 = .ok (.iconst 1, 1) := by decide +kernel
theorem dX9_fine_8 : decode cX9_fine 8 = .ok (.goto 4, 3) := by decide +kernel
theorem dX9_fine_11 : decode cX9_fine 11 = .ok (.iconst 0, 1) := by decide +kernel
theorem dX9_fine_12 : decode cX9_fine 12 = .ok (.ireturn, 1) := by decide +kernel
theorem dX9_wrong_0 : decode cX9_wrong 0 = .ok (.aload_n 0, 1) := by decide +kernel
theorem dX9_wrong_1 : decode cX9_wrong 1 = .ok (.getfield 64, 3) := by decide +kernel
theorem dX9_wrong_4 : decode cX9_wrong 4 = .ok (.ifCond .ne 13, 3) := by decide +kernel
theorem dX9_wrong_7 : decode cX9_wrong 7 = .ok (.aload_n 0, 1) := by decide +kernel
theorem dX9_wrong_8 : decode cX9_wrong 8 = .ok (.iload_n 1, 1) := by decide +kernel
theorem dX9_wrong_9 : decode cX9_wrong 9 = .ok (.putfield 64, 3) := by decide +kernel
theorem dX9_wrong_12 : decode cX9_wrong 12 = .ok (.aload_n 0, 1) := by decide +kernel
theorem dX9_wrong_13 : decode cX9_wrong 13 = .ok (.iload_n 2, 1) := by decide +kernel
theorem dX9_wrong_14 : decode cX9_wrong 14 = .ok (.putfield 67, 3) := by decide +kernel
theorem dX9_wrong_17 : decode cX9_wrong 17 = .ok (.return_, 1) := by decide +kernel
theorem dX9_isSmall_0 : decode cX9_isSmall 0 = .ok (.iload_n 0, 1) := by decide +kernel
theorem dX9_isSmall_1 : decode cX9_isSmall 1 = .ok (.bipush 97, 2) := by decide +kernel
theorem dX9_isSmall_3 : decode cX9_isSmall 3 = .ok (.if_icmp .lt 13, 3) := by decide +kernel
theorem dX9_isSmall_6 : decode cX9_isSmall 6 = .ok (.iload_n 0, 1) := by decide +kernel
theorem dX9_isSmall_7 : decode cX9_isSmall 7 = .ok (.bipush 122, 2) := by decide +kernel
theorem dX9_isSmall_9 : decode cX9_isSmall 9 = .ok (.if_icmp .gt 7, 3) := by decide +kernel
theorem dX9_isSmall_12 : decode cX9_isSmall 12 = .ok (.iconst 1, 1) := by decide +kernel
theorem dX9_isSmall_13 : decode cX9_isSmall 13 = .ok (.goto 4, 3) := by decide +kernel
theorem dX9_isSmall_16 : decode cX9_isSmall 16 = .ok (.iconst 0, 1) := by decide +kernel
theorem dX9_isSmall_17 : decode cX9_isSmall 17 = .ok (.ireturn, 1) := by decide +kernel
theorem dX9_isDigit_0 : decode cX9_isDigit 0 = .ok (.iload_n 0, 1) := by decide +kernel
theorem dX9_isDigit_1 : decode cX9_isDigit 1 = .ok (.bipush 48, 2) := by decide +kernel
theorem dX9_isDigit_3 : decode cX9_isDigit 3 = .ok (.if_icmp .lt 13, 3) := by decide +kernel
theorem dX9_isDigit_6 : decode cX9_isDigit 6 = .ok (.iload_n 0, 1) := by decide +kernel
theorem dX9_isDigit_7 : decode cX9_isDigit 7 = .ok (.bipush 57, 2) := by decide +kernel
theorem dX9_isDigit_9 : decode cX9_isDigit 9 = .ok (.if_icmp .gt 7, 3) := by decide +kernel
theorem dX9_isDigit_12 : decode cX9_isDigit 12 = .ok (.iconst 1, 1) := by decide +kernel
theorem dX9_isDigit_13 : decode cX9_isDigit 13 = .ok (.goto 4, 3) := by decide +kernel
theorem dX9_isDigit_16 : decode cX9_isDigit 16 = .ok (.iconst 0, 1) := by decide +kernel
theorem dX9_isDigit_17 : decode cX9_isDigit 17 = .ok (.ireturn, 1) := by decide +kernel
theorem dX9_isWord_0 : decode cX9_isWord 0 = .ok (.aload_n 0, 1) := by decide +kernel
theorem dX9_isWord_1 : decode cX9_isWord 1 = .ok (.invokevirtual 70, 3) := by decide +kernel
theorem dX9_isWord_4 : decode cX9_isWord 4 = .ok (.pop, 1) := by decide +kernel
theorem dX9_isWord_5 : decode cX9_isWord 5 = .ok (.iconst 0, 1) := by decide +kernel
theorem dX9_isWord_6 : decode cX9_isWord 6 = .ok (.istore_n 2, 1) := by decide +kernel
theorem dX9_isWord_7 : decode cX9_isWord 7 = .ok (.iload_n 2, 1) := by decide +kernel
theorem dX9_isWord_8 : decode cX9_isWord 8 = .ok (.aload_n 1, 1) := by decide +kernel
theorem dX9_isWord_9 : decode cX9_isWord 9 = .ok (.invokevirtual 74, 3) := by decide +kernel
theorem dX9_isWord_12 : decode cX9_isWord 12 = .ok (.if_icmp .ge 27, 3) := by decide +kernel
theorem dX9_isWord_15 : decode cX9_isWord 15 = .ok (.aload_n 0, 1) := by decide +kernel
theorem dX9_isWord_16 : decode cX9_isWord 16 = .ok (.aload_n 0, 1) := by decide +kernel
theorem dX9_isWord_17 : decode cX9_isWord 17 = .ok (.getfield 57, 3) := by decide +kernel
theorem dX9_isWord_20 : decode cX9_isWord 20 = .ok (.iload_n 2, 1) := by decide +kernel
theorem dX9_isWord_21 : decode cX9_isWord 21 = .ok (.iadd, 1) := by decide +kernel
theorem dX9_isWord_22 : decode cX9_isWord 22 = .ok (.invokevirtual 60, 3) := by decide +kernel
theorem dX9_isWord_25 : decode cX9_isWord 25 = .ok (.aload_n 1, 1) := by decide +kernel
theorem dX9_isWord_26 : decode cX9_isWord 26 = .ok (.iload_n 2, 1) := by decide +kernel
theorem dX9_isWord_27 : decode cX9_isWord 27 = .ok (.invokevirtual 79, 3) := by decide +kernel
theorem dX9_isWord_30 : decode cX9_isWord 30 = .ok (.if_icmp .ne 9, 3) := by decide +kernel
theorem dX9_isWord_33 : decode cX9_isWord 33 = .ok (.iinc 2 1, 3) := by decide +kernel
theorem dX9_isWord_36 : decode cX9_isWord 36 = .ok (.goto (-29), 3) := by decide +kernel
theorem dX9_isWord_39 : decode cX9_isWord 39 = .ok (.iload_n 2, 1) := by decide +kernel
theorem dX9_isWord_40 : decode cX9_isWord 40 = .ok (.aload_n 1, 1) := by decide +kernel
theorem dX9_isWord_41 : decode cX9_isWord 41 = .ok (.invokevirtual 74, 3) := by decide +kernel
theorem dX9_isWord_44 : decode cX9_isWord 44 = .ok (.if_icmp .ne 23, 3) := by decide +kernel
theorem dX9_isWord_47 : decode cX9_isWord 47 = .ok (.aload_n 0, 1) := by decide +kernel
theorem dX9_isWord_48 : decode cX9_isWord 48 = .ok (.aload_n 0, 1) := by decide +kernel
theorem dX9_isWord_49 : decode cX9_isWord 49 = .ok (.getfield 57, 3) := by decide +kernel
theorem dX9_isWord_52 : decode cX9_isWord 52 = .ok (.iload_n 2, 1) := by decide +kernel
theorem dX9_isWord_53 : decode cX9_isWord 53 = .ok (.iadd, 1) := by decide +kernel
theorem dX9_isWord_54 : decode cX9_isWord 54 = .ok (.invokevirtual 60, 3) := by decide +kernel
theorem dX9_isWord_57 : decode cX9_isWord 57 = .ok (.invokestatic 83, 3) := by decide +kernel
theorem dX9_isWord_60 : decode cX9_isWord 60 = .ok (.ifCond .ne 7, 3) := by decide +kernel
theorem dX9_isWord_63 : decode cX9_isWord 63 = .ok (.iconst 1, 1) := by decide +kernel
theorem dX9_isWord_64 : decode cX9_isWord 64 = .ok (.goto 4, 3) := by decide +kernel
theorem dX9_isWord_67 : decode cX9_isWord 67 = .ok (.iconst 0, 1) := by decide +kernel
theorem dX9_isWord_68 : decode cX9_isWord 68 = .ok (.ireturn, 1) := by decide +kernel
theorem dX9_takes_0 : decode cX9_takes 0 = .ok (.aload_n 0, 1) := by decide +kernel
theorem dX9_takes_1 : decode cX9_takes 1 = .ok (.invokevirtual 87, 3) := by decide +kernel
theorem dX9_takes_4 : decode cX9_takes 4 = .ok (.ifCond .eq 11, 3) := by decide +kernel
theorem dX9_takes_7 : decode cX9_takes 7 = .ok (.aload_n 0, 1) := by decide +kernel
theorem dX9_takes_8 : decode cX9_takes 8 = .ok (.aload_n 1, 1) := by decide +kernel
theorem dX9_takes_9 : decode cX9_takes 9 = .ok (.invokevirtual 91, 3) := by decide +kernel
theorem dX9_takes_12 : decode cX9_takes 12 = .ok (.ifCond .ne 5, 3) := by decide +kernel
theorem dX9_takes_15 : decode cX9_takes 15 = .ok (.iconst 0, 1) := by decide +kernel
theorem dX9_takes_16 : decode cX9_takes 16 = .ok (.ireturn, 1) := by decide +kernel
theorem dX9_takes_17 : decode cX9_takes 17 = .ok (.aload_n 0, 1) := by decide +kernel
theorem dX9_takes_18 : decode cX9_takes 18 = .ok (.dup, 1) := by decide +kernel
theorem dX9_takes_19 : decode cX9_takes 19 = .ok (.getfield 57, 3) := by decide +kernel
theorem dX9_takes_22 : decode cX9_takes 22 = .ok (.aload_n 1, 1) := by decide +kernel
theorem dX9_takes_23 : decode cX9_takes 23 = .ok (.invokevirtual 74, 3) := by decide +kernel
theorem dX9_takes_26 : decode cX9_takes 26 = .ok (.iadd, 1) := by decide +kernel
theorem dX9_takes_27 : decode cX9_takes 27 = .ok (.putfield 57, 3) := by decide +kernel
theorem dX9_takes_30 : decode cX9_takes 30 = .ok (.iconst 1, 1) := by decide +kernel
theorem dX9_takes_31 : decode cX9_takes 31 = .ok (.ireturn, 1) := by decide +kernel
theorem dX9_must_0 : decode cX9_must 0 = .ok (.aload_n 0, 1) := by decide +kernel
theorem dX9_must_1 : decode cX9_must 1 = .ok (.invokevirtual 87, 3) := by decide +kernel
theorem dX9_must_4 : decode cX9_must 4 = .ok (.ifCond .ne 4, 3) := by decide +kernel
theorem dX9_must_7 : decode cX9_must 7 = .ok (.return_, 1) := by decide +kernel
theorem dX9_must_8 : decode cX9_must 8 = .ok (.aload_n 0, 1) := by decide +kernel
theorem dX9_must_9 : decode cX9_must 9 = .ok (.invokevirtual 70, 3) := by decide +kernel
theorem dX9_must_12 : decode cX9_must 12 = .ok (.iload_n 1, 1) := by decide +kernel
theorem dX9_must_13 : decode cX9_must 13 = .ok (.if_icmp .ne 16, 3) := by decide +kernel
theorem dX9_must_16 : decode cX9_must 16 = .ok (.aload_n 0, 1) := by decide +kernel
theorem dX9_must_17 : decode cX9_must 17 = .ok (.dup, 1) := by decide +kernel
theorem dX9_must_18 : decode cX9_must 18 = .ok (.getfield 57, 3) := by decide +kernel
theorem dX9_must_21 : decode cX9_must 21 = .ok (.iconst 1, 1) := by decide +kernel
theorem dX9_must_22 : decode cX9_must 22 = .ok (.iadd, 1) := by decide +kernel
theorem dX9_must_23 : decode cX9_must 23 = .ok (.putfield 57, 3) := by decide +kernel
theorem dX9_must_26 : decode cX9_must 26 = .ok (.goto 12, 3) := by decide +kernel
theorem dX9_must_29 : decode cX9_must 29 = .ok (.aload_n 0, 1) := by decide +kernel
theorem dX9_must_30 : decode cX9_must 30 = .ok (.iconst 1, 1) := by decide +kernel
theorem dX9_must_31 : decode cX9_must 31 = .ok (.aload_n 0, 1) := by decide +kernel
theorem dX9_must_32 : decode cX9_must 32 = .ok (.getfield 57, 3) := by decide +kernel
theorem dX9_must_35 : decode cX9_must 35 = .ok (.invokevirtual 95, 3) := by decide +kernel
theorem dX9_must_38 : decode cX9_must 38 = .ok (.return_, 1) := by decide +kernel
theorem dX9_number_0 : decode cX9_number 0 = .ok (.aload_n 0, 1) := by decide +kernel
theorem dX9_number_1 : decode cX9_number 1 = .ok (.invokevirtual 87, 3) := by decide +kernel
theorem dX9_number_4 : decode cX9_number 4 = .ok (.ifCond .ne 5, 3) := by decide +kernel
theorem dX9_number_7 : decode cX9_number 7 = .ok (.iconst 0, 1) := by decide +kernel
theorem dX9_number_8 : decode cX9_number 8 = .ok (.ireturn, 1) := by decide +kernel
theorem dX9_number_9 : decode cX9_number 9 = .ok (.aload_n 0, 1) := by decide +kernel
theorem dX9_number_10 : decode cX9_number 10 = .ok (.invokevirtual 70, 3) := by decide +kernel
theorem dX9_number_13 : decode cX9_number 13 = .ok (.invokestatic 99, 3) := by decide +kernel
theorem dX9_number_16 : decode cX9_number 16 = .ok (.ifCond .ne 14, 3) := by decide +kernel
theorem dX9_number_19 : decode cX9_number 19 = .ok (.aload_n 0, 1) := by decide +kernel
theorem dX9_number_20 : decode cX9_number 20 = .ok (.iconst 1, 1) := by decide +kernel
theorem dX9_number_21 : decode cX9_number 21 = .ok (.aload_n 0, 1) := by decide +kernel
theorem dX9_number_22 : decode cX9_number 22 = .ok (.getfield 57, 3) := by decide +kernel
theorem dX9_number_25 : decode cX9_number 25 = .ok (.invokevirtual 95, 3) := by decide +kernel
theorem dX9_number_28 : decode cX9_number 28 = .ok (.iconst 0, 1) := by decide +kernel
theorem dX9_number_29 : decode cX9_number 29 = .ok (.ireturn, 1) := by decide +kernel
theorem dX9_number_30 : decode cX9_number 30 = .ok (.aload_n 0, 1) := by decide +kernel
theorem dX9_number_31 : decode cX9_number 31 = .ok (.getfield 57, 3) := by decide +kernel
theorem dX9_number_34 : decode cX9_number 34 = .ok (.istore_n 3, 1) := by decide +kernel
theorem dX9_number_35 : decode cX9_number 35 = .ok (.iconst 0, 1) := by decide +kernel
theorem dX9_number_36 : decode cX9_number 36 = .ok (.istore 4, 2) := by decide +kernel
theorem dX9_number_38 : decode cX9_number 38 = .ok (.aload_n 0, 1) := by decide +kernel
theorem dX9_number_39 : decode cX9_number 39 = .ok (.aload_n 0, 1) := by decide +kernel
theorem dX9_number_40 : decode cX9_number 40 = .ok (.getfield 57, 3) := by decide +kernel
theorem dX9_number_43 : decode cX9_number 43 = .ok (.invokevirtual 60, 3) := by decide +kernel
theorem dX9_number_46 : decode cX9_number 46 = .ok (.invokestatic 99, 3) := by decide +kernel
theorem dX9_number_49 : decode cX9_number 49 = .ok (.ifCond .eq 40, 3) := by decide +kernel
theorem dX9_number_52 : decode cX9_number 52 = .ok (.ldc 102, 2) := by decide +kernel
theorem dX9_number_54 : decode cX9_number 54 = .ok (.bipush 10, 2) := by decide +kernel
theorem dX9_number_56 : decode cX9_number 56 = .ok (.iload 4, 2) := by decide +kernel
theorem dX9_number_58 : decode cX9_number 58 = .ok (.imul, 1) := by decide +kernel
theorem dX9_number_59 : decode cX9_number 59 = .ok (.aload_n 0, 1) := by decide +kernel
theorem dX9_number_60 : decode cX9_number 60 = .ok (.aload_n 0, 1) := by decide +kernel
theorem dX9_number_61 : decode cX9_number 61 = .ok (.getfield 57, 3) := by decide +kernel
theorem dX9_number_64 : decode cX9_number 64 = .ok (.invokevirtual 60, 3) := by decide +kernel
theorem dX9_number_67 : decode cX9_number 67 = .ok (.iadd, 1) := by decide +kernel
theorem dX9_number_68 : decode cX9_number 68 = .ok (.bipush 48, 2) := by decide +kernel
theorem dX9_number_70 : decode cX9_number 70 = .ok (.isub, 1) := by decide +kernel
theorem dX9_number_71 : decode cX9_number 71 = .ok (.invokestatic 103, 3) := by decide +kernel
theorem dX9_number_74 : decode cX9_number 74 = .ok (.istore 4, 2) := by decide +kernel
theorem dX9_number_76 : decode cX9_number 76 = .ok (.aload_n 0, 1) := by decide +kernel
theorem dX9_number_77 : decode cX9_number 77 = .ok (.dup, 1) := by decide +kernel
theorem dX9_number_78 : decode cX9_number 78 = .ok (.getfield 57, 3) := by decide +kernel
theorem dX9_number_81 : decode cX9_number 81 = .ok (.iconst 1, 1) := by decide +kernel
theorem dX9_number_82 : decode cX9_number 82 = .ok (.iadd, 1) := by decide +kernel
theorem dX9_number_83 : decode cX9_number 83 = .ok (.putfield 57, 3) := by decide +kernel
theorem dX9_number_86 : decode cX9_number 86 = .ok (.goto (-48), 3) := by decide +kernel
theorem dX9_number_89 : decode cX9_number 89 = .ok (.iload 4, 2) := by decide +kernel
theorem dX9_number_91 : decode cX9_number 91 = .ok (.i2l, 1) := by decide +kernel
theorem dX9_number_92 : decode cX9_number 92 = .ok (.iload_n 1, 1) := by decide +kernel
theorem dX9_number_93 : decode cX9_number 93 = .ok (.i2l, 1) := by decide +kernel
theorem dX9_number_94 : decode cX9_number 94 = .ok (.iload_n 2, 1) := by decide +kernel
theorem dX9_number_95 : decode cX9_number 95 = .ok (.i2l, 1) := by decide +kernel
theorem dX9_number_96 : decode cX9_number 96 = .ok (.invokestatic 107, 3) := by decide +kernel
theorem dX9_number_99 : decode cX9_number 99 = .ok (.ifCond .ne 9, 3) := by decide +kernel
theorem dX9_number_102 : decode cX9_number 102 = .ok (.aload_n 0, 1) := by decide +kernel
theorem dX9_number_103 : decode cX9_number 103 = .ok (.iconst 2, 1) := by decide +kernel
theorem dX9_number_104 : decode cX9_number 104 = .ok (.iload_n 3, 1) := by decide +kernel
theorem dX9_number_105 : decode cX9_number 105 = .ok (.invokevirtual 95, 3) := by decide +kernel
theorem dX9_number_108 : decode cX9_number 108 = .ok (.iload 4, 2) := by decide +kernel
theorem dX9_number_110 : decode cX9_number 110 = .ok (.ireturn, 1) := by decide +kernel
theorem dX9_name_0 : decode cX9_name 0 = .ok (.aload_n 0, 1) := by decide +kernel
theorem dX9_name_1 : decode cX9_name 1 = .ok (.invokevirtual 87, 3) := by decide +kernel
theorem dX9_name_4 : decode cX9_name 4 = .ok (.ifCond .ne 5, 3) := by decide +kernel
theorem dX9_name_7 : decode cX9_name 7 = .ok (.iconst 0, 1) := by decide +kernel
theorem dX9_name_8 : decode cX9_name 8 = .ok (.ireturn, 1) := by decide +kernel
theorem dX9_name_9 : decode cX9_name 9 = .ok (.aload_n 0, 1) := by decide +kernel
theorem dX9_name_10 : decode cX9_name 10 = .ok (.invokevirtual 70, 3) := by decide +kernel
theorem dX9_name_13 : decode cX9_name 13 = .ok (.pop, 1) := by decide +kernel
theorem dX9_name_14 : decode cX9_name 14 = .ok (.aload_n 0, 1) := by decide +kernel
theorem dX9_name_15 : decode cX9_name 15 = .ok (.getfield 57, 3) := by decide +kernel
theorem dX9_name_18 : decode cX9_name 18 = .ok (.istore_n 1, 1) := by decide +kernel
theorem dX9_name_19 : decode cX9_name 19 = .ok (.iconst 0, 1) := by decide +kernel
theorem dX9_name_20 : decode cX9_name 20 = .ok (.istore_n 2, 1) := by decide +kernel
theorem dX9_name_21 : decode cX9_name 21 = .ok (.aload_n 0, 1) := by decide +kernel
theorem dX9_name_22 : decode cX9_name 22 = .ok (.aload_n 0, 1) := by decide +kernel
theorem dX9_name_23 : decode cX9_name 23 = .ok (.getfield 57, 3) := by decide +kernel
theorem dX9_name_26 : decode cX9_name 26 = .ok (.invokevirtual 60, 3) := by decide +kernel
theorem dX9_name_29 : decode cX9_name 29 = .ok (.invokestatic 83, 3) := by decide +kernel
theorem dX9_name_32 : decode cX9_name 32 = .ok (.ifCond .eq 45, 3) := by decide +kernel
theorem dX9_name_35 : decode cX9_name 35 = .ok (.aload_n 0, 1) := by decide +kernel
theorem dX9_name_36 : decode cX9_name 36 = .ok (.getfield 57, 3) := by decide +kernel
theorem dX9_name_39 : decode cX9_name 39 = .ok (.iload_n 1, 1) := by decide +kernel
theorem dX9_name_40 : decode cX9_name 40 = .ok (.isub, 1) := by decide +kernel
theorem dX9_name_41 : decode cX9_name 41 = .ok (.iconst 5, 1) := by decide +kernel
theorem dX9_name_42 : decode cX9_name 42 = .ok (.if_icmp .ge 35, 3) := by decide +kernel
theorem dX9_name_45 : decode cX9_name 45 = .ok (.bipush 27, 2) := by decide +kernel
theorem dX9_name_47 : decode cX9_name 47 = .ok (.iload_n 2, 1) := by decide +kernel
theorem dX9_name_48 : decode cX9_name 48 = .ok (.imul, 1) := by decide +kernel
theorem dX9_name_49 : decode cX9_name 49 = .ok (.aload_n 0, 1) := by decide +kernel
theorem dX9_name_50 : decode cX9_name 50 = .ok (.aload_n 0, 1) := by decide +kernel
theorem dX9_name_51 : decode cX9_name 51 = .ok (.getfield 57, 3) := by decide +kernel
theorem dX9_name_54 : decode cX9_name 54 = .ok (.invokevirtual 60, 3) := by decide +kernel
theorem dX9_name_57 : decode cX9_name 57 = .ok (.iadd, 1) := by decide +kernel
theorem dX9_name_58 : decode cX9_name 58 = .ok (.bipush 97, 2) := by decide +kernel
theorem dX9_name_60 : decode cX9_name 60 = .ok (.isub, 1) := by decide +kernel
theorem dX9_name_61 : decode cX9_name 61 = .ok (.iconst 1, 1) := by decide +kernel
theorem dX9_name_62 : decode cX9_name 62 = .ok (.iadd, 1) := by decide +kernel
theorem dX9_name_63 : decode cX9_name 63 = .ok (.istore_n 2, 1) := by decide +kernel
theorem dX9_name_64 : decode cX9_name 64 = .ok (.aload_n 0, 1) := by decide +kernel
theorem dX9_name_65 : decode cX9_name 65 = .ok (.dup, 1) := by decide +kernel
theorem dX9_name_66 : decode cX9_name 66 = .ok (.getfield 57, 3) := by decide +kernel
theorem dX9_name_69 : decode cX9_name 69 = .ok (.iconst 1, 1) := by decide +kernel
theorem dX9_name_70 : decode cX9_name 70 = .ok (.iadd, 1) := by decide +kernel
theorem dX9_name_71 : decode cX9_name 71 = .ok (.putfield 57, 3) := by decide +kernel
theorem dX9_name_74 : decode cX9_name 74 = .ok (.goto (-53), 3) := by decide +kernel
theorem dX9_name_77 : decode cX9_name 77 = .ok (.aload_n 0, 1) := by decide +kernel
theorem dX9_name_78 : decode cX9_name 78 = .ok (.getfield 57, 3) := by decide +kernel
theorem dX9_name_81 : decode cX9_name 81 = .ok (.iload_n 1, 1) := by decide +kernel
theorem dX9_name_82 : decode cX9_name 82 = .ok (.if_icmp .eq 17, 3) := by decide +kernel
theorem dX9_name_85 : decode cX9_name 85 = .ok (.aload_n 0, 1) := by decide +kernel
theorem dX9_name_86 : decode cX9_name 86 = .ok (.aload_n 0, 1) := by decide +kernel
theorem dX9_name_87 : decode cX9_name 87 = .ok (.getfield 57, 3) := by decide +kernel
theorem dX9_name_90 : decode cX9_name 90 = .ok (.invokevirtual 60, 3) := by decide +kernel
theorem dX9_name_93 : decode cX9_name 93 = .ok (.invokestatic 83, 3) := by decide +kernel
theorem dX9_name_96 : decode cX9_name 96 = .ok (.ifCond .eq 9, 3) := by decide +kernel
theorem dX9_name_99 : decode cX9_name 99 = .ok (.aload_n 0, 1) := by decide +kernel
theorem dX9_name_100 : decode cX9_name 100 = .ok (.iconst 1, 1) := by decide +kernel
theorem dX9_name_101 : decode cX9_name 101 = .ok (.iload_n 1, 1) := by decide +kernel
theorem dX9_name_102 : decode cX9_name 102 = .ok (.invokevirtual 95, 3) := by decide +kernel
theorem dX9_name_105 : decode cX9_name 105 = .ok (.iload_n 2, 1) := by decide +kernel
theorem dX9_name_106 : decode cX9_name 106 = .ok (.ireturn, 1) := by decide +kernel
theorem dX9_voterOf_0 : decode cX9_voterOf 0 = .ok (.iconst 0, 1) := by decide +kernel
theorem dX9_voterOf_1 : decode cX9_voterOf 1 = .ok (.istore_n 3, 1) := by decide +kernel
theorem dX9_voterOf_2 : decode cX9_voterOf 2 = .ok (.iload_n 3, 1) := by decide +kernel
theorem dX9_voterOf_3 : decode cX9_voterOf 3 = .ok (.aload_n 0, 1) := by decide +kernel
theorem dX9_voterOf_4 : decode cX9_voterOf 4 = .ok (.iconst 0, 1) := by decide +kernel
theorem dX9_voterOf_5 : decode cX9_voterOf 5 = .ok (.iaload, 1) := by decide +kernel
theorem dX9_voterOf_6 : decode cX9_voterOf 6 = .ok (.if_icmp .ge 33, 3) := by decide +kernel
theorem dX9_voterOf_9 : decode cX9_voterOf 9 = .ok (.aload_n 0, 1) := by decide +kernel
theorem dX9_voterOf_10 : decode cX9_voterOf 10 = .ok (.iload_n 3, 1) := by decide +kernel
theorem dX9_voterOf_11 : decode cX9_voterOf 11 = .ok (.iconst 0, 1) := by decide +kernel
theorem dX9_voterOf_12 : decode cX9_voterOf 12 = .ok (.invokestatic 111, 3) := by decide +kernel
theorem dX9_voterOf_15 : decode cX9_voterOf 15 = .ok (.iaload, 1) := by decide +kernel
theorem dX9_voterOf_16 : decode cX9_voterOf 16 = .ok (.iload_n 1, 1) := by decide +kernel
theorem dX9_voterOf_17 : decode cX9_voterOf 17 = .ok (.if_icmp .ne 16, 3) := by decide +kernel
theorem dX9_voterOf_20 : decode cX9_voterOf 20 = .ok (.aload_n 0, 1) := by decide +kernel
theorem dX9_voterOf_21 : decode cX9_voterOf 21 = .ok (.iload_n 3, 1) := by decide +kernel
theorem dX9_voterOf_22 : decode cX9_voterOf 22 = .ok (.iconst 1, 1) := by decide +kernel
theorem dX9_voterOf_23 : decode cX9_voterOf 23 = .ok (.invokestatic 111, 3) := by decide +kernel
theorem dX9_voterOf_26 : decode cX9_voterOf 26 = .ok (.iaload, 1) := by decide +kernel
theorem dX9_voterOf_27 : decode cX9_voterOf 27 = .ok (.iload_n 2, 1) := by decide +kernel
theorem dX9_voterOf_28 : decode cX9_voterOf 28 = .ok (.if_icmp .ne 5, 3) := by decide +kernel
theorem dX9_voterOf_31 : decode cX9_voterOf 31 = .ok (.iload_n 3, 1) := by decide +kernel
theorem dX9_voterOf_32 : decode cX9_voterOf 32 = .ok (.ireturn, 1) := by decide +kernel
theorem dX9_voterOf_33 : decode cX9_voterOf 33 = .ok (.iinc 3 1, 3) := by decide +kernel
theorem dX9_voterOf_36 : decode cX9_voterOf 36 = .ok (.goto (-34), 3) := by decide +kernel
theorem dX9_voterOf_39 : decode cX9_voterOf 39 = .ok (.iconst (-1), 1) := by decide +kernel
theorem dX9_voterOf_40 : decode cX9_voterOf 40 = .ok (.ireturn, 1) := by decide +kernel
theorem dX9_readsVoter_0 : decode cX9_readsVoter 0 = .ok (.aload_n 0, 1) := by decide +kernel
theorem dX9_readsVoter_1 : decode cX9_readsVoter 1 = .ok (.getfield 23, 3) := by decide +kernel
theorem dX9_readsVoter_4 : decode cX9_readsVoter 4 = .ok (.iconst 0, 1) := by decide +kernel
theorem dX9_readsVoter_5 : decode cX9_readsVoter 5 = .ok (.iaload, 1) := by decide +kernel
theorem dX9_readsVoter_6 : decode cX9_readsVoter 6 = .ok (.bipush 16, 2) := by decide +kernel
theorem dX9_readsVoter_8 : decode cX9_readsVoter 8 = .ok (.if_icmp .ne 9, 3) := by decide +kernel
theorem dX9_readsVoter_11 : decode cX9_readsVoter 11 = .ok (.aload_n 0, 1) := by decide +kernel
theorem dX9_readsVoter_12 : decode cX9_readsVoter 12 = .ok (.iconst 4, 1) := by decide +kernel
theorem dX9_readsVoter_13 : decode cX9_readsVoter 13 = .ok (.iload_n 1, 1) := by decide +kernel
theorem dX9_readsVoter_14 : decode cX9_readsVoter 14 = .ok (.invokevirtual 95, 3) := by decide +kernel
theorem dX9_readsVoter_17 : decode cX9_readsVoter 17 = .ok (.aload_n 0, 1) := by decide +kernel
theorem dX9_readsVoter_18 : decode cX9_readsVoter 18 = .ok (.invokevirtual 70, 3) := by decide +kernel
theorem dX9_readsVoter_21 : decode cX9_readsVoter 21 = .ok (.pop, 1) := by decide +kernel
theorem dX9_readsVoter_22 : decode cX9_readsVoter 22 = .ok (.aload_n 0, 1) := by decide +kernel
theorem dX9_readsVoter_23 : decode cX9_readsVoter 23 = .ok (.getfield 57, 3) := by decide +kernel
theorem dX9_readsVoter_26 : decode cX9_readsVoter 26 = .ok (.istore_n 2, 1) := by decide +kernel
theorem dX9_readsVoter_27 : decode cX9_readsVoter 27 = .ok (.aload_n 0, 1) := by decide +kernel
theorem dX9_readsVoter_28 : decode cX9_readsVoter 28 = .ok (.invokevirtual 114, 3) := by decide +kernel
theorem dX9_readsVoter_31 : decode cX9_readsVoter 31 = .ok (.istore_n 3, 1) := by decide +kernel
theorem dX9_readsVoter_32 : decode cX9_readsVoter 32 = .ok (.aload_n 0, 1) := by decide +kernel
theorem dX9_readsVoter_33 : decode cX9_readsVoter 33 = .ok (.iconst 0, 1) := by decide +kernel
theorem dX9_readsVoter_34 : decode cX9_readsVoter 34 = .ok (.bipush 99, 2) := by decide +kernel
theorem dX9_readsVoter_36 : decode cX9_readsVoter 36 = .ok (.invokevirtual 117, 3) := by decide +kernel
theorem dX9_readsVoter_39 : decode cX9_readsVoter 39 = .ok (.istore 4, 2) := by decide +kernel
theorem dX9_readsVoter_41 : decode cX9_readsVoter 41 = .ok (.aload_n 0, 1) := by decide +kernel
theorem dX9_readsVoter_42 : decode cX9_readsVoter 42 = .ok (.invokevirtual 87, 3) := by decide +kernel
theorem dX9_readsVoter_45 : decode cX9_readsVoter 45 = .ok (.ifCond .eq 23, 3) := by decide +kernel
theorem dX9_readsVoter_48 : decode cX9_readsVoter 48 = .ok (.aload_n 0, 1) := by decide +kernel
theorem dX9_readsVoter_49 : decode cX9_readsVoter 49 = .ok (.getfield 23, 3) := by decide +kernel
theorem dX9_readsVoter_52 : decode cX9_readsVoter 52 = .ok (.iload_n 3, 1) := by decide +kernel
theorem dX9_readsVoter_53 : decode cX9_readsVoter 53 = .ok (.iload 4, 2) := by decide +kernel
theorem dX9_readsVoter_55 : decode cX9_readsVoter 55 = .ok (.invokestatic 120, 3) := by decide +kernel
theorem dX9_readsVoter_58 : decode cX9_readsVoter 58 = .ok (.iconst (-1), 1) := by decide +kernel
theorem dX9_readsVoter_59 : decode cX9_readsVoter 59 = .ok (.if_icmp .eq 9, 3) := by decide +kernel
theorem dX9_readsVoter_62 : decode cX9_readsVoter 62 = .ok (.aload_n 0, 1) := by decide +kernel
theorem dX9_readsVoter_63 : decode cX9_readsVoter 63 = .ok (.iconst 3, 1) := by decide +kernel
theorem dX9_readsVoter_64 : decode cX9_readsVoter 64 = .ok (.iload_n 2, 1) := by decide +kernel
theorem dX9_readsVoter_65 : decode cX9_readsVoter 65 = .ok (.invokevirtual 95, 3) := by decide +kernel
theorem dX9_readsVoter_68 : decode cX9_readsVoter 68 = .ok (.aload_n 0, 1) := by decide +kernel
theorem dX9_readsVoter_69 : decode cX9_readsVoter 69 = .ok (.iconst 0, 1) := by decide +kernel
theorem dX9_readsVoter_70 : decode cX9_readsVoter 70 = .ok (.sipush 999, 3) := by decide +kernel
theorem dX9_readsVoter_73 : decode cX9_readsVoter 73 = .ok (.invokevirtual 117, 3) := by decide +kernel
theorem dX9_readsVoter_76 : decode cX9_readsVoter 76 = .ok (.istore 5, 2) := by decide +kernel
theorem dX9_readsVoter_78 : decode cX9_readsVoter 78 = .ok (.aload_n 0, 1) := by decide +kernel
theorem dX9_readsVoter_79 : decode cX9_readsVoter 79 = .ok (.getfield 23, 3) := by decide +kernel
theorem dX9_readsVoter_82 : decode cX9_readsVoter 82 = .ok (.iconst 0, 1) := by decide +kernel
theorem dX9_readsVoter_83 : decode cX9_readsVoter 83 = .ok (.iaload, 1) := by decide +kernel
theorem dX9_readsVoter_84 : decode cX9_readsVoter 84 = .ok (.istore 6, 2) := by decide +kernel
theorem dX9_readsVoter_86 : decode cX9_readsVoter 86 = .ok (.aload_n 0, 1) := by decide +kernel
theorem dX9_readsVoter_87 : decode cX9_readsVoter 87 = .ok (.invokevirtual 87, 3) := by decide +kernel
theorem dX9_readsVoter_90 : decode cX9_readsVoter 90 = .ok (.ifCond .ne 4, 3) := by decide +kernel
theorem dX9_readsVoter_93 : decode cX9_readsVoter 93 = .ok (.return_, 1) := by decide +kernel
theorem dX9_readsVoter_94 : decode cX9_readsVoter 94 = .ok (.aload_n 0, 1) := by decide +kernel
theorem dX9_readsVoter_95 : decode cX9_readsVoter 95 = .ok (.getfield 23, 3) := by decide +kernel
theorem dX9_readsVoter_98 : decode cX9_readsVoter 98 = .ok (.iload 6, 2) := by decide +kernel
theorem dX9_readsVoter_100 : decode cX9_readsVoter 100 = .ok (.iconst 0, 1) := by decide +kernel
theorem dX9_readsVoter_101 : decode cX9_readsVoter 101 = .ok (.invokestatic 111, 3) := by decide +kernel
theorem dX9_readsVoter_104 : decode cX9_readsVoter 104 = .ok (.iload_n 3, 1) := by decide +kernel
theorem dX9_readsVoter_105 : decode cX9_readsVoter 105 = .ok (.iastore, 1) := by decide +kernel
theorem dX9_readsVoter_106 : decode cX9_readsVoter 106 = .ok (.aload_n 0, 1) := by decide +kernel
theorem dX9_readsVoter_107 : decode cX9_readsVoter 107 = .ok (.getfield 23, 3) := by decide +kernel
theorem dX9_readsVoter_110 : decode cX9_readsVoter 110 = .ok (.iload 6, 2) := by decide +kernel
theorem dX9_readsVoter_112 : decode cX9_readsVoter 112 = .ok (.iconst 1, 1) := by decide +kernel
theorem dX9_readsVoter_113 : decode cX9_readsVoter 113 = .ok (.invokestatic 111, 3) := by decide +kernel
theorem dX9_readsVoter_116 : decode cX9_readsVoter 116 = .ok (.iload 4, 2) := by decide +kernel
theorem dX9_readsVoter_118 : decode cX9_readsVoter 118 = .ok (.iastore, 1) := by decide +kernel
theorem dX9_readsVoter_119 : decode cX9_readsVoter 119 = .ok (.aload_n 0, 1) := by decide +kernel
theorem dX9_readsVoter_120 : decode cX9_readsVoter 120 = .ok (.getfield 23, 3) := by decide +kernel
theorem dX9_readsVoter_123 : decode cX9_readsVoter 123 = .ok (.iload 6, 2) := by decide +kernel
theorem dX9_readsVoter_125 : decode cX9_readsVoter 125 = .ok (.iconst 2, 1) := by decide +kernel
theorem dX9_readsVoter_126 : decode cX9_readsVoter 126 = .ok (.invokestatic 111, 3) := by decide +kernel
theorem dX9_readsVoter_129 : decode cX9_readsVoter 129 = .ok (.iload 5, 2) := by decide +kernel
theorem dX9_readsVoter_131 : decode cX9_readsVoter 131 = .ok (.iastore, 1) := by decide +kernel
theorem dX9_readsVoter_132 : decode cX9_readsVoter 132 = .ok (.aload_n 0, 1) := by decide +kernel
theorem dX9_readsVoter_133 : decode cX9_readsVoter 133 = .ok (.getfield 23, 3) := by decide +kernel
theorem dX9_readsVoter_136 : decode cX9_readsVoter 136 = .ok (.iconst 0, 1) := by decide +kernel
theorem dX9_readsVoter_137 : decode cX9_readsVoter 137 = .ok (.dup2, 1) := by decide +kernel
theorem dX9_readsVoter_138 : decode cX9_readsVoter 138 = .ok (.iaload, 1) := by decide +kernel
theorem dX9_readsVoter_139 : decode cX9_readsVoter 139 = .ok (.iconst 1, 1) := by decide +kernel
theorem dX9_readsVoter_140 : decode cX9_readsVoter 140 = .ok (.iadd, 1) := by decide +kernel
theorem dX9_readsVoter_141 : decode cX9_readsVoter 141 = .ok (.iastore, 1) := by decide +kernel
theorem dX9_readsVoter_142 : decode cX9_readsVoter 142 = .ok (.return_, 1) := by decide +kernel
theorem dX9_readsSign_0 : decode cX9_readsSign 0 = .ok (.aload_n 0, 1) := by decide +kernel
theorem dX9_readsSign_1 : decode cX9_readsSign 1 = .ok (.getfield 23, 3) := by decide +kernel
theorem dX9_readsSign_4 : decode cX9_readsSign 4 = .ok (.iconst 1, 1) := by decide +kernel
theorem dX9_readsSign_5 : decode cX9_readsSign 5 = .ok (.iaload, 1) := by decide +kernel
theorem dX9_readsSign_6 : decode cX9_readsSign 6 = .ok (.ifCond .ne 9, 3) := by decide +kernel
theorem dX9_readsSign_9 : decode cX9_readsSign 9 = .ok (.aload_n 0, 1) := by decide +kernel
theorem dX9_readsSign_10 : decode cX9_readsSign 10 = .ok (.iconst 1, 1) := by decide +kernel
theorem dX9_readsSign_11 : decode cX9_readsSign 11 = .ok (.iload_n 1, 1) := by decide +kernel
theorem dX9_readsSign_12 : decode cX9_readsSign 12 = .ok (.invokevirtual 95, 3) := by decide +kernel
theorem dX9_readsSign_15 : decode cX9_readsSign 15 = .ok (.aload_n 0, 1) := by decide +kernel
theorem dX9_readsSign_16 : decode cX9_readsSign 16 = .ok (.getfield 23, 3) := by decide +kernel
theorem dX9_readsSign_19 : decode cX9_readsSign 19 = .ok (.iconst 2, 1) := by decide +kernel
theorem dX9_readsSign_20 : decode cX9_readsSign 20 = .ok (.iaload, 1) := by decide +kernel
theorem dX9_readsSign_21 : decode cX9_readsSign 21 = .ok (.bipush 40, 2) := by decide +kernel
theorem dX9_readsSign_23 : decode cX9_readsSign 23 = .ok (.if_icmp .ne 9, 3) := by decide +kernel
theorem dX9_readsSign_26 : decode cX9_readsSign 26 = .ok (.aload_n 0, 1) := by decide +kernel
theorem dX9_readsSign_27 : decode cX9_readsSign 27 = .ok (.iconst 4, 1) := by decide +kernel
theorem dX9_readsSign_28 : decode cX9_readsSign 28 = .ok (.iload_n 1, 1) := by decide +kernel
theorem dX9_readsSign_29 : decode cX9_readsSign 29 = .ok (.invokevirtual 95, 3) := by decide +kernel
theorem dX9_readsSign_32 : decode cX9_readsSign 32 = .ok (.aload_n 0, 1) := by decide +kernel
theorem dX9_readsSign_33 : decode cX9_readsSign 33 = .ok (.invokevirtual 114, 3) := by decide +kernel
theorem dX9_readsSign_36 : decode cX9_readsSign 36 = .ok (.istore_n 2, 1) := by decide +kernel
theorem dX9_readsSign_37 : decode cX9_readsSign 37 = .ok (.aload_n 0, 1) := by decide +kernel
theorem dX9_readsSign_38 : decode cX9_readsSign 38 = .ok (.iconst 0, 1) := by decide +kernel
theorem dX9_readsSign_39 : decode cX9_readsSign 39 = .ok (.bipush 99, 2) := by decide +kernel
theorem dX9_readsSign_41 : decode cX9_readsSign 41 = .ok (.invokevirtual 117, 3) := by decide +kernel
theorem dX9_readsSign_44 : decode cX9_readsSign 44 = .ok (.istore_n 3, 1) := by decide +kernel
theorem dX9_readsSign_45 : decode cX9_readsSign 45 = .ok (.aload_n 0, 1) := by decide +kernel
theorem dX9_readsSign_46 : decode cX9_readsSign 46 = .ok (.iconst 0, 1) := by decide +kernel
theorem dX9_readsSign_47 : decode cX9_readsSign 47 = .ok (.sipush 999, 3) := by decide +kernel
theorem dX9_readsSign_50 : decode cX9_readsSign 50 = .ok (.invokevirtual 117, 3) := by decide +kernel
theorem dX9_readsSign_53 : decode cX9_readsSign 53 = .ok (.istore 4, 2) := by decide +kernel
theorem dX9_readsSign_55 : decode cX9_readsSign 55 = .ok (.aload_n 0, 1) := by decide +kernel
theorem dX9_readsSign_56 : decode cX9_readsSign 56 = .ok (.getfield 23, 3) := by decide +kernel
theorem dX9_readsSign_59 : decode cX9_readsSign 59 = .ok (.iconst 2, 1) := by decide +kernel
theorem dX9_readsSign_60 : decode cX9_readsSign 60 = .ok (.iaload, 1) := by decide +kernel
theorem dX9_readsSign_61 : decode cX9_readsSign 61 = .ok (.istore 5, 2) := by decide +kernel
theorem dX9_readsSign_63 : decode cX9_readsSign 63 = .ok (.aload_n 0, 1) := by decide +kernel
theorem dX9_readsSign_64 : decode cX9_readsSign 64 = .ok (.invokevirtual 87, 3) := by decide +kernel
theorem dX9_readsSign_67 : decode cX9_readsSign 67 = .ok (.ifCond .ne 4, 3) := by decide +kernel
theorem dX9_readsSign_70 : decode cX9_readsSign 70 = .ok (.return_, 1) := by decide +kernel
theorem dX9_readsSign_71 : decode cX9_readsSign 71 = .ok (.aload_n 0, 1) := by decide +kernel
theorem dX9_readsSign_72 : decode cX9_readsSign 72 = .ok (.getfield 23, 3) := by decide +kernel
theorem dX9_readsSign_75 : decode cX9_readsSign 75 = .ok (.iload 5, 2) := by decide +kernel
theorem dX9_readsSign_77 : decode cX9_readsSign 77 = .ok (.iconst 0, 1) := by decide +kernel
theorem dX9_readsSign_78 : decode cX9_readsSign 78 = .ok (.invokestatic 124, 3) := by decide +kernel
theorem dX9_readsSign_81 : decode cX9_readsSign 81 = .ok (.iload_n 2, 1) := by decide +kernel
theorem dX9_readsSign_82 : decode cX9_readsSign 82 = .ok (.iastore, 1) := by decide +kernel
theorem dX9_readsSign_83 : decode cX9_readsSign 83 = .ok (.aload_n 0, 1) := by decide +kernel
theorem dX9_readsSign_84 : decode cX9_readsSign 84 = .ok (.getfield 23, 3) := by decide +kernel
theorem dX9_readsSign_87 : decode cX9_readsSign 87 = .ok (.iload 5, 2) := by decide +kernel
theorem dX9_readsSign_89 : decode cX9_readsSign 89 = .ok (.iconst 1, 1) := by decide +kernel
theorem dX9_readsSign_90 : decode cX9_readsSign 90 = .ok (.invokestatic 124, 3) := by decide +kernel
theorem dX9_readsSign_93 : decode cX9_readsSign 93 = .ok (.iload_n 3, 1) := by decide +kernel
theorem dX9_readsSign_94 : decode cX9_readsSign 94 = .ok (.iastore, 1) := by decide +kernel
theorem dX9_readsSign_95 : decode cX9_readsSign 95 = .ok (.aload_n 0, 1) := by decide +kernel
theorem dX9_readsSign_96 : decode cX9_readsSign 96 = .ok (.getfield 23, 3) := by decide +kernel
theorem dX9_readsSign_99 : decode cX9_readsSign 99 = .ok (.iload 5, 2) := by decide +kernel
theorem dX9_readsSign_101 : decode cX9_readsSign 101 = .ok (.iconst 2, 1) := by decide +kernel
theorem dX9_readsSign_102 : decode cX9_readsSign 102 = .ok (.invokestatic 124, 3) := by decide +kernel
theorem dX9_readsSign_105 : decode cX9_readsSign 105 = .ok (.aload_n 0, 1) := by decide +kernel
theorem dX9_readsSign_106 : decode cX9_readsSign 106 = .ok (.getfield 23, 3) := by decide +kernel
theorem dX9_readsSign_109 : decode cX9_readsSign 109 = .ok (.iconst 1, 1) := by decide +kernel
theorem dX9_readsSign_110 : decode cX9_readsSign 110 = .ok (.iaload, 1) := by decide +kernel
theorem dX9_readsSign_111 : decode cX9_readsSign 111 = .ok (.iconst 1, 1) := by decide +kernel
theorem dX9_readsSign_112 : decode cX9_readsSign 112 = .ok (.isub, 1) := by decide +kernel
theorem dX9_readsSign_113 : decode cX9_readsSign 113 = .ok (.iastore, 1) := by decide +kernel
theorem dX9_readsSign_114 : decode cX9_readsSign 114 = .ok (.aload_n 0, 1) := by decide +kernel
theorem dX9_readsSign_115 : decode cX9_readsSign 115 = .ok (.getfield 23, 3) := by decide +kernel
theorem dX9_readsSign_118 : decode cX9_readsSign 118 = .ok (.iload 5, 2) := by decide +kernel
theorem dX9_readsSign_120 : decode cX9_readsSign 120 = .ok (.iconst 3, 1) := by decide +kernel
theorem dX9_readsSign_121 : decode cX9_readsSign 121 = .ok (.invokestatic 124, 3) := by decide +kernel
theorem dX9_readsSign_124 : decode cX9_readsSign 124 = .ok (.iload 4, 2) := by decide +kernel
theorem dX9_readsSign_126 : decode cX9_readsSign 126 = .ok (.iastore, 1) := by decide +kernel
theorem dX9_readsSign_127 : decode cX9_readsSign 127 = .ok (.aload_n 0, 1) := by decide +kernel
theorem dX9_readsSign_128 : decode cX9_readsSign 128 = .ok (.getfield 23, 3) := by decide +kernel
theorem dX9_readsSign_131 : decode cX9_readsSign 131 = .ok (.iconst 2, 1) := by decide +kernel
theorem dX9_readsSign_132 : decode cX9_readsSign 132 = .ok (.dup2, 1) := by decide +kernel
theorem dX9_readsSign_133 : decode cX9_readsSign 133 = .ok (.iaload, 1) := by decide +kernel
theorem dX9_readsSign_134 : decode cX9_readsSign 134 = .ok (.iconst 1, 1) := by decide +kernel
theorem dX9_readsSign_135 : decode cX9_readsSign 135 = .ok (.iadd, 1) := by decide +kernel
theorem dX9_readsSign_136 : decode cX9_readsSign 136 = .ok (.iastore, 1) := by decide +kernel
theorem dX9_readsSign_137 : decode cX9_readsSign 137 = .ok (.return_, 1) := by decide +kernel
theorem dX9_tells_0 : decode cX9_tells 0 = .ok (.aload_n 0, 1) := by decide +kernel
theorem dX9_tells_1 : decode cX9_tells 1 = .ok (.invokevirtual 87, 3) := by decide +kernel
theorem dX9_tells_4 : decode cX9_tells 4 = .ok (.ifCond .ne 4, 3) := by decide +kernel
theorem dX9_tells_7 : decode cX9_tells 7 = .ok (.return_, 1) := by decide +kernel
theorem dX9_tells_8 : decode cX9_tells 8 = .ok (.aload_n 0, 1) := by decide +kernel
theorem dX9_tells_9 : decode cX9_tells 9 = .ok (.getfield 23, 3) := by decide +kernel
theorem dX9_tells_12 : decode cX9_tells 12 = .ok (.sipush 305, 3) := by decide +kernel
theorem dX9_tells_15 : decode cX9_tells 15 = .ok (.aload_n 0, 1) := by decide +kernel
theorem dX9_tells_16 : decode cX9_tells 16 = .ok (.getfield 127, 3) := by decide +kernel
theorem dX9_tells_19 : decode cX9_tells 19 = .ok (.iadd, 1) := by decide +kernel
theorem dX9_tells_20 : decode cX9_tells 20 = .ok (.iload_n 1, 1) := by decide +kernel
theorem dX9_tells_21 : decode cX9_tells 21 = .ok (.iastore, 1) := by decide +kernel
theorem dX9_tells_22 : decode cX9_tells 22 = .ok (.aload_n 0, 1) := by decide +kernel
theorem dX9_tells_23 : decode cX9_tells 23 = .ok (.dup, 1) := by decide +kernel
theorem dX9_tells_24 : decode cX9_tells 24 = .ok (.getfield 127, 3) := by decide +kernel
theorem dX9_tells_27 : decode cX9_tells 27 = .ok (.iconst 1, 1) := by decide +kernel
theorem dX9_tells_28 : decode cX9_tells 28 = .ok (.iadd, 1) := by decide +kernel
theorem dX9_tells_29 : decode cX9_tells 29 = .ok (.putfield 127, 3) := by decide +kernel
theorem dX9_tells_32 : decode cX9_tells 32 = .ok (.return_, 1) := by decide +kernel
theorem dX9_factOf_0 : decode cX9_factOf 0 = .ok (.iload_n 0, 1) := by decide +kernel
theorem dX9_factOf_1 : decode cX9_factOf 1 = .ok (.ifCond .ne 8, 3) := by decide +kernel
theorem dX9_factOf_4 : decode cX9_factOf 4 = .ok (.ldc 130, 2) := by decide +kernel
theorem dX9_factOf_6 : decode cX9_factOf 6 = .ok (.goto 45, 3) := by decide +kernel
theorem dX9_factOf_9 : decode cX9_factOf 9 = .ok (.iload_n 0, 1) := by decide +kernel
theorem dX9_factOf_10 : decode cX9_factOf 10 = .ok (.iconst 1, 1) := by decide +kernel
theorem dX9_factOf_11 : decode cX9_factOf 11 = .ok (.if_icmp .ne 8, 3) := by decide +kernel
theorem dX9_factOf_14 : decode cX9_factOf 14 = .ok (.ldc 132, 2) := by decide +kernel
theorem dX9_factOf_16 : decode cX9_factOf 16 = .ok (.goto 35, 3) := by decide +kernel
theorem dX9_factOf_19 : decode cX9_factOf 19 = .ok (.iload_n 0, 1) := by decide +kernel
theorem dX9_factOf_20 : decode cX9_factOf 20 = .ok (.iconst 2, 1) := by decide +kernel
theorem dX9_factOf_21 : decode cX9_factOf 21 = .ok (.if_icmp .ne 8, 3) := by decide +kernel
theorem dX9_factOf_24 : decode cX9_factOf 24 = .ok (.ldc 134, 2) := by decide +kernel
theorem dX9_factOf_26 : decode cX9_factOf 26 = .ok (.goto 25, 3) := by decide +kernel
theorem dX9_factOf_29 : decode cX9_factOf 29 = .ok (.iload_n 0, 1) := by decide +kernel
theorem dX9_factOf_30 : decode cX9_factOf 30 = .ok (.iconst 3, 1) := by decide +kernel
theorem dX9_factOf_31 : decode cX9_factOf 31 = .ok (.if_icmp .ne 8, 3) := by decide +kernel
theorem dX9_factOf_34 : decode cX9_factOf 34 = .ok (.ldc 136, 2) := by decide +kernel
theorem dX9_factOf_36 : decode cX9_factOf 36 = .ok (.goto 15, 3) := by decide +kernel
theorem dX9_factOf_39 : decode cX9_factOf 39 = .ok (.iload_n 0, 1) := by decide +kernel
theorem dX9_factOf_40 : decode cX9_factOf 40 = .ok (.iconst 4, 1) := by decide +kernel
theorem dX9_factOf_41 : decode cX9_factOf 41 = .ok (.if_icmp .ne 8, 3) := by decide +kernel
theorem dX9_factOf_44 : decode cX9_factOf 44 = .ok (.ldc 138, 2) := by decide +kernel
theorem dX9_factOf_46 : decode cX9_factOf 46 = .ok (.goto 5, 3) := by decide +kernel
theorem dX9_factOf_49 : decode cX9_factOf 49 = .ok (.ldc 140, 2) := by decide +kernel
theorem dX9_factOf_51 : decode cX9_factOf 51 = .ok (.areturn, 1) := by decide +kernel
theorem dX9_side_0 : decode cX9_side 0 = .ok (.aload_n 0, 1) := by decide +kernel
theorem dX9_side_1 : decode cX9_side 1 = .ok (.invokevirtual 87, 3) := by decide +kernel
theorem dX9_side_4 : decode cX9_side 4 = .ok (.ifCond .ne 4, 3) := by decide +kernel
theorem dX9_side_7 : decode cX9_side 7 = .ok (.return_, 1) := by decide +kernel
theorem dX9_side_8 : decode cX9_side 8 = .ok (.aload_n 0, 1) := by decide +kernel
theorem dX9_side_9 : decode cX9_side 9 = .ok (.invokevirtual 70, 3) := by decide +kernel
theorem dX9_side_12 : decode cX9_side 12 = .ok (.invokestatic 99, 3) := by decide +kernel
theorem dX9_side_15 : decode cX9_side 15 = .ok (.ifCond .eq 23, 3) := by decide +kernel
theorem dX9_side_18 : decode cX9_side 18 = .ok (.aload_n 0, 1) := by decide +kernel
theorem dX9_side_19 : decode cX9_side 19 = .ok (.iconst 0, 1) := by decide +kernel
theorem dX9_side_20 : decode cX9_side 20 = .ok (.sipush 999, 3) := by decide +kernel
theorem dX9_side_23 : decode cX9_side 23 = .ok (.invokevirtual 117, 3) := by decide +kernel
theorem dX9_side_26 : decode cX9_side 26 = .ok (.istore_n 1, 1) := by decide +kernel
theorem dX9_side_27 : decode cX9_side 27 = .ok (.aload_n 0, 1) := by decide +kernel
theorem dX9_side_28 : decode cX9_side 28 = .ok (.iconst 1, 1) := by decide +kernel
theorem dX9_side_29 : decode cX9_side 29 = .ok (.invokevirtual 142, 3) := by decide +kernel
theorem dX9_side_32 : decode cX9_side 32 = .ok (.aload_n 0, 1) := by decide +kernel
theorem dX9_side_33 : decode cX9_side 33 = .ok (.iload_n 1, 1) := by decide +kernel
theorem dX9_side_34 : decode cX9_side 34 = .ok (.invokevirtual 142, 3) := by decide +kernel
theorem dX9_side_37 : decode cX9_side 37 = .ok (.return_, 1) := by decide +kernel
theorem dX9_side_38 : decode cX9_side 38 = .ok (.iconst 0, 1) := by decide +kernel
theorem dX9_side_39 : decode cX9_side 39 = .ok (.istore_n 1, 1) := by decide +kernel
theorem dX9_side_40 : decode cX9_side 40 = .ok (.iload_n 1, 1) := by decide +kernel
theorem dX9_side_41 : decode cX9_side 41 = .ok (.bipush 6, 2) := by decide +kernel
theorem dX9_side_43 : decode cX9_side 43 = .ok (.if_icmp .ge 31, 3) := by decide +kernel
theorem dX9_side_46 : decode cX9_side 46 = .ok (.aload_n 0, 1) := by decide +kernel
theorem dX9_side_47 : decode cX9_side 47 = .ok (.iload_n 1, 1) := by decide +kernel
theorem dX9_side_48 : decode cX9_side 48 = .ok (.invokestatic 146, 3) := by decide +kernel
theorem dX9_side_51 : decode cX9_side 51 = .ok (.invokevirtual 150, 3) := by decide +kernel
theorem dX9_side_54 : decode cX9_side 54 = .ok (.ifCond .ne 6, 3) := by decide +kernel
theorem dX9_side_57 : decode cX9_side 57 = .ok (.goto 11, 3) := by decide +kernel
theorem dX9_side_60 : decode cX9_side 60 = .ok (.aload_n 0, 1) := by decide +kernel
theorem dX9_side_61 : decode cX9_side 61 = .ok (.iconst 2, 1) := by decide +kernel
theorem dX9_side_62 : decode cX9_side 62 = .ok (.iload_n 1, 1) := by decide +kernel
theorem dX9_side_63 : decode cX9_side 63 = .ok (.iadd, 1) := by decide +kernel
theorem dX9_side_64 : decode cX9_side 64 = .ok (.invokevirtual 142, 3) := by decide +kernel
theorem dX9_side_67 : decode cX9_side 67 = .ok (.return_, 1) := by decide +kernel
theorem dX9_side_68 : decode cX9_side 68 = .ok (.iinc 1 1, 3) := by decide +kernel
theorem dX9_side_71 : decode cX9_side 71 = .ok (.goto (-31), 3) := by decide +kernel
theorem dX9_side_74 : decode cX9_side 74 = .ok (.aload_n 0, 1) := by decide +kernel
theorem dX9_side_75 : decode cX9_side 75 = .ok (.iconst 1, 1) := by decide +kernel
theorem dX9_side_76 : decode cX9_side 76 = .ok (.aload_n 0, 1) := by decide +kernel
theorem dX9_side_77 : decode cX9_side 77 = .ok (.getfield 57, 3) := by decide +kernel
theorem dX9_side_80 : decode cX9_side 80 = .ok (.invokevirtual 95, 3) := by decide +kernel
theorem dX9_side_83 : decode cX9_side 83 = .ok (.return_, 1) := by decide +kernel
theorem dX9_part_0 : decode cX9_part 0 = .ok (.aload_n 0, 1) := by decide +kernel
theorem dX9_part_1 : decode cX9_part 1 = .ok (.invokevirtual 87, 3) := by decide +kernel
theorem dX9_part_4 : decode cX9_part 4 = .ok (.ifCond .ne 4, 3) := by decide +kernel
theorem dX9_part_7 : decode cX9_part 7 = .ok (.return_, 1) := by decide +kernel
theorem dX9_part_8 : decode cX9_part 8 = .ok (.aload_n 0, 1) := by decide +kernel
theorem dX9_part_9 : decode cX9_part 9 = .ok (.ldc 153, 2) := by decide +kernel
theorem dX9_part_11 : decode cX9_part 11 = .ok (.invokevirtual 91, 3) := by decide +kernel
theorem dX9_part_14 : decode cX9_part 14 = .ok (.istore_n 1, 1) := by decide +kernel
theorem dX9_part_15 : decode cX9_part 15 = .ok (.iload_n 1, 1) := by decide +kernel
theorem dX9_part_16 : decode cX9_part 16 = .ok (.ifCond .ne 91, 3) := by decide +kernel
theorem dX9_part_19 : decode cX9_part 19 = .ok (.aload_n 0, 1) := by decide +kernel
theorem dX9_part_20 : decode cX9_part 20 = .ok (.invokevirtual 70, 3) := by decide +kernel
theorem dX9_part_23 : decode cX9_part 23 = .ok (.bipush 40, 2) := by decide +kernel
theorem dX9_part_25 : decode cX9_part 25 = .ok (.if_icmp .eq 82, 3) := by decide +kernel
theorem dX9_part_28 : decode cX9_part 28 = .ok (.aload_n 0, 1) := by decide +kernel
theorem dX9_part_29 : decode cX9_part 29 = .ok (.invokevirtual 155, 3) := by decide +kernel
theorem dX9_part_32 : decode cX9_part 32 = .ok (.aload_n 0, 1) := by decide +kernel
theorem dX9_part_33 : decode cX9_part 33 = .ok (.invokevirtual 70, 3) := by decide +kernel
theorem dX9_part_36 : decode cX9_part 36 = .ok (.istore_n 2, 1) := by decide +kernel
theorem dX9_part_37 : decode cX9_part 37 = .ok (.iload_n 2, 1) := by decide +kernel
theorem dX9_part_38 : decode cX9_part 38 = .ok (.bipush 60, 2) := by decide +kernel
theorem dX9_part_40 : decode cX9_part 40 = .ok (.if_icmp .eq 24, 3) := by decide +kernel
theorem dX9_part_43 : decode cX9_part 43 = .ok (.iload_n 2, 1) := by decide +kernel
theorem dX9_part_44 : decode cX9_part 44 = .ok (.bipush 61, 2) := by decide +kernel
theorem dX9_part_46 : decode cX9_part 46 = .ok (.if_icmp .eq 18, 3) := by decide +kernel
theorem dX9_part_49 : decode cX9_part 49 = .ok (.iload_n 2, 1) := by decide +kernel
theorem dX9_part_50 : decode cX9_part 50 = .ok (.bipush 62, 2) := by decide +kernel
theorem dX9_part_52 : decode cX9_part 52 = .ok (.if_icmp .eq 12, 3) := by decide +kernel
theorem dX9_part_55 : decode cX9_part 55 = .ok (.aload_n 0, 1) := by decide +kernel
theorem dX9_part_56 : decode cX9_part 56 = .ok (.iconst 1, 1) := by decide +kernel
theorem dX9_part_57 : decode cX9_part 57 = .ok (.aload_n 0, 1) := by decide +kernel
theorem dX9_part_58 : decode cX9_part 58 = .ok (.getfield 57, 3) := by decide +kernel
theorem dX9_part_61 : decode cX9_part 61 = .ok (.invokevirtual 95, 3) := by decide +kernel
theorem dX9_part_64 : decode cX9_part 64 = .ok (.aload_n 0, 1) := by decide +kernel
theorem dX9_part_65 : decode cX9_part 65 = .ok (.dup, 1) := by decide +kernel
theorem dX9_part_66 : decode cX9_part 66 = .ok (.getfield 57, 3) := by decide +kernel
theorem dX9_part_69 : decode cX9_part 69 = .ok (.iconst 1, 1) := by decide +kernel
theorem dX9_part_70 : decode cX9_part 70 = .ok (.iadd, 1) := by decide +kernel
theorem dX9_part_71 : decode cX9_part 71 = .ok (.putfield 57, 3) := by decide +kernel
theorem dX9_part_74 : decode cX9_part 74 = .ok (.aload_n 0, 1) := by decide +kernel
theorem dX9_part_75 : decode cX9_part 75 = .ok (.invokevirtual 155, 3) := by decide +kernel
theorem dX9_part_78 : decode cX9_part 78 = .ok (.aload_n 0, 1) := by decide +kernel
theorem dX9_part_79 : decode cX9_part 79 = .ok (.iload_n 2, 1) := by decide +kernel
theorem dX9_part_80 : decode cX9_part 80 = .ok (.bipush 60, 2) := by decide +kernel
theorem dX9_part_82 : decode cX9_part 82 = .ok (.if_icmp .ne 8, 3) := by decide +kernel
theorem dX9_part_85 : decode cX9_part 85 = .ok (.bipush 8, 2) := by decide +kernel
theorem dX9_part_87 : decode cX9_part 87 = .ok (.goto 16, 3) := by decide +kernel
theorem dX9_part_90 : decode cX9_part 90 = .ok (.iload_n 2, 1) := by decide +kernel
theorem dX9_part_91 : decode cX9_part 91 = .ok (.bipush 61, 2) := by decide +kernel
theorem dX9_part_93 : decode cX9_part 93 = .ok (.if_icmp .ne 8, 3) := by decide +kernel
theorem dX9_part_96 : decode cX9_part 96 = .ok (.bipush 9, 2) := by decide +kernel
theorem dX9_part_98 : decode cX9_part 98 = .ok (.goto 5, 3) := by decide +kernel
theorem dX9_part_101 : decode cX9_part 101 = .ok (.bipush 10, 2) := by decide +kernel
theorem dX9_part_103 : decode cX9_part 103 = .ok (.invokevirtual 142, 3) := by decide +kernel
theorem dX9_part_106 : decode cX9_part 106 = .ok (.return_, 1) := by decide +kernel
theorem dX9_part_107 : decode cX9_part 107 = .ok (.aload_n 0, 1) := by decide +kernel
theorem dX9_part_108 : decode cX9_part 108 = .ok (.getfield 158, 3) := by decide +kernel
theorem dX9_part_111 : decode cX9_part 111 = .ok (.iconst 4, 1) := by decide +kernel
theorem dX9_part_112 : decode cX9_part 112 = .ok (.if_icmp .ne 12, 3) := by decide +kernel
theorem dX9_part_115 : decode cX9_part 115 = .ok (.aload_n 0, 1) := by decide +kernel
theorem dX9_part_116 : decode cX9_part 116 = .ok (.iconst 5, 1) := by decide +kernel
theorem dX9_part_117 : decode cX9_part 117 = .ok (.aload_n 0, 1) := by decide +kernel
theorem dX9_part_118 : decode cX9_part 118 = .ok (.getfield 57, 3) := by decide +kernel
theorem dX9_part_121 : decode cX9_part 121 = .ok (.invokevirtual 95, 3) := by decide +kernel
theorem dX9_part_124 : decode cX9_part 124 = .ok (.aload_n 0, 1) := by decide +kernel
theorem dX9_part_125 : decode cX9_part 125 = .ok (.dup, 1) := by decide +kernel
theorem dX9_part_126 : decode cX9_part 126 = .ok (.getfield 57, 3) := by decide +kernel
theorem dX9_part_129 : decode cX9_part 129 = .ok (.iload_n 1, 1) := by decide +kernel
theorem dX9_part_130 : decode cX9_part 130 = .ok (.ifCond .eq 7, 3) := by decide +kernel
theorem dX9_part_133 : decode cX9_part 133 = .ok (.iconst 3, 1) := by decide +kernel
theorem dX9_part_134 : decode cX9_part 134 = .ok (.goto 4, 3) := by decide +kernel
theorem dX9_part_137 : decode cX9_part 137 = .ok (.iconst 1, 1) := by decide +kernel
theorem dX9_part_138 : decode cX9_part 138 = .ok (.iadd, 1) := by decide +kernel
theorem dX9_part_139 : decode cX9_part 139 = .ok (.putfield 57, 3) := by decide +kernel
theorem dX9_part_142 : decode cX9_part 142 = .ok (.aload_n 0, 1) := by decide +kernel
theorem dX9_part_143 : decode cX9_part 143 = .ok (.dup, 1) := by decide +kernel
theorem dX9_part_144 : decode cX9_part 144 = .ok (.getfield 158, 3) := by decide +kernel
theorem dX9_part_147 : decode cX9_part 147 = .ok (.iconst 1, 1) := by decide +kernel
theorem dX9_part_148 : decode cX9_part 148 = .ok (.iadd, 1) := by decide +kernel
theorem dX9_part_149 : decode cX9_part 149 = .ok (.putfield 158, 3) := by decide +kernel
theorem dX9_part_152 : decode cX9_part 152 = .ok (.iload_n 1, 1) := by decide +kernel
theorem dX9_part_153 : decode cX9_part 153 = .ok (.ifCond .eq 16, 3) := by decide +kernel
theorem dX9_part_156 : decode cX9_part 156 = .ok (.aload_n 0, 1) := by decide +kernel
theorem dX9_part_157 : decode cX9_part 157 = .ok (.invokevirtual 161, 3) := by decide +kernel
theorem dX9_part_160 : decode cX9_part 160 = .ok (.aload_n 0, 1) := by decide +kernel
theorem dX9_part_161 : decode cX9_part 161 = .ok (.bipush 11, 2) := by decide +kernel
theorem dX9_part_163 : decode cX9_part 163 = .ok (.invokevirtual 142, 3) := by decide +kernel
theorem dX9_part_166 : decode cX9_part 166 = .ok (.goto 13, 3) := by decide +kernel
theorem dX9_part_169 : decode cX9_part 169 = .ok (.aload_n 0, 1) := by decide +kernel
theorem dX9_part_170 : decode cX9_part 170 = .ok (.invokevirtual 164, 3) := by decide +kernel
theorem dX9_part_173 : decode cX9_part 173 = .ok (.aload_n 0, 1) := by decide +kernel
theorem dX9_part_174 : decode cX9_part 174 = .ok (.bipush 41, 2) := by decide +kernel
theorem dX9_part_176 : decode cX9_part 176 = .ok (.invokevirtual 167, 3) := by decide +kernel
theorem dX9_part_179 : decode cX9_part 179 = .ok (.aload_n 0, 1) := by decide +kernel
theorem dX9_part_180 : decode cX9_part 180 = .ok (.dup, 1) := by decide +kernel
theorem dX9_part_181 : decode cX9_part 181 = .ok (.getfield 158, 3) := by decide +kernel
theorem dX9_part_184 : decode cX9_part 184 = .ok (.iconst 1, 1) := by decide +kernel
theorem dX9_part_185 : decode cX9_part 185 = .ok (.isub, 1) := by decide +kernel
theorem dX9_part_186 : decode cX9_part 186 = .ok (.putfield 158, 3) := by decide +kernel
theorem dX9_part_189 : decode cX9_part 189 = .ok (.return_, 1) := by decide +kernel
theorem dX9_all_0 : decode cX9_all 0 = .ok (.aload_n 0, 1) := by decide +kernel
theorem dX9_all_1 : decode cX9_all 1 = .ok (.invokevirtual 161, 3) := by decide +kernel
theorem dX9_all_4 : decode cX9_all 4 = .ok (.aload_n 0, 1) := by decide +kernel
theorem dX9_all_5 : decode cX9_all 5 = .ok (.ldc 170, 2) := by decide +kernel
theorem dX9_all_7 : decode cX9_all 7 = .ok (.invokevirtual 150, 3) := by decide +kernel
theorem dX9_all_10 : decode cX9_all 10 = .ok (.ifCond .eq 16, 3) := by decide +kernel
theorem dX9_all_13 : decode cX9_all 13 = .ok (.aload_n 0, 1) := by decide +kernel
theorem dX9_all_14 : decode cX9_all 14 = .ok (.invokevirtual 161, 3) := by decide +kernel
theorem dX9_all_17 : decode cX9_all 17 = .ok (.aload_n 0, 1) := by decide +kernel
theorem dX9_all_18 : decode cX9_all 18 = .ok (.bipush 12, 2) := by decide +kernel
theorem dX9_all_20 : decode cX9_all 20 = .ok (.invokevirtual 142, 3) := by decide +kernel
theorem dX9_all_23 : decode cX9_all 23 = .ok (.goto (-19), 3) := by decide +kernel
theorem dX9_all_26 : decode cX9_all 26 = .ok (.return_, 1) := by decide +kernel
theorem dX9_any_0 : decode cX9_any 0 = .ok (.aload_n 0, 1) := by decide +kernel
theorem dX9_any_1 : decode cX9_any 1 = .ok (.invokevirtual 172, 3) := by decide +kernel
theorem dX9_any_4 : decode cX9_any 4 = .ok (.aload_n 0, 1) := by decide +kernel
theorem dX9_any_5 : decode cX9_any 5 = .ok (.ldc 175, 2) := by decide +kernel
theorem dX9_any_7 : decode cX9_any 7 = .ok (.invokevirtual 150, 3) := by decide +kernel
theorem dX9_any_10 : decode cX9_any 10 = .ok (.ifCond .eq 16, 3) := by decide +kernel
theorem dX9_any_13 : decode cX9_any 13 = .ok (.aload_n 0, 1) := by decide +kernel
theorem dX9_any_14 : decode cX9_any 14 = .ok (.invokevirtual 172, 3) := by decide +kernel
theorem dX9_any_17 : decode cX9_any 17 = .ok (.aload_n 0, 1) := by decide +kernel
theorem dX9_any_18 : decode cX9_any 18 = .ok (.bipush 13, 2) := by decide +kernel
theorem dX9_any_20 : decode cX9_any 20 = .ok (.invokevirtual 142, 3) := by decide +kernel
theorem dX9_any_23 : decode cX9_any 23 = .ok (.goto (-19), 3) := by decide +kernel
theorem dX9_any_26 : decode cX9_any 26 = .ok (.return_, 1) := by decide +kernel
theorem dX9_takesOnce_0 : decode cX9_takesOnce 0 = .ok (.aload_n 0, 1) := by decide +kernel
theorem dX9_takesOnce_1 : decode cX9_takesOnce 1 = .ok (.getfield 177, 3) := by decide +kernel
theorem dX9_takesOnce_4 : decode cX9_takesOnce 4 = .ok (.iload_n 2, 1) := by decide +kernel
theorem dX9_takesOnce_5 : decode cX9_takesOnce 5 = .ok (.ishr, 1) := by decide +kernel
theorem dX9_takesOnce_6 : decode cX9_takesOnce 6 = .ok (.iconst 1, 1) := by decide +kernel
theorem dX9_takesOnce_7 : decode cX9_takesOnce 7 = .ok (.iand, 1) := by decide +kernel
theorem dX9_takesOnce_8 : decode cX9_takesOnce 8 = .ok (.iconst 1, 1) := by decide +kernel
theorem dX9_takesOnce_9 : decode cX9_takesOnce 9 = .ok (.if_icmp .eq 11, 3) := by decide +kernel
theorem dX9_takesOnce_12 : decode cX9_takesOnce 12 = .ok (.aload_n 0, 1) := by decide +kernel
theorem dX9_takesOnce_13 : decode cX9_takesOnce 13 = .ok (.aload_n 1, 1) := by decide +kernel
theorem dX9_takesOnce_14 : decode cX9_takesOnce 14 = .ok (.invokevirtual 150, 3) := by decide +kernel
theorem dX9_takesOnce_17 : decode cX9_takesOnce 17 = .ok (.ifCond .ne 5, 3) := by decide +kernel
theorem dX9_takesOnce_20 : decode cX9_takesOnce 20 = .ok (.iconst 0, 1) := by decide +kernel
theorem dX9_takesOnce_21 : decode cX9_takesOnce 21 = .ok (.ireturn, 1) := by decide +kernel
theorem dX9_takesOnce_22 : decode cX9_takesOnce 22 = .ok (.aload_n 0, 1) := by decide +kernel
theorem dX9_takesOnce_23 : decode cX9_takesOnce 23 = .ok (.dup, 1) := by decide +kernel
theorem dX9_takesOnce_24 : decode cX9_takesOnce 24 = .ok (.getfield 177, 3) := by decide +kernel
theorem dX9_takesOnce_27 : decode cX9_takesOnce 27 = .ok (.iconst 1, 1) := by decide +kernel
theorem dX9_takesOnce_28 : decode cX9_takesOnce 28 = .ok (.iload_n 2, 1) := by decide +kernel
theorem dX9_takesOnce_29 : decode cX9_takesOnce 29 = .ok (.ishl, 1) := by decide +kernel
theorem dX9_takesOnce_30 : decode cX9_takesOnce 30 = .ok (.ior, 1) := by decide +kernel
theorem dX9_takesOnce_31 : decode cX9_takesOnce 31 = .ok (.putfield 177, 3) := by decide +kernel
theorem dX9_takesOnce_34 : decode cX9_takesOnce 34 = .ok (.iconst 1, 1) := by decide +kernel
theorem dX9_takesOnce_35 : decode cX9_takesOnce 35 = .ok (.ireturn, 1) := by decide +kernel
theorem dX9_readsLine_0 : decode cX9_readsLine 0 = .ok (.aload_n 0, 1) := by decide +kernel
theorem dX9_readsLine_1 : decode cX9_readsLine 1 = .ok (.invokevirtual 70, 3) := by decide +kernel
theorem dX9_readsLine_4 : decode cX9_readsLine 4 = .ok (.pop, 1) := by decide +kernel
theorem dX9_readsLine_5 : decode cX9_readsLine 5 = .ok (.aload_n 0, 1) := by decide +kernel
theorem dX9_readsLine_6 : decode cX9_readsLine 6 = .ok (.getfield 57, 3) := by decide +kernel
theorem dX9_readsLine_9 : decode cX9_readsLine 9 = .ok (.istore_n 1, 1) := by decide +kernel
theorem dX9_readsLine_10 : decode cX9_readsLine 10 = .ok (.aload_n 0, 1) := by decide +kernel
theorem dX9_readsLine_11 : decode cX9_readsLine 11 = .ok (.ldc 180, 2) := by decide +kernel
theorem dX9_readsLine_13 : decode cX9_readsLine 13 = .ok (.invokevirtual 150, 3) := by decide +kernel
theorem dX9_readsLine_16 : decode cX9_readsLine 16 = .ok (.ifCond .eq 11, 3) := by decide +kernel
theorem dX9_readsLine_19 : decode cX9_readsLine 19 = .ok (.aload_n 0, 1) := by decide +kernel
theorem dX9_readsLine_20 : decode cX9_readsLine 20 = .ok (.iload_n 1, 1) := by decide +kernel
theorem dX9_readsLine_21 : decode cX9_readsLine 21 = .ok (.invokevirtual 182, 3) := by decide +kernel
theorem dX9_readsLine_24 : decode cX9_readsLine 24 = .ok (.goto 220, 3) := by decide +kernel
theorem dX9_readsLine_27 : decode cX9_readsLine 27 = .ok (.aload_n 0, 1) := by decide +kernel
theorem dX9_readsLine_28 : decode cX9_readsLine 28 = .ok (.ldc 136, 2) := by decide +kernel
theorem dX9_readsLine_30 : decode cX9_readsLine 30 = .ok (.invokevirtual 150, 3) := by decide +kernel
theorem dX9_readsLine_33 : decode cX9_readsLine 33 = .ok (.ifCond .eq 36, 3) := by decide +kernel
theorem dX9_readsLine_36 : decode cX9_readsLine 36 = .ok (.aload_n 0, 1) := by decide +kernel
theorem dX9_readsLine_37 : decode cX9_readsLine 37 = .ok (.getfield 23, 3) := by decide +kernel
theorem dX9_readsLine_40 : decode cX9_readsLine 40 = .ok (.iconst 1, 1) := by decide +kernel
theorem dX9_readsLine_41 : decode cX9_readsLine 41 = .ok (.iaload, 1) := by decide +kernel
theorem dX9_readsLine_42 : decode cX9_readsLine 42 = .ok (.bipush 8, 2) := by decide +kernel
theorem dX9_readsLine_44 : decode cX9_readsLine 44 = .ok (.if_icmp .ne 12, 3) := by decide +kernel
theorem dX9_readsLine_47 : decode cX9_readsLine 47 = .ok (.aload_n 0, 1) := by decide +kernel
theorem dX9_readsLine_48 : decode cX9_readsLine 48 = .ok (.iconst 4, 1) := by decide +kernel
theorem dX9_readsLine_49 : decode cX9_readsLine 49 = .ok (.iload_n 1, 1) := by decide +kernel
theorem dX9_readsLine_50 : decode cX9_readsLine 50 = .ok (.invokevirtual 95, 3) := by decide +kernel
theorem dX9_readsLine_53 : decode cX9_readsLine 53 = .ok (.goto 191, 3) := by decide +kernel
theorem dX9_readsLine_56 : decode cX9_readsLine 56 = .ok (.aload_n 0, 1) := by decide +kernel
theorem dX9_readsLine_57 : decode cX9_readsLine 57 = .ok (.getfield 23, 3) := by decide +kernel
theorem dX9_readsLine_60 : decode cX9_readsLine 60 = .ok (.iconst 1, 1) := by decide +kernel
theorem dX9_readsLine_61 : decode cX9_readsLine 61 = .ok (.dup2, 1) := by decide +kernel
theorem dX9_readsLine_62 : decode cX9_readsLine 62 = .ok (.iaload, 1) := by decide +kernel
theorem dX9_readsLine_63 : decode cX9_readsLine 63 = .ok (.iconst 1, 1) := by decide +kernel
theorem dX9_readsLine_64 : decode cX9_readsLine 64 = .ok (.iadd, 1) := by decide +kernel
theorem dX9_readsLine_65 : decode cX9_readsLine 65 = .ok (.iastore, 1) := by decide +kernel
theorem dX9_readsLine_66 : decode cX9_readsLine 66 = .ok (.goto 178, 3) := by decide +kernel
theorem dX9_readsLine_69 : decode cX9_readsLine 69 = .ok (.aload_n 0, 1) := by decide +kernel
theorem dX9_readsLine_70 : decode cX9_readsLine 70 = .ok (.ldc 185, 2) := by decide +kernel
theorem dX9_readsLine_72 : decode cX9_readsLine 72 = .ok (.invokevirtual 150, 3) := by decide +kernel
theorem dX9_readsLine_75 : decode cX9_readsLine 75 = .ok (.ifCond .eq 11, 3) := by decide +kernel
theorem dX9_readsLine_78 : decode cX9_readsLine 78 = .ok (.aload_n 0, 1) := by decide +kernel
theorem dX9_readsLine_79 : decode cX9_readsLine 79 = .ok (.iload_n 1, 1) := by decide +kernel
theorem dX9_readsLine_80 : decode cX9_readsLine 80 = .ok (.invokevirtual 187, 3) := by decide +kernel
theorem dX9_readsLine_83 : decode cX9_readsLine 83 = .ok (.goto 161, 3) := by decide +kernel
theorem dX9_readsLine_86 : decode cX9_readsLine 86 = .ok (.aload_n 0, 1) := by decide +kernel
theorem dX9_readsLine_87 : decode cX9_readsLine 87 = .ok (.ldc 190, 2) := by decide +kernel
theorem dX9_readsLine_89 : decode cX9_readsLine 89 = .ok (.iconst 0, 1) := by decide +kernel
theorem dX9_readsLine_90 : decode cX9_readsLine 90 = .ok (.invokevirtual 192, 3) := by decide +kernel
theorem dX9_readsLine_93 : decode cX9_readsLine 93 = .ok (.ifCond .eq 19, 3) := by decide +kernel
theorem dX9_readsLine_96 : decode cX9_readsLine 96 = .ok (.aload_n 0, 1) := by decide +kernel
theorem dX9_readsLine_97 : decode cX9_readsLine 97 = .ok (.getfield 23, 3) := by decide +kernel
theorem dX9_readsLine_100 : decode cX9_readsLine 100 = .ok (.iconst 3, 1) := by decide +kernel
theorem dX9_readsLine_101 : decode cX9_readsLine 101 = .ok (.aload_n 0, 1) := by decide +kernel
theorem dX9_readsLine_102 : decode cX9_readsLine 102 = .ok (.iconst 0, 1) := by decide +kernel
theorem dX9_readsLine_103 : decode cX9_readsLine 103 = .ok (.bipush 40, 2) := by decide +kernel
theorem dX9_readsLine_105 : decode cX9_readsLine 105 = .ok (.invokevirtual 117, 3) := by decide +kernel
theorem dX9_readsLine_108 : decode cX9_readsLine 108 = .ok (.iastore, 1) := by decide +kernel
theorem dX9_readsLine_109 : decode cX9_readsLine 109 = .ok (.goto 135, 3) := by decide +kernel
theorem dX9_readsLine_112 : decode cX9_readsLine 112 = .ok (.aload_n 0, 1) := by decide +kernel
theorem dX9_readsLine_113 : decode cX9_readsLine 113 = .ok (.ldc 196, 2) := by decide +kernel
theorem dX9_readsLine_115 : decode cX9_readsLine 115 = .ok (.iconst 1, 1) := by decide +kernel
theorem dX9_readsLine_116 : decode cX9_readsLine 116 = .ok (.invokevirtual 192, 3) := by decide +kernel
theorem dX9_readsLine_119 : decode cX9_readsLine 119 = .ok (.ifCond .eq 39, 3) := by decide +kernel
theorem dX9_readsLine_122 : decode cX9_readsLine 122 = .ok (.aload_n 0, 1) := by decide +kernel
theorem dX9_readsLine_123 : decode cX9_readsLine 123 = .ok (.getfield 23, 3) := by decide +kernel
theorem dX9_readsLine_126 : decode cX9_readsLine 126 = .ok (.iconst 4, 1) := by decide +kernel
theorem dX9_readsLine_127 : decode cX9_readsLine 127 = .ok (.aload_n 0, 1) := by decide +kernel
theorem dX9_readsLine_128 : decode cX9_readsLine 128 = .ok (.iconst 0, 1) := by decide +kernel
theorem dX9_readsLine_129 : decode cX9_readsLine 129 = .ok (.sipush 999, 3) := by decide +kernel
theorem dX9_readsLine_132 : decode cX9_readsLine 132 = .ok (.invokevirtual 117, 3) := by decide +kernel
theorem dX9_readsLine_135 : decode cX9_readsLine 135 = .ok (.iastore, 1) := by decide +kernel
theorem dX9_readsLine_136 : decode cX9_readsLine 136 = .ok (.aload_n 0, 1) := by decide +kernel
theorem dX9_readsLine_137 : decode cX9_readsLine 137 = .ok (.getfield 23, 3) := by decide +kernel
theorem dX9_readsLine_140 : decode cX9_readsLine 140 = .ok (.iconst 5, 1) := by decide +kernel
theorem dX9_readsLine_141 : decode cX9_readsLine 141 = .ok (.aload_n 0, 1) := by decide +kernel
theorem dX9_readsLine_142 : decode cX9_readsLine 142 = .ok (.aload_n 0, 1) := by decide +kernel
theorem dX9_readsLine_143 : decode cX9_readsLine 143 = .ok (.getfield 23, 3) := by decide +kernel
theorem dX9_readsLine_146 : decode cX9_readsLine 146 = .ok (.iconst 4, 1) := by decide +kernel
theorem dX9_readsLine_147 : decode cX9_readsLine 147 = .ok (.iaload, 1) := by decide +kernel
theorem dX9_readsLine_148 : decode cX9_readsLine 148 = .ok (.sipush 999, 3) := by decide +kernel
theorem dX9_readsLine_151 : decode cX9_readsLine 151 = .ok (.invokevirtual 117, 3) := by decide +kernel
theorem dX9_readsLine_154 : decode cX9_readsLine 154 = .ok (.iastore, 1) := by decide +kernel
theorem dX9_readsLine_155 : decode cX9_readsLine 155 = .ok (.goto 89, 3) := by decide +kernel
theorem dX9_readsLine_158 : decode cX9_readsLine 158 = .ok (.aload_n 0, 1) := by decide +kernel
theorem dX9_readsLine_159 : decode cX9_readsLine 159 = .ok (.ldc 198, 2) := by decide +kernel
theorem dX9_readsLine_161 : decode cX9_readsLine 161 = .ok (.iconst 2, 1) := by decide +kernel
theorem dX9_readsLine_162 : decode cX9_readsLine 162 = .ok (.invokevirtual 192, 3) := by decide +kernel
theorem dX9_readsLine_165 : decode cX9_readsLine 165 = .ok (.ifCond .eq 20, 3) := by decide +kernel
theorem dX9_readsLine_168 : decode cX9_readsLine 168 = .ok (.aload_n 0, 1) := by decide +kernel
theorem dX9_readsLine_169 : decode cX9_readsLine 169 = .ok (.getfield 23, 3) := by decide +kernel
theorem dX9_readsLine_172 : decode cX9_readsLine 172 = .ok (.bipush 6, 2) := by decide +kernel
theorem dX9_readsLine_174 : decode cX9_readsLine 174 = .ok (.aload_n 0, 1) := by decide +kernel
theorem dX9_readsLine_175 : decode cX9_readsLine 175 = .ok (.iconst 0, 1) := by decide +kernel
theorem dX9_readsLine_176 : decode cX9_readsLine 176 = .ok (.bipush 100, 2) := by decide +kernel
theorem dX9_readsLine_178 : decode cX9_readsLine 178 = .ok (.invokevirtual 117, 3) := by decide +kernel
theorem dX9_readsLine_181 : decode cX9_readsLine 181 = .ok (.iastore, 1) := by decide +kernel
theorem dX9_readsLine_182 : decode cX9_readsLine 182 = .ok (.goto 62, 3) := by decide +kernel
theorem dX9_readsLine_185 : decode cX9_readsLine 185 = .ok (.aload_n 0, 1) := by decide +kernel
theorem dX9_readsLine_186 : decode cX9_readsLine 186 = .ok (.ldc 200, 2) := by decide +kernel
theorem dX9_readsLine_188 : decode cX9_readsLine 188 = .ok (.iconst 3, 1) := by decide +kernel
theorem dX9_readsLine_189 : decode cX9_readsLine 189 = .ok (.invokevirtual 192, 3) := by decide +kernel
theorem dX9_readsLine_192 : decode cX9_readsLine 192 = .ok (.ifCond .eq 21, 3) := by decide +kernel
theorem dX9_readsLine_195 : decode cX9_readsLine 195 = .ok (.aload_n 0, 1) := by decide +kernel
theorem dX9_readsLine_196 : decode cX9_readsLine 196 = .ok (.getfield 23, 3) := by decide +kernel
theorem dX9_readsLine_199 : decode cX9_readsLine 199 = .ok (.bipush 7, 2) := by decide +kernel
theorem dX9_readsLine_201 : decode cX9_readsLine 201 = .ok (.aload_n 0, 1) := by decide +kernel
theorem dX9_readsLine_202 : decode cX9_readsLine 202 = .ok (.iconst 1, 1) := by decide +kernel
theorem dX9_readsLine_203 : decode cX9_readsLine 203 = .ok (.sipush 499, 3) := by decide +kernel
theorem dX9_readsLine_206 : decode cX9_readsLine 206 = .ok (.invokevirtual 117, 3) := by decide +kernel
theorem dX9_readsLine_209 : decode cX9_readsLine 209 = .ok (.iastore, 1) := by decide +kernel
theorem dX9_readsLine_210 : decode cX9_readsLine 210 = .ok (.goto 34, 3) := by decide +kernel
theorem dX9_readsLine_213 : decode cX9_readsLine 213 = .ok (.aload_n 0, 1) := by decide +kernel
theorem dX9_readsLine_214 : decode cX9_readsLine 214 = .ok (.ldc 202, 2) := by decide +kernel
theorem dX9_readsLine_216 : decode cX9_readsLine 216 = .ok (.iconst 4, 1) := by decide +kernel
theorem dX9_readsLine_217 : decode cX9_readsLine 217 = .ok (.invokevirtual 192, 3) := by decide +kernel
theorem dX9_readsLine_220 : decode cX9_readsLine 220 = .ok (.ifCond .eq 18, 3) := by decide +kernel
theorem dX9_readsLine_223 : decode cX9_readsLine 223 = .ok (.aload_n 0, 1) := by decide +kernel
theorem dX9_readsLine_224 : decode cX9_readsLine 224 = .ok (.invokevirtual 164, 3) := by decide +kernel
theorem dX9_readsLine_227 : decode cX9_readsLine 227 = .ok (.aload_n 0, 1) := by decide +kernel
theorem dX9_readsLine_228 : decode cX9_readsLine 228 = .ok (.getfield 23, 3) := by decide +kernel
theorem dX9_readsLine_231 : decode cX9_readsLine 231 = .ok (.bipush 8, 2) := by decide +kernel
theorem dX9_readsLine_233 : decode cX9_readsLine 233 = .ok (.iconst 1, 1) := by decide +kernel
theorem dX9_readsLine_234 : decode cX9_readsLine 234 = .ok (.iastore, 1) := by decide +kernel
theorem dX9_readsLine_235 : decode cX9_readsLine 235 = .ok (.goto 9, 3) := by decide +kernel
theorem dX9_readsLine_238 : decode cX9_readsLine 238 = .ok (.aload_n 0, 1) := by decide +kernel
theorem dX9_readsLine_239 : decode cX9_readsLine 239 = .ok (.iconst 1, 1) := by decide +kernel
theorem dX9_readsLine_240 : decode cX9_readsLine 240 = .ok (.iload_n 1, 1) := by decide +kernel
theorem dX9_readsLine_241 : decode cX9_readsLine 241 = .ok (.invokevirtual 95, 3) := by decide +kernel
theorem dX9_readsLine_244 : decode cX9_readsLine 244 = .ok (.aload_n 0, 1) := by decide +kernel
theorem dX9_readsLine_245 : decode cX9_readsLine 245 = .ok (.bipush 59, 2) := by decide +kernel
theorem dX9_readsLine_247 : decode cX9_readsLine 247 = .ok (.invokevirtual 167, 3) := by decide +kernel
theorem dX9_readsLine_250 : decode cX9_readsLine 250 = .ok (.return_, 1) := by decide +kernel
theorem dX9_text_0 : decode cX9_text 0 = .ok (.aload_n 0, 1) := by decide +kernel
theorem dX9_text_1 : decode cX9_text 1 = .ok (.iconst 0, 1) := by decide +kernel
theorem dX9_text_2 : decode cX9_text 2 = .ok (.putfield 48, 3) := by decide +kernel
theorem dX9_text_5 : decode cX9_text 5 = .ok (.aload_n 0, 1) := by decide +kernel
theorem dX9_text_6 : decode cX9_text 6 = .ok (.iload_n 1, 1) := by decide +kernel
theorem dX9_text_7 : decode cX9_text 7 = .ok (.i2l, 1) := by decide +kernel
theorem dX9_text_8 : decode cX9_text 8 = .ok (.lconst 0, 1) := by decide +kernel
theorem dX9_text_9 : decode cX9_text 9 = .ok (.aload_n 0, 1) := by decide +kernel
theorem dX9_text_10 : decode cX9_text 10 = .ok (.getfield 51, 3) := by decide +kernel
theorem dX9_text_13 : decode cX9_text 13 = .ok (.i2l, 1) := by decide +kernel
theorem dX9_text_14 : decode cX9_text 14 = .ok (.invokestatic 107, 3) := by decide +kernel
theorem dX9_text_17 : decode cX9_text 17 = .ok (.ifCond .ne 7, 3) := by decide +kernel
theorem dX9_text_20 : decode cX9_text 20 = .ok (.iconst 1, 1) := by decide +kernel
theorem dX9_text_21 : decode cX9_text 21 = .ok (.goto 4, 3) := by decide +kernel
theorem dX9_text_24 : decode cX9_text 24 = .ok (.iconst 0, 1) := by decide +kernel
theorem dX9_text_25 : decode cX9_text 25 = .ok (.iconst 1, 1) := by decide +kernel
theorem dX9_text_26 : decode cX9_text 26 = .ok (.iconst 1, 1) := by decide +kernel
theorem dX9_text_27 : decode cX9_text 27 = .ok (.invokevirtual 204, 3) := by decide +kernel
theorem dX9_text_30 : decode cX9_text 30 = .ok (.ifCond .eq 5, 3) := by decide +kernel
theorem dX9_text_33 : decode cX9_text 33 = .ok (.iconst 0, 1) := by decide +kernel
theorem dX9_text_34 : decode cX9_text 34 = .ok (.ireturn, 1) := by decide +kernel
theorem dX9_text_35 : decode cX9_text 35 = .ok (.aload_n 0, 1) := by decide +kernel
theorem dX9_text_36 : decode cX9_text 36 = .ok (.iconst 0, 1) := by decide +kernel
theorem dX9_text_37 : decode cX9_text 37 = .ok (.putfield 51, 3) := by decide +kernel
theorem dX9_text_40 : decode cX9_text 40 = .ok (.aload_n 0, 1) := by decide +kernel
theorem dX9_text_41 : decode cX9_text 41 = .ok (.iload_n 1, 1) := by decide +kernel
theorem dX9_text_42 : decode cX9_text 42 = .ok (.putfield 54, 3) := by decide +kernel
theorem dX9_text_45 : decode cX9_text 45 = .ok (.aload_n 0, 1) := by decide +kernel
theorem dX9_text_46 : decode cX9_text 46 = .ok (.iconst 0, 1) := by decide +kernel
theorem dX9_text_47 : decode cX9_text 47 = .ok (.putfield 57, 3) := by decide +kernel
theorem dX9_text_50 : decode cX9_text 50 = .ok (.aload_n 0, 1) := by decide +kernel
theorem dX9_text_51 : decode cX9_text 51 = .ok (.iconst 0, 1) := by decide +kernel
theorem dX9_text_52 : decode cX9_text 52 = .ok (.putfield 64, 3) := by decide +kernel
theorem dX9_text_55 : decode cX9_text 55 = .ok (.aload_n 0, 1) := by decide +kernel
theorem dX9_text_56 : decode cX9_text 56 = .ok (.iconst (-1), 1) := by decide +kernel
theorem dX9_text_57 : decode cX9_text 57 = .ok (.putfield 67, 3) := by decide +kernel
theorem dX9_text_60 : decode cX9_text 60 = .ok (.aload_n 0, 1) := by decide +kernel
theorem dX9_text_61 : decode cX9_text 61 = .ok (.iconst 0, 1) := by decide +kernel
theorem dX9_text_62 : decode cX9_text 62 = .ok (.putfield 127, 3) := by decide +kernel
theorem dX9_text_65 : decode cX9_text 65 = .ok (.aload_n 0, 1) := by decide +kernel
theorem dX9_text_66 : decode cX9_text 66 = .ok (.iconst 0, 1) := by decide +kernel
theorem dX9_text_67 : decode cX9_text 67 = .ok (.putfield 158, 3) := by decide +kernel
theorem dX9_text_70 : decode cX9_text 70 = .ok (.aload_n 0, 1) := by decide +kernel
theorem dX9_text_71 : decode cX9_text 71 = .ok (.iconst 0, 1) := by decide +kernel
theorem dX9_text_72 : decode cX9_text 72 = .ok (.putfield 177, 3) := by decide +kernel
theorem dX9_text_75 : decode cX9_text 75 = .ok (.aload_n 0, 1) := by decide +kernel
theorem dX9_text_76 : decode cX9_text 76 = .ok (.getfield 23, 3) := by decide +kernel
theorem dX9_text_79 : decode cX9_text 79 = .ok (.invokestatic 44, 3) := by decide +kernel
theorem dX9_text_82 : decode cX9_text 82 = .ok (.aload_n 0, 1) := by decide +kernel
theorem dX9_text_83 : decode cX9_text 83 = .ok (.invokevirtual 87, 3) := by decide +kernel
theorem dX9_text_86 : decode cX9_text 86 = .ok (.ifCond .eq 18, 3) := by decide +kernel
theorem dX9_text_89 : decode cX9_text 89 = .ok (.aload_n 0, 1) := by decide +kernel
theorem dX9_text_90 : decode cX9_text 90 = .ok (.invokevirtual 70, 3) := by decide +kernel
theorem dX9_text_93 : decode cX9_text 93 = .ok (.iconst (-1), 1) := by decide +kernel
theorem dX9_text_94 : decode cX9_text 94 = .ok (.if_icmp .eq 10, 3) := by decide +kernel
theorem dX9_text_97 : decode cX9_text 97 = .ok (.aload_n 0, 1) := by decide +kernel
theorem dX9_text_98 : decode cX9_text 98 = .ok (.invokevirtual 208, 3) := by decide +kernel
theorem dX9_text_101 : decode cX9_text 101 = .ok (.goto (-19), 3) := by decide +kernel
theorem dX9_text_104 : decode cX9_text 104 = .ok (.aload_n 0, 1) := by decide +kernel
theorem dX9_text_105 : decode cX9_text 105 = .ok (.aload_n 0, 1) := by decide +kernel
theorem dX9_text_106 : decode cX9_text 106 = .ok (.getfield 67, 3) := by decide +kernel
theorem dX9_text_109 : decode cX9_text 109 = .ok (.putfield 13, 3) := by decide +kernel
theorem dX9_text_112 : decode cX9_text 112 = .ok (.aload_n 0, 1) := by decide +kernel
theorem dX9_text_113 : decode cX9_text 113 = .ok (.invokevirtual 87, 3) := by decide +kernel
theorem dX9_text_116 : decode cX9_text 116 = .ok (.ifCond .ne 11, 3) := by decide +kernel
theorem dX9_text_119 : decode cX9_text 119 = .ok (.aload_n 0, 1) := by decide +kernel
theorem dX9_text_120 : decode cX9_text 120 = .ok (.getfield 64, 3) := by decide +kernel
theorem dX9_text_123 : decode cX9_text 123 = .ok (.bipush 10, 2) := by decide +kernel
theorem dX9_text_125 : decode cX9_text 125 = .ok (.isub, 1) := by decide +kernel
theorem dX9_text_126 : decode cX9_text 126 = .ok (.ireturn, 1) := by decide +kernel
theorem dX9_text_127 : decode cX9_text 127 = .ok (.aload_n 0, 1) := by decide +kernel
theorem dX9_text_128 : decode cX9_text 128 = .ok (.invokevirtual 211, 3) := by decide +kernel
theorem dX9_text_131 : decode cX9_text 131 = .ok (.aload_n 0, 1) := by decide +kernel
theorem dX9_text_132 : decode cX9_text 132 = .ok (.getfield 23, 3) := by decide +kernel
theorem dX9_text_135 : decode cX9_text 135 = .ok (.aload_n 0, 1) := by decide +kernel
theorem dX9_text_136 : decode cX9_text 136 = .ok (.getfield 20, 3) := by decide +kernel
theorem dX9_text_139 : decode cX9_text 139 = .ok (.invokestatic 214, 3) := by decide +kernel
theorem dX9_text_142 : decode cX9_text 142 = .ok (.aload_n 0, 1) := by decide +kernel
theorem dX9_text_143 : decode cX9_text 143 = .ok (.invokevirtual 218, 3) := by decide +kernel
theorem dX9_text_146 : decode cX9_text 146 = .ok (.ireturn, 1) := by decide +kernel
theorem dX9_fault_0 : decode cX9_fault 0 = .ok (.aload_n 0, 1) := by decide +kernel
theorem dX9_fault_1 : decode cX9_fault 1 = .ok (.iconst 0, 1) := by decide +kernel
theorem dX9_fault_2 : decode cX9_fault 2 = .ok (.putfield 48, 3) := by decide +kernel
theorem dX9_fault_5 : decode cX9_fault 5 = .ok (.aload_n 0, 1) := by decide +kernel
theorem dX9_fault_6 : decode cX9_fault 6 = .ok (.getfield 13, 3) := by decide +kernel
theorem dX9_fault_9 : decode cX9_fault 9 = .ok (.ireturn, 1) := by decide +kernel
theorem dX9_numberOf_0 : decode cX9_numberOf 0 = .ok (.iconst 0, 1) := by decide +kernel
theorem dX9_numberOf_1 : decode cX9_numberOf 1 = .ok (.istore_n 2, 1) := by decide +kernel
theorem dX9_numberOf_2 : decode cX9_numberOf 2 = .ok (.iconst 0, 1) := by decide +kernel
theorem dX9_numberOf_3 : decode cX9_numberOf 3 = .ok (.istore_n 3, 1) := by decide +kernel
theorem dX9_numberOf_4 : decode cX9_numberOf 4 = .ok (.iload_n 3, 1) := by decide +kernel
theorem dX9_numberOf_5 : decode cX9_numberOf 5 = .ok (.iload_n 1, 1) := by decide +kernel
theorem dX9_numberOf_6 : decode cX9_numberOf 6 = .ok (.if_icmp .ge 34, 3) := by decide +kernel
theorem dX9_numberOf_9 : decode cX9_numberOf 9 = .ok (.iload_n 2, 1) := by decide +kernel
theorem dX9_numberOf_10 : decode cX9_numberOf 10 = .ok (.aload_n 0, 1) := by decide +kernel
theorem dX9_numberOf_11 : decode cX9_numberOf 11 = .ok (.iload_n 3, 1) := by decide +kernel
theorem dX9_numberOf_12 : decode cX9_numberOf 12 = .ok (.iconst 2, 1) := by decide +kernel
theorem dX9_numberOf_13 : decode cX9_numberOf 13 = .ok (.invokestatic 124, 3) := by decide +kernel
theorem dX9_numberOf_16 : decode cX9_numberOf 16 = .ok (.iaload, 1) := by decide +kernel
theorem dX9_numberOf_17 : decode cX9_numberOf 17 = .ok (.aload_n 0, 1) := by decide +kernel
theorem dX9_numberOf_18 : decode cX9_numberOf 18 = .ok (.iload_n 1, 1) := by decide +kernel
theorem dX9_numberOf_19 : decode cX9_numberOf 19 = .ok (.iconst 2, 1) := by decide +kernel
theorem dX9_numberOf_20 : decode cX9_numberOf 20 = .ok (.invokestatic 124, 3) := by decide +kernel
theorem dX9_numberOf_23 : decode cX9_numberOf 23 = .ok (.iaload, 1) := by decide +kernel
theorem dX9_numberOf_24 : decode cX9_numberOf 24 = .ok (.if_icmp .ne 7, 3) := by decide +kernel
theorem dX9_numberOf_27 : decode cX9_numberOf 27 = .ok (.iconst 1, 1) := by decide +kernel
theorem dX9_numberOf_28 : decode cX9_numberOf 28 = .ok (.goto 4, 3) := by decide +kernel
theorem dX9_numberOf_31 : decode cX9_numberOf 31 = .ok (.iconst 0, 1) := by decide +kernel
theorem dX9_numberOf_32 : decode cX9_numberOf 32 = .ok (.iadd, 1) := by decide +kernel
theorem dX9_numberOf_33 : decode cX9_numberOf 33 = .ok (.istore_n 2, 1) := by decide +kernel
theorem dX9_numberOf_34 : decode cX9_numberOf 34 = .ok (.iinc 3 1, 3) := by decide +kernel
theorem dX9_numberOf_37 : decode cX9_numberOf 37 = .ok (.goto (-33), 3) := by decide +kernel
theorem dX9_numberOf_40 : decode cX9_numberOf 40 = .ok (.iload_n 2, 1) := by decide +kernel
theorem dX9_numberOf_41 : decode cX9_numberOf 41 = .ok (.ireturn, 1) := by decide +kernel
theorem dX9_fact_0 : decode cX9_fact 0 = .ok (.iconst 0, 1) := by decide +kernel
theorem dX9_fact_1 : decode cX9_fact 1 = .ok (.istore 4, 2) := by decide +kernel
theorem dX9_fact_3 : decode cX9_fact 3 = .ok (.iconst 0, 1) := by decide +kernel
theorem dX9_fact_4 : decode cX9_fact 4 = .ok (.istore 5, 2) := by decide +kernel
theorem dX9_fact_6 : decode cX9_fact 6 = .ok (.iload 5, 2) := by decide +kernel
theorem dX9_fact_8 : decode cX9_fact 8 = .ok (.iload_n 2, 1) := by decide +kernel
theorem dX9_fact_9 : decode cX9_fact 9 = .ok (.if_icmp .ge 35, 3) := by decide +kernel
theorem dX9_fact_12 : decode cX9_fact 12 = .ok (.iload 4, 2) := by decide +kernel
theorem dX9_fact_14 : decode cX9_fact 14 = .ok (.aload_n 0, 1) := by decide +kernel
theorem dX9_fact_15 : decode cX9_fact 15 = .ok (.getfield 34, 3) := by decide +kernel
theorem dX9_fact_18 : decode cX9_fact 18 = .ok (.iload 5, 2) := by decide +kernel
theorem dX9_fact_20 : decode cX9_fact 20 = .ok (.iaload, 1) := by decide +kernel
theorem dX9_fact_21 : decode cX9_fact 21 = .ok (.aload_n 0, 1) := by decide +kernel
theorem dX9_fact_22 : decode cX9_fact 22 = .ok (.getfield 34, 3) := by decide +kernel
theorem dX9_fact_25 : decode cX9_fact 25 = .ok (.iload_n 2, 1) := by decide +kernel
theorem dX9_fact_26 : decode cX9_fact 26 = .ok (.iaload, 1) := by decide +kernel
theorem dX9_fact_27 : decode cX9_fact 27 = .ok (.if_icmp .ne 7, 3) := by decide +kernel
theorem dX9_fact_30 : decode cX9_fact 30 = .ok (.iconst 1, 1) := by decide +kernel
theorem dX9_fact_31 : decode cX9_fact 31 = .ok (.goto 4, 3) := by decide +kernel
theorem dX9_fact_34 : decode cX9_fact 34 = .ok (.iconst 0, 1) := by decide +kernel
theorem dX9_fact_35 : decode cX9_fact 35 = .ok (.iadd, 1) := by decide +kernel
theorem dX9_fact_36 : decode cX9_fact 36 = .ok (.istore 4, 2) := by decide +kernel
theorem dX9_fact_38 : decode cX9_fact 38 = .ok (.iinc 5 1, 3) := by decide +kernel
theorem dX9_fact_41 : decode cX9_fact 41 = .ok (.goto (-35), 3) := by decide +kernel
theorem dX9_fact_44 : decode cX9_fact 44 = .ok (.iload_n 3, 1) := by decide +kernel
theorem dX9_fact_45 : decode cX9_fact 45 = .ok (.tableswitch 78 0 4 #[35, 43, 51, 57, 65], 35) := by decide +kernel
theorem dX9_fact_80 : decode cX9_fact 80 = .ok (.aload_n 1, 1) := by decide +kernel
theorem dX9_fact_81 : decode cX9_fact 81 = .ok (.iload_n 2, 1) := by decide +kernel
theorem dX9_fact_82 : decode cX9_fact 82 = .ok (.iconst 3, 1) := by decide +kernel
theorem dX9_fact_83 : decode cX9_fact 83 = .ok (.invokestatic 124, 3) := by decide +kernel
theorem dX9_fact_86 : decode cX9_fact 86 = .ok (.iaload, 1) := by decide +kernel
theorem dX9_fact_87 : decode cX9_fact 87 = .ok (.ireturn, 1) := by decide +kernel
theorem dX9_fact_88 : decode cX9_fact 88 = .ok (.aload_n 1, 1) := by decide +kernel
theorem dX9_fact_89 : decode cX9_fact 89 = .ok (.iload_n 2, 1) := by decide +kernel
theorem dX9_fact_90 : decode cX9_fact 90 = .ok (.iconst 1, 1) := by decide +kernel
theorem dX9_fact_91 : decode cX9_fact 91 = .ok (.invokestatic 124, 3) := by decide +kernel
theorem dX9_fact_94 : decode cX9_fact 94 = .ok (.iaload, 1) := by decide +kernel
theorem dX9_fact_95 : decode cX9_fact 95 = .ok (.ireturn, 1) := by decide +kernel
theorem dX9_fact_96 : decode cX9_fact 96 = .ok (.aload_n 1, 1) := by decide +kernel
theorem dX9_fact_97 : decode cX9_fact 97 = .ok (.iload_n 2, 1) := by decide +kernel
theorem dX9_fact_98 : decode cX9_fact 98 = .ok (.invokestatic 221, 3) := by decide +kernel
theorem dX9_fact_101 : decode cX9_fact 101 = .ok (.ireturn, 1) := by decide +kernel
theorem dX9_fact_102 : decode cX9_fact 102 = .ok (.aload_n 1, 1) := by decide +kernel
theorem dX9_fact_103 : decode cX9_fact 103 = .ok (.iload_n 2, 1) := by decide +kernel
theorem dX9_fact_104 : decode cX9_fact 104 = .ok (.iconst 2, 1) := by decide +kernel
theorem dX9_fact_105 : decode cX9_fact 105 = .ok (.invokestatic 124, 3) := by decide +kernel
theorem dX9_fact_108 : decode cX9_fact 108 = .ok (.iaload, 1) := by decide +kernel
theorem dX9_fact_109 : decode cX9_fact 109 = .ok (.ireturn, 1) := by decide +kernel
theorem dX9_fact_110 : decode cX9_fact 110 = .ok (.aload_n 1, 1) := by decide +kernel
theorem dX9_fact_111 : decode cX9_fact 111 = .ok (.aload_n 0, 1) := by decide +kernel
theorem dX9_fact_112 : decode cX9_fact 112 = .ok (.getfield 34, 3) := by decide +kernel
theorem dX9_fact_115 : decode cX9_fact 115 = .ok (.iload_n 2, 1) := by decide +kernel
theorem dX9_fact_116 : decode cX9_fact 116 = .ok (.iaload, 1) := by decide +kernel
theorem dX9_fact_117 : decode cX9_fact 117 = .ok (.iconst 2, 1) := by decide +kernel
theorem dX9_fact_118 : decode cX9_fact 118 = .ok (.invokestatic 111, 3) := by decide +kernel
theorem dX9_fact_121 : decode cX9_fact 121 = .ok (.iaload, 1) := by decide +kernel
theorem dX9_fact_122 : decode cX9_fact 122 = .ok (.ireturn, 1) := by decide +kernel
theorem dX9_fact_123 : decode cX9_fact 123 = .ok (.iload 4, 2) := by decide +kernel
theorem dX9_fact_125 : decode cX9_fact 125 = .ok (.ireturn, 1) := by decide +kernel
theorem dX9_isGood_0 : decode cX9_isGood 0 = .ok (.aload_n 1, 1) := by decide +kernel
theorem dX9_isGood_1 : decode cX9_isGood 1 = .ok (.bipush 8, 2) := by decide +kernel
theorem dX9_isGood_3 : decode cX9_isGood 3 = .ok (.iaload, 1) := by decide +kernel
theorem dX9_isGood_4 : decode cX9_isGood 4 = .ok (.ifCond .ne 5, 3) := by decide +kernel
theorem dX9_isGood_7 : decode cX9_isGood 7 = .ok (.iconst 1, 1) := by decide +kernel
theorem dX9_isGood_8 : decode cX9_isGood 8 = .ok (.ireturn, 1) := by decide +kernel
theorem dX9_isGood_9 : decode cX9_isGood 9 = .ok (.iconst 0, 1) := by decide +kernel
theorem dX9_isGood_10 : decode cX9_isGood 10 = .ok (.istore_n 3, 1) := by decide +kernel
theorem dX9_isGood_11 : decode cX9_isGood 11 = .ok (.sipush 305, 3) := by decide +kernel
theorem dX9_isGood_14 : decode cX9_isGood 14 = .ok (.istore 4, 2) := by decide +kernel
theorem dX9_isGood_16 : decode cX9_isGood 16 = .ok (.aload_n 1, 1) := by decide +kernel
theorem dX9_isGood_17 : decode cX9_isGood 17 = .ok (.iload 4, 2) := by decide +kernel
theorem dX9_isGood_19 : decode cX9_isGood 19 = .ok (.iaload, 1) := by decide +kernel
theorem dX9_isGood_20 : decode cX9_isGood 20 = .ok (.ifCond .eq 209, 3) := by decide +kernel
theorem dX9_isGood_23 : decode cX9_isGood 23 = .ok (.aload_n 1, 1) := by decide +kernel
theorem dX9_isGood_24 : decode cX9_isGood 24 = .ok (.iload 4, 2) := by decide +kernel
theorem dX9_isGood_26 : decode cX9_isGood 26 = .ok (.iaload, 1) := by decide +kernel
theorem dX9_isGood_27 : decode cX9_isGood 27 = .ok (.istore 5, 2) := by decide +kernel
theorem dX9_isGood_29 : decode cX9_isGood 29 = .ok (.iload 5, 2) := by decide +kernel
theorem dX9_isGood_31 : decode cX9_isGood 31 = .ok (.iconst 1, 1) := by decide +kernel
theorem dX9_isGood_32 : decode cX9_isGood 32 = .ok (.if_icmp .ne 22, 3) := by decide +kernel
theorem dX9_isGood_35 : decode cX9_isGood 35 = .ok (.iinc 4 1, 3) := by decide +kernel
theorem dX9_isGood_38 : decode cX9_isGood 38 = .ok (.aload_n 0, 1) := by decide +kernel
theorem dX9_isGood_39 : decode cX9_isGood 39 = .ok (.getfield 37, 3) := by decide +kernel
theorem dX9_isGood_42 : decode cX9_isGood 42 = .ok (.iload_n 3, 1) := by decide +kernel
theorem dX9_isGood_43 : decode cX9_isGood 43 = .ok (.aload_n 1, 1) := by decide +kernel
theorem dX9_isGood_44 : decode cX9_isGood 44 = .ok (.iload 4, 2) := by decide +kernel
theorem dX9_isGood_46 : decode cX9_isGood 46 = .ok (.iaload, 1) := by decide +kernel
theorem dX9_isGood_47 : decode cX9_isGood 47 = .ok (.iastore, 1) := by decide +kernel
theorem dX9_isGood_48 : decode cX9_isGood 48 = .ok (.iinc 3 1, 3) := by decide +kernel
theorem dX9_isGood_51 : decode cX9_isGood 51 = .ok (.goto 172, 3) := by decide +kernel
theorem dX9_isGood_54 : decode cX9_isGood 54 = .ok (.iload 5, 2) := by decide +kernel
theorem dX9_isGood_56 : decode cX9_isGood 56 = .ok (.bipush 8, 2) := by decide +kernel
theorem dX9_isGood_58 : decode cX9_isGood 58 = .ok (.if_icmp .ge 25, 3) := by decide +kernel
theorem dX9_isGood_61 : decode cX9_isGood 61 = .ok (.aload_n 0, 1) := by decide +kernel
theorem dX9_isGood_62 : decode cX9_isGood 62 = .ok (.getfield 37, 3) := by decide +kernel
theorem dX9_isGood_65 : decode cX9_isGood 65 = .ok (.iload_n 3, 1) := by decide +kernel
theorem dX9_isGood_66 : decode cX9_isGood 66 = .ok (.aload_n 0, 1) := by decide +kernel
theorem dX9_isGood_67 : decode cX9_isGood 67 = .ok (.aload_n 1, 1) := by decide +kernel
theorem dX9_isGood_68 : decode cX9_isGood 68 = .ok (.iload_n 2, 1) := by decide +kernel
theorem dX9_isGood_69 : decode cX9_isGood 69 = .ok (.iload 5, 2) := by decide +kernel
theorem dX9_isGood_71 : decode cX9_isGood 71 = .ok (.iconst 2, 1) := by decide +kernel
theorem dX9_isGood_72 : decode cX9_isGood 72 = .ok (.isub, 1) := by decide +kernel
theorem dX9_isGood_73 : decode cX9_isGood 73 = .ok (.invokevirtual 225, 3) := by decide +kernel
theorem dX9_isGood_76 : decode cX9_isGood 76 = .ok (.iastore, 1) := by decide +kernel
theorem dX9_isGood_77 : decode cX9_isGood 77 = .ok (.iinc 3 1, 3) := by decide +kernel
theorem dX9_isGood_80 : decode cX9_isGood 80 = .ok (.goto 143, 3) := by decide +kernel
theorem dX9_isGood_83 : decode cX9_isGood 83 = .ok (.iload 5, 2) := by decide +kernel
theorem dX9_isGood_85 : decode cX9_isGood 85 = .ok (.bipush 11, 2) := by decide +kernel
theorem dX9_isGood_87 : decode cX9_isGood 87 = .ok (.if_icmp .ne 24, 3) := by decide +kernel
theorem dX9_isGood_90 : decode cX9_isGood 90 = .ok (.aload_n 0, 1) := by decide +kernel
theorem dX9_isGood_91 : decode cX9_isGood 91 = .ok (.getfield 37, 3) := by decide +kernel
theorem dX9_isGood_94 : decode cX9_isGood 94 = .ok (.iload_n 3, 1) := by decide +kernel
theorem dX9_isGood_95 : decode cX9_isGood 95 = .ok (.iconst 1, 1) := by decide +kernel
theorem dX9_isGood_96 : decode cX9_isGood 96 = .ok (.isub, 1) := by decide +kernel
theorem dX9_isGood_97 : decode cX9_isGood 97 = .ok (.iconst 1, 1) := by decide +kernel
theorem dX9_isGood_98 : decode cX9_isGood 98 = .ok (.aload_n 0, 1) := by decide +kernel
theorem dX9_isGood_99 : decode cX9_isGood 99 = .ok (.getfield 37, 3) := by decide +kernel
theorem dX9_isGood_102 : decode cX9_isGood 102 = .ok (.iload_n 3, 1) := by decide +kernel
theorem dX9_isGood_103 : decode cX9_isGood 103 = .ok (.iconst 1, 1) := by decide +kernel
theorem dX9_isGood_104 : decode cX9_isGood 104 = .ok (.isub, 1) := by decide +kernel
theorem dX9_isGood_105 : decode cX9_isGood 105 = .ok (.iaload, 1) := by decide +kernel
theorem dX9_isGood_106 : decode cX9_isGood 106 = .ok (.isub, 1) := by decide +kernel
theorem dX9_isGood_107 : decode cX9_isGood 107 = .ok (.iastore, 1) := by decide +kernel
theorem dX9_isGood_108 : decode cX9_isGood 108 = .ok (.goto 115, 3) := by decide +kernel
theorem dX9_isGood_111 : decode cX9_isGood 111 = .ok (.iinc 3 (-1), 3) := by decide +kernel
theorem dX9_isGood_114 : decode cX9_isGood 114 = .ok (.aload_n 0, 1) := by decide +kernel
theorem dX9_isGood_115 : decode cX9_isGood 115 = .ok (.getfield 37, 3) := by decide +kernel
theorem dX9_isGood_118 : decode cX9_isGood 118 = .ok (.iload_n 3, 1) := by decide +kernel
theorem dX9_isGood_119 : decode cX9_isGood 119 = .ok (.iconst 1, 1) := by decide +kernel
theorem dX9_isGood_120 : decode cX9_isGood 120 = .ok (.isub, 1) := by decide +kernel
theorem dX9_isGood_121 : decode cX9_isGood 121 = .ok (.iaload, 1) := by decide +kernel
theorem dX9_isGood_122 : decode cX9_isGood 122 = .ok (.istore 6, 2) := by decide +kernel
theorem dX9_isGood_124 : decode cX9_isGood 124 = .ok (.aload_n 0, 1) := by decide +kernel
theorem dX9_isGood_125 : decode cX9_isGood 125 = .ok (.getfield 37, 3) := by decide +kernel
theorem dX9_isGood_128 : decode cX9_isGood 128 = .ok (.iload_n 3, 1) := by decide +kernel
theorem dX9_isGood_129 : decode cX9_isGood 129 = .ok (.iaload, 1) := by decide +kernel
theorem dX9_isGood_130 : decode cX9_isGood 130 = .ok (.istore 7, 2) := by decide +kernel
theorem dX9_isGood_132 : decode cX9_isGood 132 = .ok (.aload_n 0, 1) := by decide +kernel
theorem dX9_isGood_133 : decode cX9_isGood 133 = .ok (.getfield 37, 3) := by decide +kernel
theorem dX9_isGood_136 : decode cX9_isGood 136 = .ok (.iload_n 3, 1) := by decide +kernel
theorem dX9_isGood_137 : decode cX9_isGood 137 = .ok (.iconst 1, 1) := by decide +kernel
theorem dX9_isGood_138 : decode cX9_isGood 138 = .ok (.isub, 1) := by decide +kernel
theorem dX9_isGood_139 : decode cX9_isGood 139 = .ok (.iload 5, 2) := by decide +kernel
theorem dX9_isGood_141 : decode cX9_isGood 141 = .ok (.bipush 8, 2) := by decide +kernel
theorem dX9_isGood_143 : decode cX9_isGood 143 = .ok (.if_icmp .ne 13, 3) := by decide +kernel
theorem dX9_isGood_146 : decode cX9_isGood 146 = .ok (.iload 6, 2) := by decide +kernel
theorem dX9_isGood_148 : decode cX9_isGood 148 = .ok (.iload 7, 2) := by decide +kernel
theorem dX9_isGood_150 : decode cX9_isGood 150 = .ok (.if_icmp .ge 71, 3) := by decide +kernel
theorem dX9_isGood_153 : decode cX9_isGood 153 = .ok (.goto 64, 3) := by decide +kernel
theorem dX9_isGood_156 : decode cX9_isGood 156 = .ok (.iload 5, 2) := by decide +kernel
theorem dX9_isGood_158 : decode cX9_isGood 158 = .ok (.bipush 9, 2) := by decide +kernel
theorem dX9_isGood_160 : decode cX9_isGood 160 = .ok (.if_icmp .ne 13, 3) := by decide +kernel
theorem dX9_isGood_163 : decode cX9_isGood 163 = .ok (.iload 6, 2) := by decide +kernel
theorem dX9_isGood_165 : decode cX9_isGood 165 = .ok (.iload 7, 2) := by decide +kernel
theorem dX9_isGood_167 : decode cX9_isGood 167 = .ok (.if_icmp .ne 54, 3) := by decide +kernel
theorem dX9_isGood_170 : decode cX9_isGood 170 = .ok (.goto 47, 3) := by decide +kernel
theorem dX9_isGood_173 : decode cX9_isGood 173 = .ok (.iload 5, 2) := by decide +kernel
theorem dX9_isGood_175 : decode cX9_isGood 175 = .ok (.bipush 10, 2) := by decide +kernel
theorem dX9_isGood_177 : decode cX9_isGood 177 = .ok (.if_icmp .ne 13, 3) := by decide +kernel
theorem dX9_isGood_180 : decode cX9_isGood 180 = .ok (.iload 6, 2) := by decide +kernel
theorem dX9_isGood_182 : decode cX9_isGood 182 = .ok (.iload 7, 2) := by decide +kernel
theorem dX9_isGood_184 : decode cX9_isGood 184 = .ok (.if_icmp .le 37, 3) := by decide +kernel
theorem dX9_isGood_187 : decode cX9_isGood 187 = .ok (.goto 30, 3) := by decide +kernel
theorem dX9_isGood_190 : decode cX9_isGood 190 = .ok (.iload 5, 2) := by decide +kernel
theorem dX9_isGood_192 : decode cX9_isGood 192 = .ok (.bipush 12, 2) := by decide +kernel
theorem dX9_isGood_194 : decode cX9_isGood 194 = .ok (.if_icmp .ne 15, 3) := by decide +kernel
theorem dX9_isGood_197 : decode cX9_isGood 197 = .ok (.iload 6, 2) := by decide +kernel
theorem dX9_isGood_199 : decode cX9_isGood 199 = .ok (.iload 7, 2) := by decide +kernel
theorem dX9_isGood_201 : decode cX9_isGood 201 = .ok (.iadd, 1) := by decide +kernel
theorem dX9_isGood_202 : decode cX9_isGood 202 = .ok (.iconst 2, 1) := by decide +kernel
theorem dX9_isGood_203 : decode cX9_isGood 203 = .ok (.if_icmp .ne 18, 3) := by decide +kernel
theorem dX9_isGood_206 : decode cX9_isGood 206 = .ok (.goto 11, 3) := by decide +kernel
theorem dX9_isGood_209 : decode cX9_isGood 209 = .ok (.iload 6, 2) := by decide +kernel
theorem dX9_isGood_211 : decode cX9_isGood 211 = .ok (.iload 7, 2) := by decide +kernel
theorem dX9_isGood_213 : decode cX9_isGood 213 = .ok (.iadd, 1) := by decide +kernel
theorem dX9_isGood_214 : decode cX9_isGood 214 = .ok (.ifCond .le 7, 3) := by decide +kernel
theorem dX9_isGood_217 : decode cX9_isGood 217 = .ok (.iconst 1, 1) := by decide +kernel
theorem dX9_isGood_218 : decode cX9_isGood 218 = .ok (.goto 4, 3) := by decide +kernel
theorem dX9_isGood_221 : decode cX9_isGood 221 = .ok (.iconst 0, 1) := by decide +kernel
theorem dX9_isGood_222 : decode cX9_isGood 222 = .ok (.iastore, 1) := by decide +kernel
theorem dX9_isGood_223 : decode cX9_isGood 223 = .ok (.iinc 4 1, 3) := by decide +kernel
theorem dX9_isGood_226 : decode cX9_isGood 226 = .ok (.goto (-210), 3) := by decide +kernel
theorem dX9_isGood_229 : decode cX9_isGood 229 = .ok (.aload_n 0, 1) := by decide +kernel
theorem dX9_isGood_230 : decode cX9_isGood 230 = .ok (.getfield 37, 3) := by decide +kernel
theorem dX9_isGood_233 : decode cX9_isGood 233 = .ok (.iconst 0, 1) := by decide +kernel
theorem dX9_isGood_234 : decode cX9_isGood 234 = .ok (.iaload, 1) := by decide +kernel
theorem dX9_isGood_235 : decode cX9_isGood 235 = .ok (.iconst 1, 1) := by decide +kernel
theorem dX9_isGood_236 : decode cX9_isGood 236 = .ok (.if_icmp .ne 7, 3) := by decide +kernel
theorem dX9_isGood_239 : decode cX9_isGood 239 = .ok (.iconst 1, 1) := by decide +kernel
theorem dX9_isGood_240 : decode cX9_isGood 240 = .ok (.goto 4, 3) := by decide +kernel
theorem dX9_isGood_243 : decode cX9_isGood 243 = .ok (.iconst 0, 1) := by decide +kernel
theorem dX9_isGood_244 : decode cX9_isGood 244 = .ok (.ireturn, 1) := by decide +kernel
theorem dX9_judges_0 : decode cX9_judges 0 = .ok (.aload_n 0, 1) := by decide +kernel
theorem dX9_judges_1 : decode cX9_judges 1 = .ok (.iconst 0, 1) := by decide +kernel
theorem dX9_judges_2 : decode cX9_judges 2 = .ok (.putfield 228, 3) := by decide +kernel
theorem dX9_judges_5 : decode cX9_judges 5 = .ok (.iconst 0, 1) := by decide +kernel
theorem dX9_judges_6 : decode cX9_judges 6 = .ok (.istore_n 3, 1) := by decide +kernel
theorem dX9_judges_7 : decode cX9_judges 7 = .ok (.iload_n 3, 1) := by decide +kernel
theorem dX9_judges_8 : decode cX9_judges 8 = .ok (.aload_n 1, 1) := by decide +kernel
theorem dX9_judges_9 : decode cX9_judges 9 = .ok (.iconst 2, 1) := by decide +kernel
theorem dX9_judges_10 : decode cX9_judges 10 = .ok (.iaload, 1) := by decide +kernel
theorem dX9_judges_11 : decode cX9_judges 11 = .ok (.if_icmp .ge 110, 3) := by decide +kernel
theorem dX9_judges_14 : decode cX9_judges 14 = .ok (.aload_n 1, 1) := by decide +kernel
theorem dX9_judges_15 : decode cX9_judges 15 = .ok (.aload_n 1, 1) := by decide +kernel
theorem dX9_judges_16 : decode cX9_judges 16 = .ok (.iload_n 3, 1) := by decide +kernel
theorem dX9_judges_17 : decode cX9_judges 17 = .ok (.iconst 0, 1) := by decide +kernel
theorem dX9_judges_18 : decode cX9_judges 18 = .ok (.invokestatic 124, 3) := by decide +kernel
theorem dX9_judges_21 : decode cX9_judges 21 = .ok (.iaload, 1) := by decide +kernel
theorem dX9_judges_22 : decode cX9_judges 22 = .ok (.aload_n 1, 1) := by decide +kernel
theorem dX9_judges_23 : decode cX9_judges 23 = .ok (.iload_n 3, 1) := by decide +kernel
theorem dX9_judges_24 : decode cX9_judges 24 = .ok (.iconst 1, 1) := by decide +kernel
theorem dX9_judges_25 : decode cX9_judges 25 = .ok (.invokestatic 124, 3) := by decide +kernel
theorem dX9_judges_28 : decode cX9_judges 28 = .ok (.iaload, 1) := by decide +kernel
theorem dX9_judges_29 : decode cX9_judges 29 = .ok (.invokestatic 120, 3) := by decide +kernel
theorem dX9_judges_32 : decode cX9_judges 32 = .ok (.istore 4, 2) := by decide +kernel
theorem dX9_judges_34 : decode cX9_judges 34 = .ok (.aload_n 1, 1) := by decide +kernel
theorem dX9_judges_35 : decode cX9_judges 35 = .ok (.iload_n 3, 1) := by decide +kernel
theorem dX9_judges_36 : decode cX9_judges 36 = .ok (.iconst 3, 1) := by decide +kernel
theorem dX9_judges_37 : decode cX9_judges 37 = .ok (.invokestatic 124, 3) := by decide +kernel
theorem dX9_judges_40 : decode cX9_judges 40 = .ok (.iaload, 1) := by decide +kernel
theorem dX9_judges_41 : decode cX9_judges 41 = .ok (.istore 5, 2) := by decide +kernel
theorem dX9_judges_43 : decode cX9_judges 43 = .ok (.aload_n 0, 1) := by decide +kernel
theorem dX9_judges_44 : decode cX9_judges 44 = .ok (.getfield 34, 3) := by decide +kernel
theorem dX9_judges_47 : decode cX9_judges 47 = .ok (.iload_n 3, 1) := by decide +kernel
theorem dX9_judges_48 : decode cX9_judges 48 = .ok (.iload 4, 2) := by decide +kernel
theorem dX9_judges_50 : decode cX9_judges 50 = .ok (.iastore, 1) := by decide +kernel
theorem dX9_judges_51 : decode cX9_judges 51 = .ok (.aload_n 0, 1) := by decide +kernel
theorem dX9_judges_52 : decode cX9_judges 52 = .ok (.getfield 31, 3) := by decide +kernel
theorem dX9_judges_55 : decode cX9_judges 55 = .ok (.iload_n 3, 1) := by decide +kernel
theorem dX9_judges_56 : decode cX9_judges 56 = .ok (.iload 4, 2) := by decide +kernel
theorem dX9_judges_58 : decode cX9_judges 58 = .ok (.iconst (-1), 1) := by decide +kernel
theorem dX9_judges_59 : decode cX9_judges 59 = .ok (.if_icmp .ne 7, 3) := by decide +kernel
theorem dX9_judges_62 : decode cX9_judges 62 = .ok (.iconst 1, 1) := by decide +kernel
theorem dX9_judges_63 : decode cX9_judges 63 = .ok (.goto 51, 3) := by decide +kernel
theorem dX9_judges_66 : decode cX9_judges 66 = .ok (.iload 5, 2) := by decide +kernel
theorem dX9_judges_68 : decode cX9_judges 68 = .ok (.i2l, 1) := by decide +kernel
theorem dX9_judges_69 : decode cX9_judges 69 = .ok (.aload_n 1, 1) := by decide +kernel
theorem dX9_judges_70 : decode cX9_judges 70 = .ok (.iconst 4, 1) := by decide +kernel
theorem dX9_judges_71 : decode cX9_judges 71 = .ok (.iaload, 1) := by decide +kernel
theorem dX9_judges_72 : decode cX9_judges 72 = .ok (.i2l, 1) := by decide +kernel
theorem dX9_judges_73 : decode cX9_judges 73 = .ok (.aload_n 1, 1) := by decide +kernel
theorem dX9_judges_74 : decode cX9_judges 74 = .ok (.iconst 5, 1) := by decide +kernel
theorem dX9_judges_75 : decode cX9_judges 75 = .ok (.iaload, 1) := by decide +kernel
theorem dX9_judges_76 : decode cX9_judges 76 = .ok (.i2l, 1) := by decide +kernel
theorem dX9_judges_77 : decode cX9_judges 77 = .ok (.invokestatic 107, 3) := by decide +kernel
theorem dX9_judges_80 : decode cX9_judges 80 = .ok (.ifCond .eq 16, 3) := by decide +kernel
theorem dX9_judges_83 : decode cX9_judges 83 = .ok (.aload_n 1, 1) := by decide +kernel
theorem dX9_judges_84 : decode cX9_judges 84 = .ok (.iload 4, 2) := by decide +kernel
theorem dX9_judges_86 : decode cX9_judges 86 = .ok (.iconst 2, 1) := by decide +kernel
theorem dX9_judges_87 : decode cX9_judges 87 = .ok (.invokestatic 111, 3) := by decide +kernel
theorem dX9_judges_90 : decode cX9_judges 90 = .ok (.iaload, 1) := by decide +kernel
theorem dX9_judges_91 : decode cX9_judges 91 = .ok (.iload 5, 2) := by decide +kernel
theorem dX9_judges_93 : decode cX9_judges 93 = .ok (.if_icmp .le 7, 3) := by decide +kernel
theorem dX9_judges_96 : decode cX9_judges 96 = .ok (.iconst 2, 1) := by decide +kernel
theorem dX9_judges_97 : decode cX9_judges 97 = .ok (.goto 17, 3) := by decide +kernel
theorem dX9_judges_100 : decode cX9_judges 100 = .ok (.aload_n 0, 1) := by decide +kernel
theorem dX9_judges_101 : decode cX9_judges 101 = .ok (.aload_n 1, 1) := by decide +kernel
theorem dX9_judges_102 : decode cX9_judges 102 = .ok (.iload_n 3, 1) := by decide +kernel
theorem dX9_judges_103 : decode cX9_judges 103 = .ok (.invokevirtual 231, 3) := by decide +kernel
theorem dX9_judges_106 : decode cX9_judges 106 = .ok (.ifCond .eq 7, 3) := by decide +kernel
theorem dX9_judges_109 : decode cX9_judges 109 = .ok (.iconst 0, 1) := by decide +kernel
theorem dX9_judges_110 : decode cX9_judges 110 = .ok (.goto 4, 3) := by decide +kernel
theorem dX9_judges_113 : decode cX9_judges 113 = .ok (.iconst 3, 1) := by decide +kernel
theorem dX9_judges_114 : decode cX9_judges 114 = .ok (.iastore, 1) := by decide +kernel
theorem dX9_judges_115 : decode cX9_judges 115 = .ok (.iinc 3 1, 3) := by decide +kernel
theorem dX9_judges_118 : decode cX9_judges 118 = .ok (.goto (-111), 3) := by decide +kernel
theorem dX9_judges_121 : decode cX9_judges 121 = .ok (.iconst 0, 1) := by decide +kernel
theorem dX9_judges_122 : decode cX9_judges 122 = .ok (.istore_n 3, 1) := by decide +kernel
theorem dX9_judges_123 : decode cX9_judges 123 = .ok (.iload_n 3, 1) := by decide +kernel
theorem dX9_judges_124 : decode cX9_judges 124 = .ok (.aload_n 1, 1) := by decide +kernel
theorem dX9_judges_125 : decode cX9_judges 125 = .ok (.iconst 1, 1) := by decide +kernel
theorem dX9_judges_126 : decode cX9_judges 126 = .ok (.iaload, 1) := by decide +kernel
theorem dX9_judges_127 : decode cX9_judges 127 = .ok (.if_icmp .ge 116, 3) := by decide +kernel
theorem dX9_judges_130 : decode cX9_judges 130 = .ok (.iconst 0, 1) := by decide +kernel
theorem dX9_judges_131 : decode cX9_judges 131 = .ok (.istore 4, 2) := by decide +kernel
theorem dX9_judges_133 : decode cX9_judges 133 = .ok (.iconst 0, 1) := by decide +kernel
theorem dX9_judges_134 : decode cX9_judges 134 = .ok (.istore 5, 2) := by decide +kernel
theorem dX9_judges_136 : decode cX9_judges 136 = .ok (.iconst 0, 1) := by decide +kernel
theorem dX9_judges_137 : decode cX9_judges 137 = .ok (.istore 6, 2) := by decide +kernel
theorem dX9_judges_139 : decode cX9_judges 139 = .ok (.iload 6, 2) := by decide +kernel
theorem dX9_judges_141 : decode cX9_judges 141 = .ok (.aload_n 1, 1) := by decide +kernel
theorem dX9_judges_142 : decode cX9_judges 142 = .ok (.iconst 2, 1) := by decide +kernel
theorem dX9_judges_143 : decode cX9_judges 143 = .ok (.iaload, 1) := by decide +kernel
theorem dX9_judges_144 : decode cX9_judges 144 = .ok (.if_icmp .ge 47, 3) := by decide +kernel
theorem dX9_judges_147 : decode cX9_judges 147 = .ok (.aload_n 1, 1) := by decide +kernel
theorem dX9_judges_148 : decode cX9_judges 148 = .ok (.iload 6, 2) := by decide +kernel
theorem dX9_judges_150 : decode cX9_judges 150 = .ok (.iconst 2, 1) := by decide +kernel
theorem dX9_judges_151 : decode cX9_judges 151 = .ok (.invokestatic 124, 3) := by decide +kernel
theorem dX9_judges_154 : decode cX9_judges 154 = .ok (.iaload, 1) := by decide +kernel
theorem dX9_judges_155 : decode cX9_judges 155 = .ok (.iload_n 3, 1) := by decide +kernel
theorem dX9_judges_156 : decode cX9_judges 156 = .ok (.if_icmp .eq 6, 3) := by decide +kernel
theorem dX9_judges_159 : decode cX9_judges 159 = .ok (.goto 26, 3) := by decide +kernel
theorem dX9_judges_162 : decode cX9_judges 162 = .ok (.iinc 4 1, 3) := by decide +kernel
theorem dX9_judges_165 : decode cX9_judges 165 = .ok (.iload 5, 2) := by decide +kernel
theorem dX9_judges_167 : decode cX9_judges 167 = .ok (.aload_n 0, 1) := by decide +kernel
theorem dX9_judges_168 : decode cX9_judges 168 = .ok (.getfield 31, 3) := by decide +kernel
theorem dX9_judges_171 : decode cX9_judges 171 = .ok (.iload 6, 2) := by decide +kernel
theorem dX9_judges_173 : decode cX9_judges 173 = .ok (.iaload, 1) := by decide +kernel
theorem dX9_judges_174 : decode cX9_judges 174 = .ok (.ifCond .ne 7, 3) := by decide +kernel
theorem dX9_judges_177 : decode cX9_judges 177 = .ok (.iconst 0, 1) := by decide +kernel
theorem dX9_judges_178 : decode cX9_judges 178 = .ok (.goto 4, 3) := by decide +kernel
theorem dX9_judges_181 : decode cX9_judges 181 = .ok (.iconst 1, 1) := by decide +kernel
theorem dX9_judges_182 : decode cX9_judges 182 = .ok (.iadd, 1) := by decide +kernel
theorem dX9_judges_183 : decode cX9_judges 183 = .ok (.istore 5, 2) := by decide +kernel
theorem dX9_judges_185 : decode cX9_judges 185 = .ok (.iinc 6 1, 3) := by decide +kernel
theorem dX9_judges_188 : decode cX9_judges 188 = .ok (.goto (-49), 3) := by decide +kernel
theorem dX9_judges_191 : decode cX9_judges 191 = .ok (.aload_n 1, 1) := by decide +kernel
theorem dX9_judges_192 : decode cX9_judges 192 = .ok (.bipush 57, 2) := by decide +kernel
theorem dX9_judges_194 : decode cX9_judges 194 = .ok (.iload_n 3, 1) := by decide +kernel
theorem dX9_judges_195 : decode cX9_judges 195 = .ok (.iadd, 1) := by decide +kernel
theorem dX9_judges_196 : decode cX9_judges 196 = .ok (.iaload, 1) := by decide +kernel
theorem dX9_judges_197 : decode cX9_judges 197 = .ok (.iconst 1, 1) := by decide +kernel
theorem dX9_judges_198 : decode cX9_judges 198 = .ok (.if_icmp .eq 27, 3) := by decide +kernel
theorem dX9_judges_201 : decode cX9_judges 201 = .ok (.iload_n 2, 1) := by decide +kernel
theorem dX9_judges_202 : decode cX9_judges 202 = .ok (.iload_n 3, 1) := by decide +kernel
theorem dX9_judges_203 : decode cX9_judges 203 = .ok (.ishr, 1) := by decide +kernel
theorem dX9_judges_204 : decode cX9_judges 204 = .ok (.iconst 1, 1) := by decide +kernel
theorem dX9_judges_205 : decode cX9_judges 205 = .ok (.iand, 1) := by decide +kernel
theorem dX9_judges_206 : decode cX9_judges 206 = .ok (.iconst 1, 1) := by decide +kernel
theorem dX9_judges_207 : decode cX9_judges 207 = .ok (.if_icmp .eq 18, 3) := by decide +kernel
theorem dX9_judges_210 : decode cX9_judges 210 = .ok (.bipush 100, 2) := by decide +kernel
theorem dX9_judges_212 : decode cX9_judges 212 = .ok (.iload 5, 2) := by decide +kernel
theorem dX9_judges_214 : decode cX9_judges 214 = .ok (.imul, 1) := by decide +kernel
theorem dX9_judges_215 : decode cX9_judges 215 = .ok (.aload_n 1, 1) := by decide +kernel
theorem dX9_judges_216 : decode cX9_judges 216 = .ok (.bipush 6, 2) := by decide +kernel
theorem dX9_judges_218 : decode cX9_judges 218 = .ok (.iaload, 1) := by decide +kernel
theorem dX9_judges_219 : decode cX9_judges 219 = .ok (.iload 4, 2) := by decide +kernel
theorem dX9_judges_221 : decode cX9_judges 221 = .ok (.imul, 1) := by decide +kernel
theorem dX9_judges_222 : decode cX9_judges 222 = .ok (.if_icmp .le 15, 3) := by decide +kernel
theorem dX9_judges_225 : decode cX9_judges 225 = .ok (.aload_n 0, 1) := by decide +kernel
theorem dX9_judges_226 : decode cX9_judges 226 = .ok (.dup, 1) := by decide +kernel
theorem dX9_judges_227 : decode cX9_judges 227 = .ok (.getfield 228, 3) := by decide +kernel
theorem dX9_judges_230 : decode cX9_judges 230 = .ok (.iconst 1, 1) := by decide +kernel
theorem dX9_judges_231 : decode cX9_judges 231 = .ok (.iload_n 3, 1) := by decide +kernel
theorem dX9_judges_232 : decode cX9_judges 232 = .ok (.ishl, 1) := by decide +kernel
theorem dX9_judges_233 : decode cX9_judges 233 = .ok (.ior, 1) := by decide +kernel
theorem dX9_judges_234 : decode cX9_judges 234 = .ok (.putfield 228, 3) := by decide +kernel
theorem dX9_judges_237 : decode cX9_judges 237 = .ok (.iinc 3 1, 3) := by decide +kernel
theorem dX9_judges_240 : decode cX9_judges 240 = .ok (.goto (-117), 3) := by decide +kernel
theorem dX9_judges_243 : decode cX9_judges 243 = .ok (.iconst 0, 1) := by decide +kernel
theorem dX9_judges_244 : decode cX9_judges 244 = .ok (.istore_n 3, 1) := by decide +kernel
theorem dX9_judges_245 : decode cX9_judges 245 = .ok (.iconst 0, 1) := by decide +kernel
theorem dX9_judges_246 : decode cX9_judges 246 = .ok (.istore 4, 2) := by decide +kernel
theorem dX9_judges_248 : decode cX9_judges 248 = .ok (.iload 4, 2) := by decide +kernel
theorem dX9_judges_250 : decode cX9_judges 250 = .ok (.aload_n 1, 1) := by decide +kernel
theorem dX9_judges_251 : decode cX9_judges 251 = .ok (.iconst 2, 1) := by decide +kernel
theorem dX9_judges_252 : decode cX9_judges 252 = .ok (.iaload, 1) := by decide +kernel
theorem dX9_judges_253 : decode cX9_judges 253 = .ok (.if_icmp .ge 90, 3) := by decide +kernel
theorem dX9_judges_256 : decode cX9_judges 256 = .ok (.aload_n 0, 1) := by decide +kernel
theorem dX9_judges_257 : decode cX9_judges 257 = .ok (.getfield 31, 3) := by decide +kernel
theorem dX9_judges_260 : decode cX9_judges 260 = .ok (.iload 4, 2) := by decide +kernel
theorem dX9_judges_262 : decode cX9_judges 262 = .ok (.iaload, 1) := by decide +kernel
theorem dX9_judges_263 : decode cX9_judges 263 = .ok (.ifCond .eq 6, 3) := by decide +kernel
theorem dX9_judges_266 : decode cX9_judges 266 = .ok (.goto 71, 3) := by decide +kernel
theorem dX9_judges_269 : decode cX9_judges 269 = .ok (.aload_n 0, 1) := by decide +kernel
theorem dX9_judges_270 : decode cX9_judges 270 = .ok (.getfield 228, 3) := by decide +kernel
theorem dX9_judges_273 : decode cX9_judges 273 = .ok (.aload_n 1, 1) := by decide +kernel
theorem dX9_judges_274 : decode cX9_judges 274 = .ok (.iload 4, 2) := by decide +kernel
theorem dX9_judges_276 : decode cX9_judges 276 = .ok (.iconst 2, 1) := by decide +kernel
theorem dX9_judges_277 : decode cX9_judges 277 = .ok (.invokestatic 124, 3) := by decide +kernel
theorem dX9_judges_280 : decode cX9_judges 280 = .ok (.iaload, 1) := by decide +kernel
theorem dX9_judges_281 : decode cX9_judges 281 = .ok (.ishr, 1) := by decide +kernel
theorem dX9_judges_282 : decode cX9_judges 282 = .ok (.iconst 1, 1) := by decide +kernel
theorem dX9_judges_283 : decode cX9_judges 283 = .ok (.iand, 1) := by decide +kernel
theorem dX9_judges_284 : decode cX9_judges 284 = .ok (.iconst 1, 1) := by decide +kernel
theorem dX9_judges_285 : decode cX9_judges 285 = .ok (.if_icmp .ne 14, 3) := by decide +kernel
theorem dX9_judges_288 : decode cX9_judges 288 = .ok (.aload_n 0, 1) := by decide +kernel
theorem dX9_judges_289 : decode cX9_judges 289 = .ok (.getfield 31, 3) := by decide +kernel
theorem dX9_judges_292 : decode cX9_judges 292 = .ok (.iload 4, 2) := by decide +kernel
theorem dX9_judges_294 : decode cX9_judges 294 = .ok (.iconst 4, 1) := by decide +kernel
theorem dX9_judges_295 : decode cX9_judges 295 = .ok (.iastore, 1) := by decide +kernel
theorem dX9_judges_296 : decode cX9_judges 296 = .ok (.goto 41, 3) := by decide +kernel
theorem dX9_judges_299 : decode cX9_judges 299 = .ok (.iload_n 3, 1) := by decide +kernel
theorem dX9_judges_300 : decode cX9_judges 300 = .ok (.aload_n 0, 1) := by decide +kernel
theorem dX9_judges_301 : decode cX9_judges 301 = .ok (.getfield 34, 3) := by decide +kernel
theorem dX9_judges_304 : decode cX9_judges 304 = .ok (.iload 4, 2) := by decide +kernel
theorem dX9_judges_306 : decode cX9_judges 306 = .ok (.iaload, 1) := by decide +kernel
theorem dX9_judges_307 : decode cX9_judges 307 = .ok (.ishr, 1) := by decide +kernel
theorem dX9_judges_308 : decode cX9_judges 308 = .ok (.iconst 1, 1) := by decide +kernel
theorem dX9_judges_309 : decode cX9_judges 309 = .ok (.iand, 1) := by decide +kernel
theorem dX9_judges_310 : decode cX9_judges 310 = .ok (.iconst 1, 1) := by decide +kernel
theorem dX9_judges_311 : decode cX9_judges 311 = .ok (.if_icmp .ne 14, 3) := by decide +kernel
theorem dX9_judges_314 : decode cX9_judges 314 = .ok (.aload_n 0, 1) := by decide +kernel
theorem dX9_judges_315 : decode cX9_judges 315 = .ok (.getfield 31, 3) := by decide +kernel
theorem dX9_judges_318 : decode cX9_judges 318 = .ok (.iload 4, 2) := by decide +kernel
theorem dX9_judges_320 : decode cX9_judges 320 = .ok (.iconst 5, 1) := by decide +kernel
theorem dX9_judges_321 : decode cX9_judges 321 = .ok (.iastore, 1) := by decide +kernel
theorem dX9_judges_322 : decode cX9_judges 322 = .ok (.goto 15, 3) := by decide +kernel
theorem dX9_judges_325 : decode cX9_judges 325 = .ok (.iload_n 3, 1) := by decide +kernel
theorem dX9_judges_326 : decode cX9_judges 326 = .ok (.iconst 1, 1) := by decide +kernel
theorem dX9_judges_327 : decode cX9_judges 327 = .ok (.aload_n 0, 1) := by decide +kernel
theorem dX9_judges_328 : decode cX9_judges 328 = .ok (.getfield 34, 3) := by decide +kernel
theorem dX9_judges_331 : decode cX9_judges 331 = .ok (.iload 4, 2) := by decide +kernel
theorem dX9_judges_333 : decode cX9_judges 333 = .ok (.iaload, 1) := by decide +kernel
theorem dX9_judges_334 : decode cX9_judges 334 = .ok (.ishl, 1) := by decide +kernel
theorem dX9_judges_335 : decode cX9_judges 335 = .ok (.ior, 1) := by decide +kernel
theorem dX9_judges_336 : decode cX9_judges 336 = .ok (.istore_n 3, 1) := by decide +kernel
theorem dX9_judges_337 : decode cX9_judges 337 = .ok (.iinc 4 1, 3) := by decide +kernel
theorem dX9_judges_340 : decode cX9_judges 340 = .ok (.goto (-92), 3) := by decide +kernel
theorem dX9_judges_343 : decode cX9_judges 343 = .ok (.return_, 1) := by decide +kernel
theorem dX9_isClean_0 : decode cX9_isClean 0 = .ok (.aload_n 0, 1) := by decide +kernel
theorem dX9_isClean_1 : decode cX9_isClean 1 = .ok (.getfield 31, 3) := by decide +kernel
theorem dX9_isClean_4 : decode cX9_isClean 4 = .ok (.iload_n 1, 1) := by decide +kernel
theorem dX9_isClean_5 : decode cX9_isClean 5 = .ok (.iaload, 1) := by decide +kernel
theorem dX9_isClean_6 : decode cX9_isClean 6 = .ok (.ifCond .eq 13, 3) := by decide +kernel
theorem dX9_isClean_9 : decode cX9_isClean 9 = .ok (.aload_n 0, 1) := by decide +kernel
theorem dX9_isClean_10 : decode cX9_isClean 10 = .ok (.getfield 31, 3) := by decide +kernel
theorem dX9_isClean_13 : decode cX9_isClean 13 = .ok (.iload_n 1, 1) := by decide +kernel
theorem dX9_isClean_14 : decode cX9_isClean 14 = .ok (.iaload, 1) := by decide +kernel
theorem dX9_isClean_15 : decode cX9_isClean 15 = .ok (.iconst 5, 1) := by decide +kernel
theorem dX9_isClean_16 : decode cX9_isClean 16 = .ok (.if_icmp .ne 7, 3) := by decide +kernel
theorem dX9_isClean_19 : decode cX9_isClean 19 = .ok (.iconst 1, 1) := by decide +kernel
theorem dX9_isClean_20 : decode cX9_isClean 20 = .ok (.goto 4, 3) := by decide +kernel
theorem dX9_isClean_23 : decode cX9_isClean 23 = .ok (.iconst 0, 1) := by decide +kernel
theorem dX9_isClean_24 : decode cX9_isClean 24 = .ok (.ireturn, 1) := by decide +kernel
theorem dX9_count_0 : decode cX9_count 0 = .ok (.iconst 0, 1) := by decide +kernel
theorem dX9_count_1 : decode cX9_count 1 = .ok (.istore_n 2, 1) := by decide +kernel
theorem dX9_count_2 : decode cX9_count 2 = .ok (.iconst 0, 1) := by decide +kernel
theorem dX9_count_3 : decode cX9_count 3 = .ok (.istore_n 3, 1) := by decide +kernel
theorem dX9_count_4 : decode cX9_count 4 = .ok (.iload_n 3, 1) := by decide +kernel
theorem dX9_count_5 : decode cX9_count 5 = .ok (.aload_n 0, 1) := by decide +kernel
theorem dX9_count_6 : decode cX9_count 6 = .ok (.invokevirtual 218, 3) := by decide +kernel
theorem dX9_count_9 : decode cX9_count 9 = .ok (.if_icmp .ge 27, 3) := by decide +kernel
theorem dX9_count_12 : decode cX9_count 12 = .ok (.iload_n 2, 1) := by decide +kernel
theorem dX9_count_13 : decode cX9_count 13 = .ok (.aload_n 0, 1) := by decide +kernel
theorem dX9_count_14 : decode cX9_count 14 = .ok (.getfield 31, 3) := by decide +kernel
theorem dX9_count_17 : decode cX9_count 17 = .ok (.iload_n 3, 1) := by decide +kernel
theorem dX9_count_18 : decode cX9_count 18 = .ok (.iaload, 1) := by decide +kernel
theorem dX9_count_19 : decode cX9_count 19 = .ok (.iload_n 1, 1) := by decide +kernel
theorem dX9_count_20 : decode cX9_count 20 = .ok (.if_icmp .ne 7, 3) := by decide +kernel
theorem dX9_count_23 : decode cX9_count 23 = .ok (.iconst 1, 1) := by decide +kernel
theorem dX9_count_24 : decode cX9_count 24 = .ok (.goto 4, 3) := by decide +kernel
theorem dX9_count_27 : decode cX9_count 27 = .ok (.iconst 0, 1) := by decide +kernel
theorem dX9_count_28 : decode cX9_count 28 = .ok (.iadd, 1) := by decide +kernel
theorem dX9_count_29 : decode cX9_count 29 = .ok (.istore_n 2, 1) := by decide +kernel
theorem dX9_count_30 : decode cX9_count 30 = .ok (.iinc 3 1, 3) := by decide +kernel
theorem dX9_count_33 : decode cX9_count 33 = .ok (.goto (-29), 3) := by decide +kernel
theorem dX9_count_36 : decode cX9_count 36 = .ok (.iload_n 2, 1) := by decide +kernel
theorem dX9_count_37 : decode cX9_count 37 = .ok (.ireturn, 1) := by decide +kernel
theorem dX9_remembers_0 : decode cX9_remembers 0 = .ok (.aload_n 0, 1) := by decide +kernel
theorem dX9_remembers_1 : decode cX9_remembers 1 = .ok (.getfield 235, 3) := by decide +kernel
theorem dX9_remembers_4 : decode cX9_remembers 4 = .ok (.bipush 8, 2) := by decide +kernel
theorem dX9_remembers_6 : decode cX9_remembers 6 = .ok (.if_icmp .ne 44, 3) := by decide +kernel
theorem dX9_remembers_9 : decode cX9_remembers 9 = .ok (.iconst 1, 1) := by decide +kernel
theorem dX9_remembers_10 : decode cX9_remembers 10 = .ok (.istore_n 1, 1) := by decide +kernel
theorem dX9_remembers_11 : decode cX9_remembers 11 = .ok (.iload_n 1, 1) := by decide +kernel
theorem dX9_remembers_12 : decode cX9_remembers 12 = .ok (.bipush 8, 2) := by decide +kernel
theorem dX9_remembers_14 : decode cX9_remembers 14 = .ok (.if_icmp .ge 26, 3) := by decide +kernel
theorem dX9_remembers_17 : decode cX9_remembers 17 = .ok (.aload_n 0, 1) := by decide +kernel
theorem dX9_remembers_18 : decode cX9_remembers 18 = .ok (.getfield 28, 3) := by decide +kernel
theorem dX9_remembers_21 : decode cX9_remembers 21 = .ok (.iload_n 1, 1) := by decide +kernel
theorem dX9_remembers_22 : decode cX9_remembers 22 = .ok (.aaload, 1) := by decide +kernel
theorem dX9_remembers_23 : decode cX9_remembers 23 = .ok (.aload_n 0, 1) := by decide +kernel
theorem dX9_remembers_24 : decode cX9_remembers 24 = .ok (.getfield 28, 3) := by decide +kernel
theorem dX9_remembers_27 : decode cX9_remembers 27 = .ok (.iload_n 1, 1) := by decide +kernel
theorem dX9_remembers_28 : decode cX9_remembers 28 = .ok (.iconst 1, 1) := by decide +kernel
theorem dX9_remembers_29 : decode cX9_remembers 29 = .ok (.isub, 1) := by decide +kernel
theorem dX9_remembers_30 : decode cX9_remembers 30 = .ok (.aaload, 1) := by decide +kernel
theorem dX9_remembers_31 : decode cX9_remembers 31 = .ok (.invokestatic 214, 3) := by decide +kernel
theorem dX9_remembers_34 : decode cX9_remembers 34 = .ok (.iinc 1 1, 3) := by decide +kernel
theorem dX9_remembers_37 : decode cX9_remembers 37 = .ok (.goto (-26), 3) := by decide +kernel
theorem dX9_remembers_40 : decode cX9_remembers 40 = .ok (.aload_n 0, 1) := by decide +kernel
theorem dX9_remembers_41 : decode cX9_remembers 41 = .ok (.dup, 1) := by decide +kernel
theorem dX9_remembers_42 : decode cX9_remembers 42 = .ok (.getfield 235, 3) := by decide +kernel
theorem dX9_remembers_45 : decode cX9_remembers 45 = .ok (.iconst 1, 1) := by decide +kernel
theorem dX9_remembers_46 : decode cX9_remembers 46 = .ok (.isub, 1) := by decide +kernel
theorem dX9_remembers_47 : decode cX9_remembers 47 = .ok (.putfield 235, 3) := by decide +kernel
theorem dX9_remembers_50 : decode cX9_remembers 50 = .ok (.aload_n 0, 1) := by decide +kernel
theorem dX9_remembers_51 : decode cX9_remembers 51 = .ok (.getfield 20, 3) := by decide +kernel
theorem dX9_remembers_54 : decode cX9_remembers 54 = .ok (.aload_n 0, 1) := by decide +kernel
theorem dX9_remembers_55 : decode cX9_remembers 55 = .ok (.getfield 28, 3) := by decide +kernel
theorem dX9_remembers_58 : decode cX9_remembers 58 = .ok (.aload_n 0, 1) := by decide +kernel
theorem dX9_remembers_59 : decode cX9_remembers 59 = .ok (.getfield 235, 3) := by decide +kernel
theorem dX9_remembers_62 : decode cX9_remembers 62 = .ok (.aaload, 1) := by decide +kernel
theorem dX9_remembers_63 : decode cX9_remembers 63 = .ok (.invokestatic 214, 3) := by decide +kernel
theorem dX9_remembers_66 : decode cX9_remembers 66 = .ok (.aload_n 0, 1) := by decide +kernel
theorem dX9_remembers_67 : decode cX9_remembers 67 = .ok (.dup, 1) := by decide +kernel
theorem dX9_remembers_68 : decode cX9_remembers 68 = .ok (.getfield 235, 3) := by decide +kernel
theorem dX9_remembers_71 : decode cX9_remembers 71 = .ok (.iconst 1, 1) := by decide +kernel
theorem dX9_remembers_72 : decode cX9_remembers 72 = .ok (.iadd, 1) := by decide +kernel
theorem dX9_remembers_73 : decode cX9_remembers 73 = .ok (.putfield 235, 3) := by decide +kernel
theorem dX9_remembers_76 : decode cX9_remembers 76 = .ok (.return_, 1) := by decide +kernel
theorem dX9_undo_0 : decode cX9_undo 0 = .ok (.aload_n 0, 1) := by decide +kernel
theorem dX9_undo_1 : decode cX9_undo 1 = .ok (.iconst 0, 1) := by decide +kernel
theorem dX9_undo_2 : decode cX9_undo 2 = .ok (.putfield 48, 3) := by decide +kernel
theorem dX9_undo_5 : decode cX9_undo 5 = .ok (.aload_n 0, 1) := by decide +kernel
theorem dX9_undo_6 : decode cX9_undo 6 = .ok (.getfield 235, 3) := by decide +kernel
theorem dX9_undo_9 : decode cX9_undo 9 = .ok (.ifCond .ne 5, 3) := by decide +kernel
theorem dX9_undo_12 : decode cX9_undo 12 = .ok (.iconst (-1), 1) := by decide +kernel
theorem dX9_undo_13 : decode cX9_undo 13 = .ok (.ireturn, 1) := by decide +kernel
theorem dX9_undo_14 : decode cX9_undo 14 = .ok (.aload_n 0, 1) := by decide +kernel
theorem dX9_undo_15 : decode cX9_undo 15 = .ok (.dup, 1) := by decide +kernel
theorem dX9_undo_16 : decode cX9_undo 16 = .ok (.getfield 235, 3) := by decide +kernel
theorem dX9_undo_19 : decode cX9_undo 19 = .ok (.iconst 1, 1) := by decide +kernel
theorem dX9_undo_20 : decode cX9_undo 20 = .ok (.isub, 1) := by decide +kernel
theorem dX9_undo_21 : decode cX9_undo 21 = .ok (.putfield 235, 3) := by decide +kernel
theorem dX9_undo_24 : decode cX9_undo 24 = .ok (.aload_n 0, 1) := by decide +kernel
theorem dX9_undo_25 : decode cX9_undo 25 = .ok (.getfield 28, 3) := by decide +kernel
theorem dX9_undo_28 : decode cX9_undo 28 = .ok (.aload_n 0, 1) := by decide +kernel
theorem dX9_undo_29 : decode cX9_undo 29 = .ok (.getfield 235, 3) := by decide +kernel
theorem dX9_undo_32 : decode cX9_undo 32 = .ok (.aaload, 1) := by decide +kernel
theorem dX9_undo_33 : decode cX9_undo 33 = .ok (.aload_n 0, 1) := by decide +kernel
theorem dX9_undo_34 : decode cX9_undo 34 = .ok (.getfield 20, 3) := by decide +kernel
theorem dX9_undo_37 : decode cX9_undo 37 = .ok (.invokestatic 214, 3) := by decide +kernel
theorem dX9_undo_40 : decode cX9_undo 40 = .ok (.aload_n 0, 1) := by decide +kernel
theorem dX9_undo_41 : decode cX9_undo 41 = .ok (.getfield 235, 3) := by decide +kernel
theorem dX9_undo_44 : decode cX9_undo 44 = .ok (.ireturn, 1) := by decide +kernel
theorem dX9_isSheet_0 : decode cX9_isSheet 0 = .ok (.iload_n 1, 1) := by decide +kernel
theorem dX9_isSheet_1 : decode cX9_isSheet 1 = .ok (.i2l, 1) := by decide +kernel
theorem dX9_isSheet_2 : decode cX9_isSheet 2 = .ok (.lconst 0, 1) := by decide +kernel
theorem dX9_isSheet_3 : decode cX9_isSheet 3 = .ok (.aload_n 0, 1) := by decide +kernel
theorem dX9_isSheet_4 : decode cX9_isSheet 4 = .ok (.getfield 20, 3) := by decide +kernel
theorem dX9_isSheet_7 : decode cX9_isSheet 7 = .ok (.iconst 1, 1) := by decide +kernel
theorem dX9_isSheet_8 : decode cX9_isSheet 8 = .ok (.iaload, 1) := by decide +kernel
theorem dX9_isSheet_9 : decode cX9_isSheet 9 = .ok (.iconst 1, 1) := by decide +kernel
theorem dX9_isSheet_10 : decode cX9_isSheet 10 = .ok (.isub, 1) := by decide +kernel
theorem dX9_isSheet_11 : decode cX9_isSheet 11 = .ok (.i2l, 1) := by decide +kernel
theorem dX9_isSheet_12 : decode cX9_isSheet 12 = .ok (.invokestatic 107, 3) := by decide +kernel
theorem dX9_isSheet_15 : decode cX9_isSheet 15 = .ok (.ireturn, 1) := by decide +kernel
theorem dX9_isVoter_0 : decode cX9_isVoter 0 = .ok (.iload_n 1, 1) := by decide +kernel
theorem dX9_isVoter_1 : decode cX9_isVoter 1 = .ok (.i2l, 1) := by decide +kernel
theorem dX9_isVoter_2 : decode cX9_isVoter 2 = .ok (.lconst 0, 1) := by decide +kernel
theorem dX9_isVoter_3 : decode cX9_isVoter 3 = .ok (.aload_n 0, 1) := by decide +kernel
theorem dX9_isVoter_4 : decode cX9_isVoter 4 = .ok (.getfield 20, 3) := by decide +kernel
theorem dX9_isVoter_7 : decode cX9_isVoter 7 = .ok (.iconst 0, 1) := by decide +kernel
theorem dX9_isVoter_8 : decode cX9_isVoter 8 = .ok (.iaload, 1) := by decide +kernel
theorem dX9_isVoter_9 : decode cX9_isVoter 9 = .ok (.iconst 1, 1) := by decide +kernel
theorem dX9_isVoter_10 : decode cX9_isVoter 10 = .ok (.isub, 1) := by decide +kernel
theorem dX9_isVoter_11 : decode cX9_isVoter 11 = .ok (.i2l, 1) := by decide +kernel
theorem dX9_isVoter_12 : decode cX9_isVoter 12 = .ok (.invokestatic 107, 3) := by decide +kernel
theorem dX9_isVoter_15 : decode cX9_isVoter 15 = .ok (.ireturn, 1) := by decide +kernel
theorem dX9_linesOf_0 : decode cX9_linesOf 0 = .ok (.iconst 0, 1) := by decide +kernel
theorem dX9_linesOf_1 : decode cX9_linesOf 1 = .ok (.istore_n 2, 1) := by decide +kernel
theorem dX9_linesOf_2 : decode cX9_linesOf 2 = .ok (.iconst 0, 1) := by decide +kernel
theorem dX9_linesOf_3 : decode cX9_linesOf 3 = .ok (.istore_n 3, 1) := by decide +kernel
theorem dX9_linesOf_4 : decode cX9_linesOf 4 = .ok (.iload_n 3, 1) := by decide +kernel
theorem dX9_linesOf_5 : decode cX9_linesOf 5 = .ok (.aload_n 0, 1) := by decide +kernel
theorem dX9_linesOf_6 : decode cX9_linesOf 6 = .ok (.invokevirtual 218, 3) := by decide +kernel
theorem dX9_linesOf_9 : decode cX9_linesOf 9 = .ok (.if_icmp .ge 31, 3) := by decide +kernel
theorem dX9_linesOf_12 : decode cX9_linesOf 12 = .ok (.iload_n 2, 1) := by decide +kernel
theorem dX9_linesOf_13 : decode cX9_linesOf 13 = .ok (.aload_n 0, 1) := by decide +kernel
theorem dX9_linesOf_14 : decode cX9_linesOf 14 = .ok (.getfield 20, 3) := by decide +kernel
theorem dX9_linesOf_17 : decode cX9_linesOf 17 = .ok (.iload_n 3, 1) := by decide +kernel
theorem dX9_linesOf_18 : decode cX9_linesOf 18 = .ok (.iconst 2, 1) := by decide +kernel
theorem dX9_linesOf_19 : decode cX9_linesOf 19 = .ok (.invokestatic 124, 3) := by decide +kernel
theorem dX9_linesOf_22 : decode cX9_linesOf 22 = .ok (.iaload, 1) := by decide +kernel
theorem dX9_linesOf_23 : decode cX9_linesOf 23 = .ok (.iload_n 1, 1) := by decide +kernel
theorem dX9_linesOf_24 : decode cX9_linesOf 24 = .ok (.if_icmp .ne 7, 3) := by decide +kernel
theorem dX9_linesOf_27 : decode cX9_linesOf 27 = .ok (.iconst 1, 1) := by decide +kernel
theorem dX9_linesOf_28 : decode cX9_linesOf 28 = .ok (.goto 4, 3) := by decide +kernel
theorem dX9_linesOf_31 : decode cX9_linesOf 31 = .ok (.iconst 0, 1) := by decide +kernel
theorem dX9_linesOf_32 : decode cX9_linesOf 32 = .ok (.iadd, 1) := by decide +kernel
theorem dX9_linesOf_33 : decode cX9_linesOf 33 = .ok (.istore_n 2, 1) := by decide +kernel
theorem dX9_linesOf_34 : decode cX9_linesOf 34 = .ok (.iinc 3 1, 3) := by decide +kernel
theorem dX9_linesOf_37 : decode cX9_linesOf 37 = .ok (.goto (-33), 3) := by decide +kernel
theorem dX9_linesOf_40 : decode cX9_linesOf 40 = .ok (.iload_n 2, 1) := by decide +kernel
theorem dX9_linesOf_41 : decode cX9_linesOf 41 = .ok (.ireturn, 1) := by decide +kernel
theorem dX9_spotOf_0 : decode cX9_spotOf 0 = .ok (.iload_n 2, 1) := by decide +kernel
theorem dX9_spotOf_1 : decode cX9_spotOf 1 = .ok (.istore_n 3, 1) := by decide +kernel
theorem dX9_spotOf_2 : decode cX9_spotOf 2 = .ok (.iconst 0, 1) := by decide +kernel
theorem dX9_spotOf_3 : decode cX9_spotOf 3 = .ok (.istore 4, 2) := by decide +kernel
theorem dX9_spotOf_5 : decode cX9_spotOf 5 = .ok (.iload 4, 2) := by decide +kernel
theorem dX9_spotOf_7 : decode cX9_spotOf 7 = .ok (.aload_n 0, 1) := by decide +kernel
theorem dX9_spotOf_8 : decode cX9_spotOf 8 = .ok (.invokevirtual 218, 3) := by decide +kernel
theorem dX9_spotOf_11 : decode cX9_spotOf 11 = .ok (.if_icmp .ge 32, 3) := by decide +kernel
theorem dX9_spotOf_14 : decode cX9_spotOf 14 = .ok (.iload_n 3, 1) := by decide +kernel
theorem dX9_spotOf_15 : decode cX9_spotOf 15 = .ok (.aload_n 0, 1) := by decide +kernel
theorem dX9_spotOf_16 : decode cX9_spotOf 16 = .ok (.getfield 20, 3) := by decide +kernel
theorem dX9_spotOf_19 : decode cX9_spotOf 19 = .ok (.iload 4, 2) := by decide +kernel
theorem dX9_spotOf_21 : decode cX9_spotOf 21 = .ok (.iconst 2, 1) := by decide +kernel
theorem dX9_spotOf_22 : decode cX9_spotOf 22 = .ok (.invokestatic 124, 3) := by decide +kernel
theorem dX9_spotOf_25 : decode cX9_spotOf 25 = .ok (.iaload, 1) := by decide +kernel
theorem dX9_spotOf_26 : decode cX9_spotOf 26 = .ok (.iload_n 1, 1) := by decide +kernel
theorem dX9_spotOf_27 : decode cX9_spotOf 27 = .ok (.if_icmp .ge 7, 3) := by decide +kernel
theorem dX9_spotOf_30 : decode cX9_spotOf 30 = .ok (.iconst 1, 1) := by decide +kernel
theorem dX9_spotOf_31 : decode cX9_spotOf 31 = .ok (.goto 4, 3) := by decide +kernel
theorem dX9_spotOf_34 : decode cX9_spotOf 34 = .ok (.iconst 0, 1) := by decide +kernel
theorem dX9_spotOf_35 : decode cX9_spotOf 35 = .ok (.iadd, 1) := by decide +kernel
theorem dX9_spotOf_36 : decode cX9_spotOf 36 = .ok (.istore_n 3, 1) := by decide +kernel
theorem dX9_spotOf_37 : decode cX9_spotOf 37 = .ok (.iinc 4 1, 3) := by decide +kernel
theorem dX9_spotOf_40 : decode cX9_spotOf 40 = .ok (.goto (-35), 3) := by decide +kernel
theorem dX9_spotOf_43 : decode cX9_spotOf 43 = .ok (.iload_n 3, 1) := by decide +kernel
theorem dX9_spotOf_44 : decode cX9_spotOf 44 = .ok (.ireturn, 1) := by decide +kernel
theorem dX9_isLine_0 : decode cX9_isLine 0 = .ok (.aload_n 0, 1) := by decide +kernel
theorem dX9_isLine_1 : decode cX9_isLine 1 = .ok (.iload_n 1, 1) := by decide +kernel
theorem dX9_isLine_2 : decode cX9_isLine 2 = .ok (.invokevirtual 238, 3) := by decide +kernel
theorem dX9_isLine_5 : decode cX9_isLine 5 = .ok (.ifCond .eq 24, 3) := by decide +kernel
theorem dX9_isLine_8 : decode cX9_isLine 8 = .ok (.iload_n 2, 1) := by decide +kernel
theorem dX9_isLine_9 : decode cX9_isLine 9 = .ok (.i2l, 1) := by decide +kernel
theorem dX9_isLine_10 : decode cX9_isLine 10 = .ok (.lconst 0, 1) := by decide +kernel
theorem dX9_isLine_11 : decode cX9_isLine 11 = .ok (.aload_n 0, 1) := by decide +kernel
theorem dX9_isLine_12 : decode cX9_isLine 12 = .ok (.iload_n 1, 1) := by decide +kernel
theorem dX9_isLine_13 : decode cX9_isLine 13 = .ok (.invokevirtual 241, 3) := by decide +kernel
theorem dX9_isLine_16 : decode cX9_isLine 16 = .ok (.iconst 1, 1) := by decide +kernel
theorem dX9_isLine_17 : decode cX9_isLine 17 = .ok (.isub, 1) := by decide +kernel
theorem dX9_isLine_18 : decode cX9_isLine 18 = .ok (.i2l, 1) := by decide +kernel
theorem dX9_isLine_19 : decode cX9_isLine 19 = .ok (.invokestatic 107, 3) := by decide +kernel
theorem dX9_isLine_22 : decode cX9_isLine 22 = .ok (.ifCond .eq 7, 3) := by decide +kernel
theorem dX9_isLine_25 : decode cX9_isLine 25 = .ok (.iconst 1, 1) := by decide +kernel
theorem dX9_isLine_26 : decode cX9_isLine 26 = .ok (.goto 4, 3) := by decide +kernel
theorem dX9_isLine_29 : decode cX9_isLine 29 = .ok (.iconst 0, 1) := by decide +kernel
theorem dX9_isLine_30 : decode cX9_isLine 30 = .ok (.ireturn, 1) := by decide +kernel
theorem dX9_isIn_0 : decode cX9_isIn 0 = .ok (.aload_n 0, 1) := by decide +kernel
theorem dX9_isIn_1 : decode cX9_isIn 1 = .ok (.getfield 20, 3) := by decide +kernel
theorem dX9_isIn_4 : decode cX9_isIn 4 = .ok (.sipush 225, 3) := by decide +kernel
theorem dX9_isIn_7 : decode cX9_isIn 7 = .ok (.bipush 40, 2) := by decide +kernel
theorem dX9_isIn_9 : decode cX9_isIn 9 = .ok (.iload_n 1, 1) := by decide +kernel
theorem dX9_isIn_10 : decode cX9_isIn 10 = .ok (.imul, 1) := by decide +kernel
theorem dX9_isIn_11 : decode cX9_isIn 11 = .ok (.iadd, 1) := by decide +kernel
theorem dX9_isIn_12 : decode cX9_isIn 12 = .ok (.iload_n 2, 1) := by decide +kernel
theorem dX9_isIn_13 : decode cX9_isIn 13 = .ok (.iadd, 1) := by decide +kernel
theorem dX9_isIn_14 : decode cX9_isIn 14 = .ok (.iaload, 1) := by decide +kernel
theorem dX9_isIn_15 : decode cX9_isIn 15 = .ok (.iconst 1, 1) := by decide +kernel
theorem dX9_isIn_16 : decode cX9_isIn 16 = .ok (.if_icmp .ne 7, 3) := by decide +kernel
theorem dX9_isIn_19 : decode cX9_isIn 19 = .ok (.iconst 1, 1) := by decide +kernel
theorem dX9_isIn_20 : decode cX9_isIn 20 = .ok (.goto 4, 3) := by decide +kernel
theorem dX9_isIn_23 : decode cX9_isIn 23 = .ok (.iconst 0, 1) := by decide +kernel
theorem dX9_isIn_24 : decode cX9_isIn 24 = .ok (.ireturn, 1) := by decide +kernel
theorem dX9_emptiesSamples_0 : decode cX9_emptiesSamples 0 = .ok (.sipush 225, 3) := by decide +kernel
theorem dX9_emptiesSamples_3 : decode cX9_emptiesSamples 3 = .ok (.istore_n 1, 1) := by decide +kernel
theorem dX9_emptiesSamples_4 : decode cX9_emptiesSamples 4 = .ok (.iload_n 1, 1) := by decide +kernel
theorem dX9_emptiesSamples_5 : decode cX9_emptiesSamples 5 = .ok (.sipush 305, 3) := by decide +kernel
theorem dX9_emptiesSamples_8 : decode cX9_emptiesSamples 8 = .ok (.if_icmp .ge 16, 3) := by decide +kernel
theorem dX9_emptiesSamples_11 : decode cX9_emptiesSamples 11 = .ok (.aload_n 0, 1) := by decide +kernel
theorem dX9_emptiesSamples_12 : decode cX9_emptiesSamples 12 = .ok (.getfield 20, 3) := by decide +kernel
theorem dX9_emptiesSamples_15 : decode cX9_emptiesSamples 15 = .ok (.iload_n 1, 1) := by decide +kernel
theorem dX9_emptiesSamples_16 : decode cX9_emptiesSamples 16 = .ok (.iconst 0, 1) := by decide +kernel
theorem dX9_emptiesSamples_17 : decode cX9_emptiesSamples 17 = .ok (.iastore, 1) := by decide +kernel
theorem dX9_emptiesSamples_18 : decode cX9_emptiesSamples 18 = .ok (.iinc 1 1, 3) := by decide +kernel
theorem dX9_emptiesSamples_21 : decode cX9_emptiesSamples 21 = .ok (.goto (-17), 3) := by decide +kernel
theorem dX9_emptiesSamples_24 : decode cX9_emptiesSamples 24 = .ok (.return_, 1) := by decide +kernel
theorem dX9_isSample_0 : decode cX9_isSample 0 = .ok (.iload_n 0, 1) := by decide +kernel
theorem dX9_isSample_1 : decode cX9_isSample 1 = .ok (.i2l, 1) := by decide +kernel
theorem dX9_isSample_2 : decode cX9_isSample 2 = .ok (.lconst 0, 1) := by decide +kernel
theorem dX9_isSample_3 : decode cX9_isSample 3 = .ok (.lconst 1, 1) := by decide +kernel
theorem dX9_isSample_4 : decode cX9_isSample 4 = .ok (.invokestatic 107, 3) := by decide +kernel
theorem dX9_isSample_7 : decode cX9_isSample 7 = .ok (.ireturn, 1) := by decide +kernel
theorem dX9_goodIn_0 : decode cX9_goodIn 0 = .ok (.iconst 0, 1) := by decide +kernel
theorem dX9_goodIn_1 : decode cX9_goodIn 1 = .ok (.istore_n 2, 1) := by decide +kernel
theorem dX9_goodIn_2 : decode cX9_goodIn 2 = .ok (.iconst 0, 1) := by decide +kernel
theorem dX9_goodIn_3 : decode cX9_goodIn 3 = .ok (.istore_n 3, 1) := by decide +kernel
theorem dX9_goodIn_4 : decode cX9_goodIn 4 = .ok (.iload_n 3, 1) := by decide +kernel
theorem dX9_goodIn_5 : decode cX9_goodIn 5 = .ok (.aload_n 0, 1) := by decide +kernel
theorem dX9_goodIn_6 : decode cX9_goodIn 6 = .ok (.invokevirtual 218, 3) := by decide +kernel
theorem dX9_goodIn_9 : decode cX9_goodIn 9 = .ok (.if_icmp .ge 34, 3) := by decide +kernel
theorem dX9_goodIn_12 : decode cX9_goodIn 12 = .ok (.iload_n 2, 1) := by decide +kernel
theorem dX9_goodIn_13 : decode cX9_goodIn 13 = .ok (.aload_n 0, 1) := by decide +kernel
theorem dX9_goodIn_14 : decode cX9_goodIn 14 = .ok (.iload_n 1, 1) := by decide +kernel
theorem dX9_goodIn_15 : decode cX9_goodIn 15 = .ok (.iload_n 3, 1) := by decide +kernel
theorem dX9_goodIn_16 : decode cX9_goodIn 16 = .ok (.invokevirtual 244, 3) := by decide +kernel
theorem dX9_goodIn_19 : decode cX9_goodIn 19 = .ok (.ifCond .eq 15, 3) := by decide +kernel
theorem dX9_goodIn_22 : decode cX9_goodIn 22 = .ok (.aload_n 0, 1) := by decide +kernel
theorem dX9_goodIn_23 : decode cX9_goodIn 23 = .ok (.iload_n 3, 1) := by decide +kernel
theorem dX9_goodIn_24 : decode cX9_goodIn 24 = .ok (.invokevirtual 248, 3) := by decide +kernel
theorem dX9_goodIn_27 : decode cX9_goodIn 27 = .ok (.ifCond .eq 7, 3) := by decide +kernel
theorem dX9_goodIn_30 : decode cX9_goodIn 30 = .ok (.iconst 1, 1) := by decide +kernel
theorem dX9_goodIn_31 : decode cX9_goodIn 31 = .ok (.goto 4, 3) := by decide +kernel
theorem dX9_goodIn_34 : decode cX9_goodIn 34 = .ok (.iconst 0, 1) := by decide +kernel
theorem dX9_goodIn_35 : decode cX9_goodIn 35 = .ok (.iadd, 1) := by decide +kernel
theorem dX9_goodIn_36 : decode cX9_goodIn 36 = .ok (.istore_n 2, 1) := by decide +kernel
theorem dX9_goodIn_37 : decode cX9_goodIn 37 = .ok (.iinc 3 1, 3) := by decide +kernel
theorem dX9_goodIn_40 : decode cX9_goodIn 40 = .ok (.goto (-36), 3) := by decide +kernel
theorem dX9_goodIn_43 : decode cX9_goodIn 43 = .ok (.iload_n 2, 1) := by decide +kernel
theorem dX9_goodIn_44 : decode cX9_goodIn 44 = .ok (.ireturn, 1) := by decide +kernel
theorem dX9_sample_0 : decode cX9_sample 0 = .ok (.aload_n 0, 1) := by decide +kernel
theorem dX9_sample_1 : decode cX9_sample 1 = .ok (.iconst 0, 1) := by decide +kernel
theorem dX9_sample_2 : decode cX9_sample 2 = .ok (.putfield 48, 3) := by decide +kernel
theorem dX9_sample_5 : decode cX9_sample 5 = .ok (.aload_n 0, 1) := by decide +kernel
theorem dX9_sample_6 : decode cX9_sample 6 = .ok (.iload_n 1, 1) := by decide +kernel
theorem dX9_sample_7 : decode cX9_sample 7 = .ok (.invokestatic 251, 3) := by decide +kernel
theorem dX9_sample_10 : decode cX9_sample 10 = .ok (.ifCond .eq 17, 3) := by decide +kernel
theorem dX9_sample_13 : decode cX9_sample 13 = .ok (.iload_n 2, 1) := by decide +kernel
theorem dX9_sample_14 : decode cX9_sample 14 = .ok (.i2l, 1) := by decide +kernel
theorem dX9_sample_15 : decode cX9_sample 15 = .ok (.lconst 1, 1) := by decide +kernel
theorem dX9_sample_16 : decode cX9_sample 16 = .ok (.aload_n 0, 1) := by decide +kernel
theorem dX9_sample_17 : decode cX9_sample 17 = .ok (.invokevirtual 218, 3) := by decide +kernel
theorem dX9_sample_20 : decode cX9_sample 20 = .ok (.i2l, 1) := by decide +kernel
theorem dX9_sample_21 : decode cX9_sample 21 = .ok (.invokestatic 107, 3) := by decide +kernel
theorem dX9_sample_24 : decode cX9_sample 24 = .ok (.ifCond .ne 7, 3) := by decide +kernel
theorem dX9_sample_27 : decode cX9_sample 27 = .ok (.iconst 1, 1) := by decide +kernel
theorem dX9_sample_28 : decode cX9_sample 28 = .ok (.goto 4, 3) := by decide +kernel
theorem dX9_sample_31 : decode cX9_sample 31 = .ok (.iconst 0, 1) := by decide +kernel
theorem dX9_sample_32 : decode cX9_sample 32 = .ok (.iconst 1, 1) := by decide +kernel
theorem dX9_sample_33 : decode cX9_sample 33 = .ok (.iconst 1, 1) := by decide +kernel
theorem dX9_sample_34 : decode cX9_sample 34 = .ok (.invokevirtual 204, 3) := by decide +kernel
theorem dX9_sample_37 : decode cX9_sample 37 = .ok (.ifCond .eq 5, 3) := by decide +kernel
theorem dX9_sample_40 : decode cX9_sample 40 = .ok (.iconst 0, 1) := by decide +kernel
theorem dX9_sample_41 : decode cX9_sample 41 = .ok (.ireturn, 1) := by decide +kernel
theorem dX9_sample_42 : decode cX9_sample 42 = .ok (.aload_n 0, 1) := by decide +kernel
theorem dX9_sample_43 : decode cX9_sample 43 = .ok (.invokevirtual 211, 3) := by decide +kernel
theorem dX9_sample_46 : decode cX9_sample 46 = .ok (.iconst 0, 1) := by decide +kernel
theorem dX9_sample_47 : decode cX9_sample 47 = .ok (.istore 4, 2) := by decide +kernel
theorem dX9_sample_49 : decode cX9_sample 49 = .ok (.iload 4, 2) := by decide +kernel
theorem dX9_sample_51 : decode cX9_sample 51 = .ok (.bipush 40, 2) := by decide +kernel
theorem dX9_sample_53 : decode cX9_sample 53 = .ok (.if_icmp .ge 26, 3) := by decide +kernel
theorem dX9_sample_56 : decode cX9_sample 56 = .ok (.aload_n 0, 1) := by decide +kernel
theorem dX9_sample_57 : decode cX9_sample 57 = .ok (.getfield 20, 3) := by decide +kernel
theorem dX9_sample_60 : decode cX9_sample 60 = .ok (.sipush 225, 3) := by decide +kernel
theorem dX9_sample_63 : decode cX9_sample 63 = .ok (.bipush 40, 2) := by decide +kernel
theorem dX9_sample_65 : decode cX9_sample 65 = .ok (.iload_n 1, 1) := by decide +kernel
theorem dX9_sample_66 : decode cX9_sample 66 = .ok (.imul, 1) := by decide +kernel
theorem dX9_sample_67 : decode cX9_sample 67 = .ok (.iadd, 1) := by decide +kernel
theorem dX9_sample_68 : decode cX9_sample 68 = .ok (.iload 4, 2) := by decide +kernel
theorem dX9_sample_70 : decode cX9_sample 70 = .ok (.iadd, 1) := by decide +kernel
theorem dX9_sample_71 : decode cX9_sample 71 = .ok (.iconst 0, 1) := by decide +kernel
theorem dX9_sample_72 : decode cX9_sample 72 = .ok (.iastore, 1) := by decide +kernel
theorem dX9_sample_73 : decode cX9_sample 73 = .ok (.iinc 4 1, 3) := by decide +kernel
theorem dX9_sample_76 : decode cX9_sample 76 = .ok (.goto (-27), 3) := by decide +kernel
theorem dX9_sample_79 : decode cX9_sample 79 = .ok (.iload_n 3, 1) := by decide +kernel
theorem dX9_sample_80 : decode cX9_sample 80 = .ok (.istore 4, 2) := by decide +kernel
theorem dX9_sample_82 : decode cX9_sample 82 = .ok (.iconst 0, 1) := by decide +kernel
theorem dX9_sample_83 : decode cX9_sample 83 = .ok (.istore 5, 2) := by decide +kernel
theorem dX9_sample_85 : decode cX9_sample 85 = .ok (.iload 5, 2) := by decide +kernel
theorem dX9_sample_87 : decode cX9_sample 87 = .ok (.iload_n 2, 1) := by decide +kernel
theorem dX9_sample_88 : decode cX9_sample 88 = .ok (.if_icmp .ge 96, 3) := by decide +kernel
theorem dX9_sample_91 : decode cX9_sample 91 = .ok (.ldc 254, 2) := by decide +kernel
theorem dX9_sample_93 : decode cX9_sample 93 = .ok (.iload 4, 2) := by decide +kernel
theorem dX9_sample_95 : decode cX9_sample 95 = .ok (.imul, 1) := by decide +kernel
theorem dX9_sample_96 : decode cX9_sample 96 = .ok (.sipush 12345, 3) := by decide +kernel
theorem dX9_sample_99 : decode cX9_sample 99 = .ok (.iadd, 1) := by decide +kernel
theorem dX9_sample_100 : decode cX9_sample 100 = .ok (.istore 4, 2) := by decide +kernel
theorem dX9_sample_102 : decode cX9_sample 102 = .ok (.iload 4, 2) := by decide +kernel
theorem dX9_sample_104 : decode cX9_sample 104 = .ok (.bipush 8, 2) := by decide +kernel
theorem dX9_sample_106 : decode cX9_sample 106 = .ok (.iushr, 1) := by decide +kernel
theorem dX9_sample_107 : decode cX9_sample 107 = .ok (.aload_n 0, 1) := by decide +kernel
theorem dX9_sample_108 : decode cX9_sample 108 = .ok (.invokevirtual 218, 3) := by decide +kernel
theorem dX9_sample_111 : decode cX9_sample 111 = .ok (.iload 5, 2) := by decide +kernel
theorem dX9_sample_113 : decode cX9_sample 113 = .ok (.isub, 1) := by decide +kernel
theorem dX9_sample_114 : decode cX9_sample 114 = .ok (.irem, 1) := by decide +kernel
theorem dX9_sample_115 : decode cX9_sample 115 = .ok (.istore 6, 2) := by decide +kernel
theorem dX9_sample_117 : decode cX9_sample 117 = .ok (.iconst 0, 1) := by decide +kernel
theorem dX9_sample_118 : decode cX9_sample 118 = .ok (.istore 7, 2) := by decide +kernel
theorem dX9_sample_120 : decode cX9_sample 120 = .ok (.aload_n 0, 1) := by decide +kernel
theorem dX9_sample_121 : decode cX9_sample 121 = .ok (.iload_n 1, 1) := by decide +kernel
theorem dX9_sample_122 : decode cX9_sample 122 = .ok (.iload 7, 2) := by decide +kernel
theorem dX9_sample_124 : decode cX9_sample 124 = .ok (.invokevirtual 244, 3) := by decide +kernel
theorem dX9_sample_127 : decode cX9_sample 127 = .ok (.ifCond .ne 8, 3) := by decide +kernel
theorem dX9_sample_130 : decode cX9_sample 130 = .ok (.iload 6, 2) := by decide +kernel
theorem dX9_sample_132 : decode cX9_sample 132 = .ok (.ifCond .le 29, 3) := by decide +kernel
theorem dX9_sample_135 : decode cX9_sample 135 = .ok (.iload 6, 2) := by decide +kernel
theorem dX9_sample_137 : decode cX9_sample 137 = .ok (.aload_n 0, 1) := by decide +kernel
theorem dX9_sample_138 : decode cX9_sample 138 = .ok (.iload_n 1, 1) := by decide +kernel
theorem dX9_sample_139 : decode cX9_sample 139 = .ok (.iload 7, 2) := by decide +kernel
theorem dX9_sample_141 : decode cX9_sample 141 = .ok (.invokevirtual 244, 3) := by decide +kernel
theorem dX9_sample_144 : decode cX9_sample 144 = .ok (.ifCond .eq 7, 3) := by decide +kernel
theorem dX9_sample_147 : decode cX9_sample 147 = .ok (.iconst 0, 1) := by decide +kernel
theorem dX9_sample_148 : decode cX9_sample 148 = .ok (.goto 4, 3) := by decide +kernel
theorem dX9_sample_151 : decode cX9_sample 151 = .ok (.iconst 1, 1) := by decide +kernel
theorem dX9_sample_152 : decode cX9_sample 152 = .ok (.isub, 1) := by decide +kernel
theorem dX9_sample_153 : decode cX9_sample 153 = .ok (.istore 6, 2) := by decide +kernel
theorem dX9_sample_155 : decode cX9_sample 155 = .ok (.iinc 7 1, 3) := by decide +kernel
theorem dX9_sample_158 : decode cX9_sample 158 = .ok (.goto (-38), 3) := by decide +kernel
theorem dX9_sample_161 : decode cX9_sample 161 = .ok (.aload_n 0, 1) := by decide +kernel
theorem dX9_sample_162 : decode cX9_sample 162 = .ok (.getfield 20, 3) := by decide +kernel
theorem dX9_sample_165 : decode cX9_sample 165 = .ok (.sipush 225, 3) := by decide +kernel
theorem dX9_sample_168 : decode cX9_sample 168 = .ok (.bipush 40, 2) := by decide +kernel
theorem dX9_sample_170 : decode cX9_sample 170 = .ok (.iload_n 1, 1) := by decide +kernel
theorem dX9_sample_171 : decode cX9_sample 171 = .ok (.imul, 1) := by decide +kernel
theorem dX9_sample_172 : decode cX9_sample 172 = .ok (.iadd, 1) := by decide +kernel
theorem dX9_sample_173 : decode cX9_sample 173 = .ok (.iload 7, 2) := by decide +kernel
theorem dX9_sample_175 : decode cX9_sample 175 = .ok (.iadd, 1) := by decide +kernel
theorem dX9_sample_176 : decode cX9_sample 176 = .ok (.iconst 1, 1) := by decide +kernel
theorem dX9_sample_177 : decode cX9_sample 177 = .ok (.iastore, 1) := by decide +kernel
theorem dX9_sample_178 : decode cX9_sample 178 = .ok (.iinc 5 1, 3) := by decide +kernel
theorem dX9_sample_181 : decode cX9_sample 181 = .ok (.goto (-96), 3) := by decide +kernel
theorem dX9_sample_184 : decode cX9_sample 184 = .ok (.aload_n 0, 1) := by decide +kernel
theorem dX9_sample_185 : decode cX9_sample 185 = .ok (.aload_n 0, 1) := by decide +kernel
theorem dX9_sample_186 : decode cX9_sample 186 = .ok (.getfield 20, 3) := by decide +kernel
theorem dX9_sample_189 : decode cX9_sample 189 = .ok (.iconst 0, 1) := by decide +kernel
theorem dX9_sample_190 : decode cX9_sample 190 = .ok (.invokevirtual 255, 3) := by decide +kernel
theorem dX9_sample_193 : decode cX9_sample 193 = .ok (.aload_n 0, 1) := by decide +kernel
theorem dX9_sample_194 : decode cX9_sample 194 = .ok (.iload_n 1, 1) := by decide +kernel
theorem dX9_sample_195 : decode cX9_sample 195 = .ok (.invokevirtual 259, 3) := by decide +kernel
theorem dX9_sample_198 : decode cX9_sample 198 = .ok (.ireturn, 1) := by decide +kernel
theorem dX9_strike_0 : decode cX9_strike 0 = .ok (.aload_n 0, 1) := by decide +kernel
theorem dX9_strike_1 : decode cX9_strike 1 = .ok (.iconst 0, 1) := by decide +kernel
theorem dX9_strike_2 : decode cX9_strike 2 = .ok (.putfield 48, 3) := by decide +kernel
theorem dX9_strike_5 : decode cX9_strike 5 = .ok (.aload_n 0, 1) := by decide +kernel
theorem dX9_strike_6 : decode cX9_strike 6 = .ok (.aload_n 0, 1) := by decide +kernel
theorem dX9_strike_7 : decode cX9_strike 7 = .ok (.iload_n 1, 1) := by decide +kernel
theorem dX9_strike_8 : decode cX9_strike 8 = .ok (.invokevirtual 238, 3) := by decide +kernel
theorem dX9_strike_11 : decode cX9_strike 11 = .ok (.ifCond .ne 7, 3) := by decide +kernel
theorem dX9_strike_14 : decode cX9_strike 14 = .ok (.iconst 1, 1) := by decide +kernel
theorem dX9_strike_15 : decode cX9_strike 15 = .ok (.goto 4, 3) := by decide +kernel
theorem dX9_strike_18 : decode cX9_strike 18 = .ok (.iconst 0, 1) := by decide +kernel
theorem dX9_strike_19 : decode cX9_strike 19 = .ok (.iconst 1, 1) := by decide +kernel
theorem dX9_strike_20 : decode cX9_strike 20 = .ok (.iconst 0, 1) := by decide +kernel
theorem dX9_strike_21 : decode cX9_strike 21 = .ok (.invokevirtual 204, 3) := by decide +kernel
theorem dX9_strike_24 : decode cX9_strike 24 = .ok (.ifCond .eq 5, 3) := by decide +kernel
theorem dX9_strike_27 : decode cX9_strike 27 = .ok (.iconst 0, 1) := by decide +kernel
theorem dX9_strike_28 : decode cX9_strike 28 = .ok (.ireturn, 1) := by decide +kernel
theorem dX9_strike_29 : decode cX9_strike 29 = .ok (.aload_n 0, 1) := by decide +kernel
theorem dX9_strike_30 : decode cX9_strike 30 = .ok (.invokevirtual 211, 3) := by decide +kernel
theorem dX9_strike_33 : decode cX9_strike 33 = .ok (.aload_n 0, 1) := by decide +kernel
theorem dX9_strike_34 : decode cX9_strike 34 = .ok (.getfield 20, 3) := by decide +kernel
theorem dX9_strike_37 : decode cX9_strike 37 = .ok (.bipush 57, 2) := by decide +kernel
theorem dX9_strike_39 : decode cX9_strike 39 = .ok (.iload_n 1, 1) := by decide +kernel
theorem dX9_strike_40 : decode cX9_strike 40 = .ok (.iadd, 1) := by decide +kernel
theorem dX9_strike_41 : decode cX9_strike 41 = .ok (.iaload, 1) := by decide +kernel
theorem dX9_strike_42 : decode cX9_strike 42 = .ok (.iconst 1, 1) := by decide +kernel
theorem dX9_strike_43 : decode cX9_strike 43 = .ok (.if_icmp .ne 7, 3) := by decide +kernel
theorem dX9_strike_46 : decode cX9_strike 46 = .ok (.iconst 1, 1) := by decide +kernel
theorem dX9_strike_47 : decode cX9_strike 47 = .ok (.goto 4, 3) := by decide +kernel
theorem dX9_strike_50 : decode cX9_strike 50 = .ok (.iconst 0, 1) := by decide +kernel
theorem dX9_strike_51 : decode cX9_strike 51 = .ok (.istore_n 3, 1) := by decide +kernel
theorem dX9_strike_52 : decode cX9_strike 52 = .ok (.aload_n 0, 1) := by decide +kernel
theorem dX9_strike_53 : decode cX9_strike 53 = .ok (.getfield 20, 3) := by decide +kernel
theorem dX9_strike_56 : decode cX9_strike 56 = .ok (.bipush 57, 2) := by decide +kernel
theorem dX9_strike_58 : decode cX9_strike 58 = .ok (.iload_n 1, 1) := by decide +kernel
theorem dX9_strike_59 : decode cX9_strike 59 = .ok (.iadd, 1) := by decide +kernel
theorem dX9_strike_60 : decode cX9_strike 60 = .ok (.iload_n 2, 1) := by decide +kernel
theorem dX9_strike_61 : decode cX9_strike 61 = .ok (.ifCond .eq 7, 3) := by decide +kernel
theorem dX9_strike_64 : decode cX9_strike 64 = .ok (.iconst 1, 1) := by decide +kernel
theorem dX9_strike_65 : decode cX9_strike 65 = .ok (.goto 4, 3) := by decide +kernel
theorem dX9_strike_68 : decode cX9_strike 68 = .ok (.iconst 0, 1) := by decide +kernel
theorem dX9_strike_69 : decode cX9_strike 69 = .ok (.iastore, 1) := by decide +kernel
theorem dX9_strike_70 : decode cX9_strike 70 = .ok (.iload_n 3, 1) := by decide +kernel
theorem dX9_strike_71 : decode cX9_strike 71 = .ok (.iload_n 2, 1) := by decide +kernel
theorem dX9_strike_72 : decode cX9_strike 72 = .ok (.if_icmp .ne 7, 3) := by decide +kernel
theorem dX9_strike_75 : decode cX9_strike 75 = .ok (.iconst 0, 1) := by decide +kernel
theorem dX9_strike_76 : decode cX9_strike 76 = .ok (.goto 4, 3) := by decide +kernel
theorem dX9_strike_79 : decode cX9_strike 79 = .ok (.iconst 1, 1) := by decide +kernel
theorem dX9_strike_80 : decode cX9_strike 80 = .ok (.ireturn, 1) := by decide +kernel
theorem dX9_moves_0 : decode cX9_moves 0 = .ok (.iconst 0, 1) := by decide +kernel
theorem dX9_moves_1 : decode cX9_moves 1 = .ok (.istore_n 3, 1) := by decide +kernel
theorem dX9_moves_2 : decode cX9_moves 2 = .ok (.iload_n 3, 1) := by decide +kernel
theorem dX9_moves_3 : decode cX9_moves 3 = .ok (.iconst 4, 1) := by decide +kernel
theorem dX9_moves_4 : decode cX9_moves 4 = .ok (.if_icmp .ge 29, 3) := by decide +kernel
theorem dX9_moves_7 : decode cX9_moves 7 = .ok (.aload_n 0, 1) := by decide +kernel
theorem dX9_moves_8 : decode cX9_moves 8 = .ok (.getfield 20, 3) := by decide +kernel
theorem dX9_moves_11 : decode cX9_moves 11 = .ok (.iload_n 2, 1) := by decide +kernel
theorem dX9_moves_12 : decode cX9_moves 12 = .ok (.iload_n 3, 1) := by decide +kernel
theorem dX9_moves_13 : decode cX9_moves 13 = .ok (.invokestatic 124, 3) := by decide +kernel
theorem dX9_moves_16 : decode cX9_moves 16 = .ok (.aload_n 0, 1) := by decide +kernel
theorem dX9_moves_17 : decode cX9_moves 17 = .ok (.getfield 20, 3) := by decide +kernel
theorem dX9_moves_20 : decode cX9_moves 20 = .ok (.iload_n 1, 1) := by decide +kernel
theorem dX9_moves_21 : decode cX9_moves 21 = .ok (.iload_n 3, 1) := by decide +kernel
theorem dX9_moves_22 : decode cX9_moves 22 = .ok (.invokestatic 124, 3) := by decide +kernel
theorem dX9_moves_25 : decode cX9_moves 25 = .ok (.iaload, 1) := by decide +kernel
theorem dX9_moves_26 : decode cX9_moves 26 = .ok (.iastore, 1) := by decide +kernel
theorem dX9_moves_27 : decode cX9_moves 27 = .ok (.iinc 3 1, 3) := by decide +kernel
theorem dX9_moves_30 : decode cX9_moves 30 = .ok (.goto (-28), 3) := by decide +kernel
theorem dX9_moves_33 : decode cX9_moves 33 = .ok (.return_, 1) := by decide +kernel
theorem dX9_sign_0 : decode cX9_sign 0 = .ok (.aload_n 0, 1) := by decide +kernel
theorem dX9_sign_1 : decode cX9_sign 1 = .ok (.iconst 0, 1) := by decide +kernel
theorem dX9_sign_2 : decode cX9_sign 2 = .ok (.putfield 48, 3) := by decide +kernel
theorem dX9_sign_5 : decode cX9_sign 5 = .ok (.aload_n 0, 1) := by decide +kernel
theorem dX9_sign_6 : decode cX9_sign 6 = .ok (.aload_n 0, 1) := by decide +kernel
theorem dX9_sign_7 : decode cX9_sign 7 = .ok (.iload_n 1, 1) := by decide +kernel
theorem dX9_sign_8 : decode cX9_sign 8 = .ok (.invokevirtual 238, 3) := by decide +kernel
theorem dX9_sign_11 : decode cX9_sign 11 = .ok (.ifCond .eq 11, 3) := by decide +kernel
theorem dX9_sign_14 : decode cX9_sign 14 = .ok (.aload_n 0, 1) := by decide +kernel
theorem dX9_sign_15 : decode cX9_sign 15 = .ok (.iload_n 2, 1) := by decide +kernel
theorem dX9_sign_16 : decode cX9_sign 16 = .ok (.invokevirtual 262, 3) := by decide +kernel
theorem dX9_sign_19 : decode cX9_sign 19 = .ok (.ifCond .ne 7, 3) := by decide +kernel
theorem dX9_sign_22 : decode cX9_sign 22 = .ok (.iconst 1, 1) := by decide +kernel
theorem dX9_sign_23 : decode cX9_sign 23 = .ok (.goto 4, 3) := by decide +kernel
theorem dX9_sign_26 : decode cX9_sign 26 = .ok (.iconst 0, 1) := by decide +kernel
theorem dX9_sign_27 : decode cX9_sign 27 = .ok (.iconst 1, 1) := by decide +kernel
theorem dX9_sign_28 : decode cX9_sign 28 = .ok (.iconst 0, 1) := by decide +kernel
theorem dX9_sign_29 : decode cX9_sign 29 = .ok (.invokevirtual 204, 3) := by decide +kernel
theorem dX9_sign_32 : decode cX9_sign 32 = .ok (.ifCond .ne 52, 3) := by decide +kernel
theorem dX9_sign_35 : decode cX9_sign 35 = .ok (.aload_n 0, 1) := by decide +kernel
theorem dX9_sign_36 : decode cX9_sign 36 = .ok (.iload_n 3, 1) := by decide +kernel
theorem dX9_sign_37 : decode cX9_sign 37 = .ok (.i2l, 1) := by decide +kernel
theorem dX9_sign_38 : decode cX9_sign 38 = .ok (.lconst 0, 1) := by decide +kernel
theorem dX9_sign_39 : decode cX9_sign 39 = .ok (.ldc2_w 265, 3) := by decide +kernel
theorem dX9_sign_42 : decode cX9_sign 42 = .ok (.invokestatic 107, 3) := by decide +kernel
theorem dX9_sign_45 : decode cX9_sign 45 = .ok (.ifCond .ne 7, 3) := by decide +kernel
theorem dX9_sign_48 : decode cX9_sign 48 = .ok (.iconst 1, 1) := by decide +kernel
theorem dX9_sign_49 : decode cX9_sign 49 = .ok (.goto 4, 3) := by decide +kernel
theorem dX9_sign_52 : decode cX9_sign 52 = .ok (.iconst 0, 1) := by decide +kernel
theorem dX9_sign_53 : decode cX9_sign 53 = .ok (.iconst 2, 1) := by decide +kernel
theorem dX9_sign_54 : decode cX9_sign 54 = .ok (.iconst 1, 1) := by decide +kernel
theorem dX9_sign_55 : decode cX9_sign 55 = .ok (.invokevirtual 204, 3) := by decide +kernel
theorem dX9_sign_58 : decode cX9_sign 58 = .ok (.ifCond .ne 26, 3) := by decide +kernel
theorem dX9_sign_61 : decode cX9_sign 61 = .ok (.aload_n 0, 1) := by decide +kernel
theorem dX9_sign_62 : decode cX9_sign 62 = .ok (.aload_n 0, 1) := by decide +kernel
theorem dX9_sign_63 : decode cX9_sign 63 = .ok (.invokevirtual 218, 3) := by decide +kernel
theorem dX9_sign_66 : decode cX9_sign 66 = .ok (.bipush 40, 2) := by decide +kernel
theorem dX9_sign_68 : decode cX9_sign 68 = .ok (.if_icmp .ne 7, 3) := by decide +kernel
theorem dX9_sign_71 : decode cX9_sign 71 = .ok (.iconst 1, 1) := by decide +kernel
theorem dX9_sign_72 : decode cX9_sign 72 = .ok (.goto 4, 3) := by decide +kernel
theorem dX9_sign_75 : decode cX9_sign 75 = .ok (.iconst 0, 1) := by decide +kernel
theorem dX9_sign_76 : decode cX9_sign 76 = .ok (.iconst 3, 1) := by decide +kernel
theorem dX9_sign_77 : decode cX9_sign 77 = .ok (.iconst 2, 1) := by decide +kernel
theorem dX9_sign_78 : decode cX9_sign 78 = .ok (.invokevirtual 204, 3) := by decide +kernel
theorem dX9_sign_81 : decode cX9_sign 81 = .ok (.ifCond .eq 5, 3) := by decide +kernel
theorem dX9_sign_84 : decode cX9_sign 84 = .ok (.iconst 0, 1) := by decide +kernel
theorem dX9_sign_85 : decode cX9_sign 85 = .ok (.ireturn, 1) := by decide +kernel
theorem dX9_sign_86 : decode cX9_sign 86 = .ok (.aload_n 0, 1) := by decide +kernel
theorem dX9_sign_87 : decode cX9_sign 87 = .ok (.invokevirtual 211, 3) := by decide +kernel
theorem dX9_sign_90 : decode cX9_sign 90 = .ok (.aload_n 0, 1) := by decide +kernel
theorem dX9_sign_91 : decode cX9_sign 91 = .ok (.iload_n 1, 1) := by decide +kernel
theorem dX9_sign_92 : decode cX9_sign 92 = .ok (.invokevirtual 241, 3) := by decide +kernel
theorem dX9_sign_95 : decode cX9_sign 95 = .ok (.istore 4, 2) := by decide +kernel
theorem dX9_sign_97 : decode cX9_sign 97 = .ok (.aload_n 0, 1) := by decide +kernel
theorem dX9_sign_98 : decode cX9_sign 98 = .ok (.iload_n 1, 1) := by decide +kernel
theorem dX9_sign_99 : decode cX9_sign 99 = .ok (.iload 4, 2) := by decide +kernel
theorem dX9_sign_101 : decode cX9_sign 101 = .ok (.invokevirtual 267, 3) := by decide +kernel
theorem dX9_sign_104 : decode cX9_sign 104 = .ok (.istore 5, 2) := by decide +kernel
theorem dX9_sign_106 : decode cX9_sign 106 = .ok (.aload_n 0, 1) := by decide +kernel
theorem dX9_sign_107 : decode cX9_sign 107 = .ok (.invokevirtual 218, 3) := by decide +kernel
theorem dX9_sign_110 : decode cX9_sign 110 = .ok (.istore 6, 2) := by decide +kernel
theorem dX9_sign_112 : decode cX9_sign 112 = .ok (.iload 6, 2) := by decide +kernel
theorem dX9_sign_114 : decode cX9_sign 114 = .ok (.iload 5, 2) := by decide +kernel
theorem dX9_sign_116 : decode cX9_sign 116 = .ok (.if_icmp .le 19, 3) := by decide +kernel
theorem dX9_sign_119 : decode cX9_sign 119 = .ok (.aload_n 0, 1) := by decide +kernel
theorem dX9_sign_120 : decode cX9_sign 120 = .ok (.iload 6, 2) := by decide +kernel
theorem dX9_sign_122 : decode cX9_sign 122 = .ok (.iconst 1, 1) := by decide +kernel
theorem dX9_sign_123 : decode cX9_sign 123 = .ok (.isub, 1) := by decide +kernel
theorem dX9_sign_124 : decode cX9_sign 124 = .ok (.iload 6, 2) := by decide +kernel
theorem dX9_sign_126 : decode cX9_sign 126 = .ok (.invokevirtual 270, 3) := by decide +kernel
theorem dX9_sign_129 : decode cX9_sign 129 = .ok (.iinc 6 (-1), 3) := by decide +kernel
theorem dX9_sign_132 : decode cX9_sign 132 = .ok (.goto (-20), 3) := by decide +kernel
theorem dX9_sign_135 : decode cX9_sign 135 = .ok (.aload_n 0, 1) := by decide +kernel
theorem dX9_sign_136 : decode cX9_sign 136 = .ok (.getfield 20, 3) := by decide +kernel
theorem dX9_sign_139 : decode cX9_sign 139 = .ok (.iload 5, 2) := by decide +kernel
theorem dX9_sign_141 : decode cX9_sign 141 = .ok (.iconst 0, 1) := by decide +kernel
theorem dX9_sign_142 : decode cX9_sign 142 = .ok (.invokestatic 124, 3) := by decide +kernel
theorem dX9_sign_145 : decode cX9_sign 145 = .ok (.aload_n 0, 1) := by decide +kernel
theorem dX9_sign_146 : decode cX9_sign 146 = .ok (.getfield 20, 3) := by decide +kernel
theorem dX9_sign_149 : decode cX9_sign 149 = .ok (.iload_n 2, 1) := by decide +kernel
theorem dX9_sign_150 : decode cX9_sign 150 = .ok (.iconst 0, 1) := by decide +kernel
theorem dX9_sign_151 : decode cX9_sign 151 = .ok (.invokestatic 111, 3) := by decide +kernel
theorem dX9_sign_154 : decode cX9_sign 154 = .ok (.iaload, 1) := by decide +kernel
theorem dX9_sign_155 : decode cX9_sign 155 = .ok (.iastore, 1) := by decide +kernel
theorem dX9_sign_156 : decode cX9_sign 156 = .ok (.aload_n 0, 1) := by decide +kernel
theorem dX9_sign_157 : decode cX9_sign 157 = .ok (.getfield 20, 3) := by decide +kernel
theorem dX9_sign_160 : decode cX9_sign 160 = .ok (.iload 5, 2) := by decide +kernel
theorem dX9_sign_162 : decode cX9_sign 162 = .ok (.iconst 1, 1) := by decide +kernel
theorem dX9_sign_163 : decode cX9_sign 163 = .ok (.invokestatic 124, 3) := by decide +kernel
theorem dX9_sign_166 : decode cX9_sign 166 = .ok (.aload_n 0, 1) := by decide +kernel
theorem dX9_sign_167 : decode cX9_sign 167 = .ok (.getfield 20, 3) := by decide +kernel
theorem dX9_sign_170 : decode cX9_sign 170 = .ok (.iload_n 2, 1) := by decide +kernel
theorem dX9_sign_171 : decode cX9_sign 171 = .ok (.iconst 1, 1) := by decide +kernel
theorem dX9_sign_172 : decode cX9_sign 172 = .ok (.invokestatic 111, 3) := by decide +kernel
theorem dX9_sign_175 : decode cX9_sign 175 = .ok (.iaload, 1) := by decide +kernel
theorem dX9_sign_176 : decode cX9_sign 176 = .ok (.iastore, 1) := by decide +kernel
theorem dX9_sign_177 : decode cX9_sign 177 = .ok (.aload_n 0, 1) := by decide +kernel
theorem dX9_sign_178 : decode cX9_sign 178 = .ok (.getfield 20, 3) := by decide +kernel
theorem dX9_sign_181 : decode cX9_sign 181 = .ok (.iload 5, 2) := by decide +kernel
theorem dX9_sign_183 : decode cX9_sign 183 = .ok (.iconst 2, 1) := by decide +kernel
theorem dX9_sign_184 : decode cX9_sign 184 = .ok (.invokestatic 124, 3) := by decide +kernel
theorem dX9_sign_187 : decode cX9_sign 187 = .ok (.iload_n 1, 1) := by decide +kernel
theorem dX9_sign_188 : decode cX9_sign 188 = .ok (.iastore, 1) := by decide +kernel
theorem dX9_sign_189 : decode cX9_sign 189 = .ok (.aload_n 0, 1) := by decide +kernel
theorem dX9_sign_190 : decode cX9_sign 190 = .ok (.getfield 20, 3) := by decide +kernel
theorem dX9_sign_193 : decode cX9_sign 193 = .ok (.iload 5, 2) := by decide +kernel
theorem dX9_sign_195 : decode cX9_sign 195 = .ok (.iconst 3, 1) := by decide +kernel
theorem dX9_sign_196 : decode cX9_sign 196 = .ok (.invokestatic 124, 3) := by decide +kernel
theorem dX9_sign_199 : decode cX9_sign 199 = .ok (.iload_n 3, 1) := by decide +kernel
theorem dX9_sign_200 : decode cX9_sign 200 = .ok (.iastore, 1) := by decide +kernel
theorem dX9_sign_201 : decode cX9_sign 201 = .ok (.aload_n 0, 1) := by decide +kernel
theorem dX9_sign_202 : decode cX9_sign 202 = .ok (.getfield 20, 3) := by decide +kernel
theorem dX9_sign_205 : decode cX9_sign 205 = .ok (.iconst 2, 1) := by decide +kernel
theorem dX9_sign_206 : decode cX9_sign 206 = .ok (.dup2, 1) := by decide +kernel
theorem dX9_sign_207 : decode cX9_sign 207 = .ok (.iaload, 1) := by decide +kernel
theorem dX9_sign_208 : decode cX9_sign 208 = .ok (.iconst 1, 1) := by decide +kernel
theorem dX9_sign_209 : decode cX9_sign 209 = .ok (.iadd, 1) := by decide +kernel
theorem dX9_sign_210 : decode cX9_sign 210 = .ok (.iastore, 1) := by decide +kernel
theorem dX9_sign_211 : decode cX9_sign 211 = .ok (.aload_n 0, 1) := by decide +kernel
theorem dX9_sign_212 : decode cX9_sign 212 = .ok (.invokevirtual 273, 3) := by decide +kernel
theorem dX9_sign_215 : decode cX9_sign 215 = .ok (.iload 4, 2) := by decide +kernel
theorem dX9_sign_217 : decode cX9_sign 217 = .ok (.ireturn, 1) := by decide +kernel
theorem dX9_erase_0 : decode cX9_erase 0 = .ok (.aload_n 0, 1) := by decide +kernel
theorem dX9_erase_1 : decode cX9_erase 1 = .ok (.iconst 0, 1) := by decide +kernel
theorem dX9_erase_2 : decode cX9_erase 2 = .ok (.putfield 48, 3) := by decide +kernel
theorem dX9_erase_5 : decode cX9_erase 5 = .ok (.aload_n 0, 1) := by decide +kernel
theorem dX9_erase_6 : decode cX9_erase 6 = .ok (.aload_n 0, 1) := by decide +kernel
theorem dX9_erase_7 : decode cX9_erase 7 = .ok (.iload_n 1, 1) := by decide +kernel
theorem dX9_erase_8 : decode cX9_erase 8 = .ok (.iload_n 2, 1) := by decide +kernel
theorem dX9_erase_9 : decode cX9_erase 9 = .ok (.invokevirtual 276, 3) := by decide +kernel
theorem dX9_erase_12 : decode cX9_erase 12 = .ok (.ifCond .ne 7, 3) := by decide +kernel
theorem dX9_erase_15 : decode cX9_erase 15 = .ok (.iconst 1, 1) := by decide +kernel
theorem dX9_erase_16 : decode cX9_erase 16 = .ok (.goto 4, 3) := by decide +kernel
theorem dX9_erase_19 : decode cX9_erase 19 = .ok (.iconst 0, 1) := by decide +kernel
theorem dX9_erase_20 : decode cX9_erase 20 = .ok (.iconst 1, 1) := by decide +kernel
theorem dX9_erase_21 : decode cX9_erase 21 = .ok (.iconst 0, 1) := by decide +kernel
theorem dX9_erase_22 : decode cX9_erase 22 = .ok (.invokevirtual 204, 3) := by decide +kernel
theorem dX9_erase_25 : decode cX9_erase 25 = .ok (.ifCond .eq 5, 3) := by decide +kernel
theorem dX9_erase_28 : decode cX9_erase 28 = .ok (.iconst 0, 1) := by decide +kernel
theorem dX9_erase_29 : decode cX9_erase 29 = .ok (.ireturn, 1) := by decide +kernel
theorem dX9_erase_30 : decode cX9_erase 30 = .ok (.aload_n 0, 1) := by decide +kernel
theorem dX9_erase_31 : decode cX9_erase 31 = .ok (.invokevirtual 211, 3) := by decide +kernel
theorem dX9_erase_34 : decode cX9_erase 34 = .ok (.aload_n 0, 1) := by decide +kernel
theorem dX9_erase_35 : decode cX9_erase 35 = .ok (.aload_n 0, 1) := by decide +kernel
theorem dX9_erase_36 : decode cX9_erase 36 = .ok (.getfield 20, 3) := by decide +kernel
theorem dX9_erase_39 : decode cX9_erase 39 = .ok (.iconst 0, 1) := by decide +kernel
theorem dX9_erase_40 : decode cX9_erase 40 = .ok (.invokevirtual 255, 3) := by decide +kernel
theorem dX9_erase_43 : decode cX9_erase 43 = .ok (.aload_n 0, 1) := by decide +kernel
theorem dX9_erase_44 : decode cX9_erase 44 = .ok (.iload_n 1, 1) := by decide +kernel
theorem dX9_erase_45 : decode cX9_erase 45 = .ok (.iload_n 2, 1) := by decide +kernel
theorem dX9_erase_46 : decode cX9_erase 46 = .ok (.invokevirtual 267, 3) := by decide +kernel
theorem dX9_erase_49 : decode cX9_erase 49 = .ok (.istore_n 3, 1) := by decide +kernel
theorem dX9_erase_50 : decode cX9_erase 50 = .ok (.aload_n 0, 1) := by decide +kernel
theorem dX9_erase_51 : decode cX9_erase 51 = .ok (.getfield 31, 3) := by decide +kernel
theorem dX9_erase_54 : decode cX9_erase 54 = .ok (.iload_n 3, 1) := by decide +kernel
theorem dX9_erase_55 : decode cX9_erase 55 = .ok (.iaload, 1) := by decide +kernel
theorem dX9_erase_56 : decode cX9_erase 56 = .ok (.istore 4, 2) := by decide +kernel
theorem dX9_erase_58 : decode cX9_erase 58 = .ok (.aload_n 0, 1) := by decide +kernel
theorem dX9_erase_59 : decode cX9_erase 59 = .ok (.getfield 20, 3) := by decide +kernel
theorem dX9_erase_62 : decode cX9_erase 62 = .ok (.iconst 2, 1) := by decide +kernel
theorem dX9_erase_63 : decode cX9_erase 63 = .ok (.dup2, 1) := by decide +kernel
theorem dX9_erase_64 : decode cX9_erase 64 = .ok (.iaload, 1) := by decide +kernel
theorem dX9_erase_65 : decode cX9_erase 65 = .ok (.iconst 1, 1) := by decide +kernel
theorem dX9_erase_66 : decode cX9_erase 66 = .ok (.isub, 1) := by decide +kernel
theorem dX9_erase_67 : decode cX9_erase 67 = .ok (.iastore, 1) := by decide +kernel
theorem dX9_erase_68 : decode cX9_erase 68 = .ok (.iload_n 3, 1) := by decide +kernel
theorem dX9_erase_69 : decode cX9_erase 69 = .ok (.istore 5, 2) := by decide +kernel
theorem dX9_erase_71 : decode cX9_erase 71 = .ok (.iload 5, 2) := by decide +kernel
theorem dX9_erase_73 : decode cX9_erase 73 = .ok (.aload_n 0, 1) := by decide +kernel
theorem dX9_erase_74 : decode cX9_erase 74 = .ok (.invokevirtual 218, 3) := by decide +kernel
theorem dX9_erase_77 : decode cX9_erase 77 = .ok (.if_icmp .ge 19, 3) := by decide +kernel
theorem dX9_erase_80 : decode cX9_erase 80 = .ok (.aload_n 0, 1) := by decide +kernel
theorem dX9_erase_81 : decode cX9_erase 81 = .ok (.iload 5, 2) := by decide +kernel
theorem dX9_erase_83 : decode cX9_erase 83 = .ok (.iconst 1, 1) := by decide +kernel
theorem dX9_erase_84 : decode cX9_erase 84 = .ok (.iadd, 1) := by decide +kernel
theorem dX9_erase_85 : decode cX9_erase 85 = .ok (.iload 5, 2) := by decide +kernel
theorem dX9_erase_87 : decode cX9_erase 87 = .ok (.invokevirtual 270, 3) := by decide +kernel
theorem dX9_erase_90 : decode cX9_erase 90 = .ok (.iinc 5 1, 3) := by decide +kernel
theorem dX9_erase_93 : decode cX9_erase 93 = .ok (.goto (-22), 3) := by decide +kernel
theorem dX9_erase_96 : decode cX9_erase 96 = .ok (.aload_n 0, 1) := by decide +kernel
theorem dX9_erase_97 : decode cX9_erase 97 = .ok (.invokevirtual 273, 3) := by decide +kernel
theorem dX9_erase_100 : decode cX9_erase 100 = .ok (.iload 4, 2) := by decide +kernel
theorem dX9_erase_102 : decode cX9_erase 102 = .ok (.ireturn, 1) := by decide +kernel
theorem dX9_told_0 : decode cX9_told 0 = .ok (.aload_n 0, 1) := by decide +kernel
theorem dX9_told_1 : decode cX9_told 1 = .ok (.iconst 0, 1) := by decide +kernel
theorem dX9_told_2 : decode cX9_told 2 = .ok (.putfield 48, 3) := by decide +kernel
theorem dX9_told_5 : decode cX9_told 5 = .ok (.aload_n 0, 1) := by decide +kernel
theorem dX9_told_6 : decode cX9_told 6 = .ok (.iload_n 1, 1) := by decide +kernel
theorem dX9_told_7 : decode cX9_told 7 = .ok (.i2l, 1) := by decide +kernel
theorem dX9_told_8 : decode cX9_told 8 = .ok (.lconst 0, 1) := by decide +kernel
theorem dX9_told_9 : decode cX9_told 9 = .ok (.ldc2_w 279, 3) := by decide +kernel
theorem dX9_told_12 : decode cX9_told 12 = .ok (.invokestatic 107, 3) := by decide +kernel
theorem dX9_told_15 : decode cX9_told 15 = .ok (.ifCond .ne 7, 3) := by decide +kernel
theorem dX9_told_18 : decode cX9_told 18 = .ok (.iconst 1, 1) := by decide +kernel
theorem dX9_told_19 : decode cX9_told 19 = .ok (.goto 4, 3) := by decide +kernel
theorem dX9_told_22 : decode cX9_told 22 = .ok (.iconst 0, 1) := by decide +kernel
theorem dX9_told_23 : decode cX9_told 23 = .ok (.iconst 1, 1) := by decide +kernel
theorem dX9_told_24 : decode cX9_told 24 = .ok (.iconst 1, 1) := by decide +kernel
theorem dX9_told_25 : decode cX9_told 25 = .ok (.invokevirtual 204, 3) := by decide +kernel
theorem dX9_told_28 : decode cX9_told 28 = .ok (.ifCond .eq 5, 3) := by decide +kernel
theorem dX9_told_31 : decode cX9_told 31 = .ok (.iconst 0, 1) := by decide +kernel
theorem dX9_told_32 : decode cX9_told 32 = .ok (.ireturn, 1) := by decide +kernel
theorem dX9_told_33 : decode cX9_told 33 = .ok (.iload_n 1, 1) := by decide +kernel
theorem dX9_told_34 : decode cX9_told 34 = .ok (.bipush 8, 2) := by decide +kernel
theorem dX9_told_36 : decode cX9_told 36 = .ok (.if_icmp .ge 10, 3) := by decide +kernel
theorem dX9_told_39 : decode cX9_told 39 = .ok (.aload_n 0, 1) := by decide +kernel
theorem dX9_told_40 : decode cX9_told 40 = .ok (.getfield 20, 3) := by decide +kernel
theorem dX9_told_43 : decode cX9_told 43 = .ok (.iload_n 1, 1) := by decide +kernel
theorem dX9_told_44 : decode cX9_told 44 = .ok (.iaload, 1) := by decide +kernel
theorem dX9_told_45 : decode cX9_told 45 = .ok (.ireturn, 1) := by decide +kernel
theorem dX9_told_46 : decode cX9_told 46 = .ok (.aload_n 0, 1) := by decide +kernel
theorem dX9_told_47 : decode cX9_told 47 = .ok (.aload_n 0, 1) := by decide +kernel
theorem dX9_told_48 : decode cX9_told 48 = .ok (.getfield 20, 3) := by decide +kernel
theorem dX9_told_51 : decode cX9_told 51 = .ok (.iconst 0, 1) := by decide +kernel
theorem dX9_told_52 : decode cX9_told 52 = .ok (.invokevirtual 255, 3) := by decide +kernel
theorem dX9_told_55 : decode cX9_told 55 = .ok (.iload_n 1, 1) := by decide +kernel
theorem dX9_told_56 : decode cX9_told 56 = .ok (.bipush 8, 2) := by decide +kernel
theorem dX9_told_58 : decode cX9_told 58 = .ok (.if_icmp .ne 10, 3) := by decide +kernel
theorem dX9_told_61 : decode cX9_told 61 = .ok (.aload_n 0, 1) := by decide +kernel
theorem dX9_told_62 : decode cX9_told 62 = .ok (.getfield 228, 3) := by decide +kernel
theorem dX9_told_65 : decode cX9_told 65 = .ok (.goto 20, 3) := by decide +kernel
theorem dX9_told_68 : decode cX9_told 68 = .ok (.iload_n 1, 1) := by decide +kernel
theorem dX9_told_69 : decode cX9_told 69 = .ok (.bipush 9, 2) := by decide +kernel
theorem dX9_told_71 : decode cX9_told 71 = .ok (.if_icmp .ne 10, 3) := by decide +kernel
theorem dX9_told_74 : decode cX9_told 74 = .ok (.aload_n 0, 1) := by decide +kernel
theorem dX9_told_75 : decode cX9_told 75 = .ok (.getfield 51, 3) := by decide +kernel
theorem dX9_told_78 : decode cX9_told 78 = .ok (.goto 7, 3) := by decide +kernel
theorem dX9_told_81 : decode cX9_told 81 = .ok (.aload_n 0, 1) := by decide +kernel
theorem dX9_told_82 : decode cX9_told 82 = .ok (.getfield 235, 3) := by decide +kernel
theorem dX9_told_85 : decode cX9_told 85 = .ok (.ireturn, 1) := by decide +kernel
theorem dX9_voter_0 : decode cX9_voter 0 = .ok (.aload_n 0, 1) := by decide +kernel
theorem dX9_voter_1 : decode cX9_voter 1 = .ok (.iconst 0, 1) := by decide +kernel
theorem dX9_voter_2 : decode cX9_voter 2 = .ok (.putfield 48, 3) := by decide +kernel
theorem dX9_voter_5 : decode cX9_voter 5 = .ok (.aload_n 0, 1) := by decide +kernel
theorem dX9_voter_6 : decode cX9_voter 6 = .ok (.aload_n 0, 1) := by decide +kernel
theorem dX9_voter_7 : decode cX9_voter 7 = .ok (.iload_n 1, 1) := by decide +kernel
theorem dX9_voter_8 : decode cX9_voter 8 = .ok (.invokevirtual 262, 3) := by decide +kernel
theorem dX9_voter_11 : decode cX9_voter 11 = .ok (.ifCond .ne 7, 3) := by decide +kernel
theorem dX9_voter_14 : decode cX9_voter 14 = .ok (.iconst 1, 1) := by decide +kernel
theorem dX9_voter_15 : decode cX9_voter 15 = .ok (.goto 4, 3) := by decide +kernel
theorem dX9_voter_18 : decode cX9_voter 18 = .ok (.iconst 0, 1) := by decide +kernel
theorem dX9_voter_19 : decode cX9_voter 19 = .ok (.iconst 1, 1) := by decide +kernel
theorem dX9_voter_20 : decode cX9_voter 20 = .ok (.iconst 0, 1) := by decide +kernel
theorem dX9_voter_21 : decode cX9_voter 21 = .ok (.invokevirtual 204, 3) := by decide +kernel
theorem dX9_voter_24 : decode cX9_voter 24 = .ok (.ifCond .ne 29, 3) := by decide +kernel
theorem dX9_voter_27 : decode cX9_voter 27 = .ok (.aload_n 0, 1) := by decide +kernel
theorem dX9_voter_28 : decode cX9_voter 28 = .ok (.iload_n 2, 1) := by decide +kernel
theorem dX9_voter_29 : decode cX9_voter 29 = .ok (.i2l, 1) := by decide +kernel
theorem dX9_voter_30 : decode cX9_voter 30 = .ok (.lconst 0, 1) := by decide +kernel
theorem dX9_voter_31 : decode cX9_voter 31 = .ok (.ldc2_w 281, 3) := by decide +kernel
theorem dX9_voter_34 : decode cX9_voter 34 = .ok (.invokestatic 107, 3) := by decide +kernel
theorem dX9_voter_37 : decode cX9_voter 37 = .ok (.ifCond .ne 7, 3) := by decide +kernel
theorem dX9_voter_40 : decode cX9_voter 40 = .ok (.iconst 1, 1) := by decide +kernel
theorem dX9_voter_41 : decode cX9_voter 41 = .ok (.goto 4, 3) := by decide +kernel
theorem dX9_voter_44 : decode cX9_voter 44 = .ok (.iconst 0, 1) := by decide +kernel
theorem dX9_voter_45 : decode cX9_voter 45 = .ok (.iconst 2, 1) := by decide +kernel
theorem dX9_voter_46 : decode cX9_voter 46 = .ok (.iconst 1, 1) := by decide +kernel
theorem dX9_voter_47 : decode cX9_voter 47 = .ok (.invokevirtual 204, 3) := by decide +kernel
theorem dX9_voter_50 : decode cX9_voter 50 = .ok (.ifCond .eq 5, 3) := by decide +kernel
theorem dX9_voter_53 : decode cX9_voter 53 = .ok (.iconst 0, 1) := by decide +kernel
theorem dX9_voter_54 : decode cX9_voter 54 = .ok (.ireturn, 1) := by decide +kernel
theorem dX9_voter_55 : decode cX9_voter 55 = .ok (.iload_n 2, 1) := by decide +kernel
theorem dX9_voter_56 : decode cX9_voter 56 = .ok (.iconst 2, 1) := by decide +kernel
theorem dX9_voter_57 : decode cX9_voter 57 = .ok (.if_icmp .ge 16, 3) := by decide +kernel
theorem dX9_voter_60 : decode cX9_voter 60 = .ok (.aload_n 0, 1) := by decide +kernel
theorem dX9_voter_61 : decode cX9_voter 61 = .ok (.getfield 20, 3) := by decide +kernel
theorem dX9_voter_64 : decode cX9_voter 64 = .ok (.iload_n 1, 1) := by decide +kernel
theorem dX9_voter_65 : decode cX9_voter 65 = .ok (.iconst 1, 1) := by decide +kernel
theorem dX9_voter_66 : decode cX9_voter 66 = .ok (.iload_n 2, 1) := by decide +kernel
theorem dX9_voter_67 : decode cX9_voter 67 = .ok (.iadd, 1) := by decide +kernel
theorem dX9_voter_68 : decode cX9_voter 68 = .ok (.invokestatic 111, 3) := by decide +kernel
theorem dX9_voter_71 : decode cX9_voter 71 = .ok (.iaload, 1) := by decide +kernel
theorem dX9_voter_72 : decode cX9_voter 72 = .ok (.ireturn, 1) := by decide +kernel
theorem dX9_voter_73 : decode cX9_voter 73 = .ok (.aload_n 0, 1) := by decide +kernel
theorem dX9_voter_74 : decode cX9_voter 74 = .ok (.aload_n 0, 1) := by decide +kernel
theorem dX9_voter_75 : decode cX9_voter 75 = .ok (.getfield 20, 3) := by decide +kernel
theorem dX9_voter_78 : decode cX9_voter 78 = .ok (.iconst 0, 1) := by decide +kernel
theorem dX9_voter_79 : decode cX9_voter 79 = .ok (.invokevirtual 255, 3) := by decide +kernel
theorem dX9_voter_82 : decode cX9_voter 82 = .ok (.iconst 0, 1) := by decide +kernel
theorem dX9_voter_83 : decode cX9_voter 83 = .ok (.istore_n 3, 1) := by decide +kernel
theorem dX9_voter_84 : decode cX9_voter 84 = .ok (.iconst 0, 1) := by decide +kernel
theorem dX9_voter_85 : decode cX9_voter 85 = .ok (.istore 4, 2) := by decide +kernel
theorem dX9_voter_87 : decode cX9_voter 87 = .ok (.iload 4, 2) := by decide +kernel
theorem dX9_voter_89 : decode cX9_voter 89 = .ok (.aload_n 0, 1) := by decide +kernel
theorem dX9_voter_90 : decode cX9_voter 90 = .ok (.invokevirtual 218, 3) := by decide +kernel
theorem dX9_voter_93 : decode cX9_voter 93 = .ok (.if_icmp .ge 43, 3) := by decide +kernel
theorem dX9_voter_96 : decode cX9_voter 96 = .ok (.iload_n 3, 1) := by decide +kernel
theorem dX9_voter_97 : decode cX9_voter 97 = .ok (.aload_n 0, 1) := by decide +kernel
theorem dX9_voter_98 : decode cX9_voter 98 = .ok (.getfield 34, 3) := by decide +kernel
theorem dX9_voter_101 : decode cX9_voter 101 = .ok (.iload 4, 2) := by decide +kernel
theorem dX9_voter_103 : decode cX9_voter 103 = .ok (.iaload, 1) := by decide +kernel
theorem dX9_voter_104 : decode cX9_voter 104 = .ok (.iload_n 1, 1) := by decide +kernel
theorem dX9_voter_105 : decode cX9_voter 105 = .ok (.if_icmp .ne 22, 3) := by decide +kernel
theorem dX9_voter_108 : decode cX9_voter 108 = .ok (.iload_n 2, 1) := by decide +kernel
theorem dX9_voter_109 : decode cX9_voter 109 = .ok (.iconst 2, 1) := by decide +kernel
theorem dX9_voter_110 : decode cX9_voter 110 = .ok (.if_icmp .eq 13, 3) := by decide +kernel
theorem dX9_voter_113 : decode cX9_voter 113 = .ok (.aload_n 0, 1) := by decide +kernel
theorem dX9_voter_114 : decode cX9_voter 114 = .ok (.getfield 31, 3) := by decide +kernel
theorem dX9_voter_117 : decode cX9_voter 117 = .ok (.iload 4, 2) := by decide +kernel
theorem dX9_voter_119 : decode cX9_voter 119 = .ok (.iaload, 1) := by decide +kernel
theorem dX9_voter_120 : decode cX9_voter 120 = .ok (.ifCond .ne 7, 3) := by decide +kernel
theorem dX9_voter_123 : decode cX9_voter 123 = .ok (.iconst 1, 1) := by decide +kernel
theorem dX9_voter_124 : decode cX9_voter 124 = .ok (.goto 4, 3) := by decide +kernel
theorem dX9_voter_127 : decode cX9_voter 127 = .ok (.iconst 0, 1) := by decide +kernel
theorem dX9_voter_128 : decode cX9_voter 128 = .ok (.iadd, 1) := by decide +kernel
theorem dX9_voter_129 : decode cX9_voter 129 = .ok (.istore_n 3, 1) := by decide +kernel
theorem dX9_voter_130 : decode cX9_voter 130 = .ok (.iinc 4 1, 3) := by decide +kernel
theorem dX9_voter_133 : decode cX9_voter 133 = .ok (.goto (-46), 3) := by decide +kernel
theorem dX9_voter_136 : decode cX9_voter 136 = .ok (.iload_n 3, 1) := by decide +kernel
theorem dX9_voter_137 : decode cX9_voter 137 = .ok (.ireturn, 1) := by decide +kernel
theorem dX9_letter_0 : decode cX9_letter 0 = .ok (.aload_n 0, 1) := by decide +kernel
theorem dX9_letter_1 : decode cX9_letter 1 = .ok (.iconst 0, 1) := by decide +kernel
theorem dX9_letter_2 : decode cX9_letter 2 = .ok (.putfield 48, 3) := by decide +kernel
theorem dX9_letter_5 : decode cX9_letter 5 = .ok (.aload_n 0, 1) := by decide +kernel
theorem dX9_letter_6 : decode cX9_letter 6 = .ok (.iload_n 1, 1) := by decide +kernel
theorem dX9_letter_7 : decode cX9_letter 7 = .ok (.invokevirtual 262, 3) := by decide +kernel
theorem dX9_letter_10 : decode cX9_letter 10 = .ok (.ifCond .eq 16, 3) := by decide +kernel
theorem dX9_letter_13 : decode cX9_letter 13 = .ok (.aload_n 0, 1) := by decide +kernel
theorem dX9_letter_14 : decode cX9_letter 14 = .ok (.getfield 20, 3) := by decide +kernel
theorem dX9_letter_17 : decode cX9_letter 17 = .ok (.iload_n 1, 1) := by decide +kernel
theorem dX9_letter_18 : decode cX9_letter 18 = .ok (.iconst 0, 1) := by decide +kernel
theorem dX9_letter_19 : decode cX9_letter 19 = .ok (.invokestatic 111, 3) := by decide +kernel
theorem dX9_letter_22 : decode cX9_letter 22 = .ok (.iaload, 1) := by decide +kernel
theorem dX9_letter_23 : decode cX9_letter 23 = .ok (.goto 4, 3) := by decide +kernel
theorem dX9_letter_26 : decode cX9_letter 26 = .ok (.iconst 0, 1) := by decide +kernel
theorem dX9_letter_27 : decode cX9_letter 27 = .ok (.istore_n 3, 1) := by decide +kernel
theorem dX9_letter_28 : decode cX9_letter 28 = .ok (.iconst 0, 1) := by decide +kernel
theorem dX9_letter_29 : decode cX9_letter 29 = .ok (.istore 4, 2) := by decide +kernel
theorem dX9_letter_31 : decode cX9_letter 31 = .ok (.iload_n 3, 1) := by decide +kernel
theorem dX9_letter_32 : decode cX9_letter 32 = .ok (.istore 5, 2) := by decide +kernel
theorem dX9_letter_34 : decode cX9_letter 34 = .ok (.iload 5, 2) := by decide +kernel
theorem dX9_letter_36 : decode cX9_letter 36 = .ok (.ifCond .le 16, 3) := by decide +kernel
theorem dX9_letter_39 : decode cX9_letter 39 = .ok (.iinc 4 1, 3) := by decide +kernel
theorem dX9_letter_42 : decode cX9_letter 42 = .ok (.iload 5, 2) := by decide +kernel
theorem dX9_letter_44 : decode cX9_letter 44 = .ok (.bipush 27, 2) := by decide +kernel
theorem dX9_letter_46 : decode cX9_letter 46 = .ok (.idiv, 1) := by decide +kernel
theorem dX9_letter_47 : decode cX9_letter 47 = .ok (.istore 5, 2) := by decide +kernel
theorem dX9_letter_49 : decode cX9_letter 49 = .ok (.goto (-15), 3) := by decide +kernel
theorem dX9_letter_52 : decode cX9_letter 52 = .ok (.aload_n 0, 1) := by decide +kernel
theorem dX9_letter_53 : decode cX9_letter 53 = .ok (.aload_n 0, 1) := by decide +kernel
theorem dX9_letter_54 : decode cX9_letter 54 = .ok (.iload_n 1, 1) := by decide +kernel
theorem dX9_letter_55 : decode cX9_letter 55 = .ok (.invokevirtual 262, 3) := by decide +kernel
theorem dX9_letter_58 : decode cX9_letter 58 = .ok (.ifCond .eq 17, 3) := by decide +kernel
theorem dX9_letter_61 : decode cX9_letter 61 = .ok (.iload_n 2, 1) := by decide +kernel
theorem dX9_letter_62 : decode cX9_letter 62 = .ok (.i2l, 1) := by decide +kernel
theorem dX9_letter_63 : decode cX9_letter 63 = .ok (.lconst 0, 1) := by decide +kernel
theorem dX9_letter_64 : decode cX9_letter 64 = .ok (.iload 4, 2) := by decide +kernel
theorem dX9_letter_66 : decode cX9_letter 66 = .ok (.iconst 1, 1) := by decide +kernel
theorem dX9_letter_67 : decode cX9_letter 67 = .ok (.isub, 1) := by decide +kernel
theorem dX9_letter_68 : decode cX9_letter 68 = .ok (.i2l, 1) := by decide +kernel
theorem dX9_letter_69 : decode cX9_letter 69 = .ok (.invokestatic 107, 3) := by decide +kernel
theorem dX9_letter_72 : decode cX9_letter 72 = .ok (.ifCond .ne 7, 3) := by decide +kernel
theorem dX9_letter_75 : decode cX9_letter 75 = .ok (.iconst 1, 1) := by decide +kernel
theorem dX9_letter_76 : decode cX9_letter 76 = .ok (.goto 4, 3) := by decide +kernel
theorem dX9_letter_79 : decode cX9_letter 79 = .ok (.iconst 0, 1) := by decide +kernel
theorem dX9_letter_80 : decode cX9_letter 80 = .ok (.iconst 1, 1) := by decide +kernel
theorem dX9_letter_81 : decode cX9_letter 81 = .ok (.iconst 0, 1) := by decide +kernel
theorem dX9_letter_82 : decode cX9_letter 82 = .ok (.invokevirtual 204, 3) := by decide +kernel
theorem dX9_letter_85 : decode cX9_letter 85 = .ok (.ifCond .eq 5, 3) := by decide +kernel
theorem dX9_letter_88 : decode cX9_letter 88 = .ok (.iconst 0, 1) := by decide +kernel
theorem dX9_letter_89 : decode cX9_letter 89 = .ok (.ireturn, 1) := by decide +kernel
theorem dX9_letter_90 : decode cX9_letter 90 = .ok (.iload 4, 2) := by decide +kernel
theorem dX9_letter_92 : decode cX9_letter 92 = .ok (.iconst 1, 1) := by decide +kernel
theorem dX9_letter_93 : decode cX9_letter 93 = .ok (.isub, 1) := by decide +kernel
theorem dX9_letter_94 : decode cX9_letter 94 = .ok (.istore 5, 2) := by decide +kernel
theorem dX9_letter_96 : decode cX9_letter 96 = .ok (.iload 5, 2) := by decide +kernel
theorem dX9_letter_98 : decode cX9_letter 98 = .ok (.iload_n 2, 1) := by decide +kernel
theorem dX9_letter_99 : decode cX9_letter 99 = .ok (.if_icmp .le 14, 3) := by decide +kernel
theorem dX9_letter_102 : decode cX9_letter 102 = .ok (.iload_n 3, 1) := by decide +kernel
theorem dX9_letter_103 : decode cX9_letter 103 = .ok (.bipush 27, 2) := by decide +kernel
theorem dX9_letter_105 : decode cX9_letter 105 = .ok (.idiv, 1) := by decide +kernel
theorem dX9_letter_106 : decode cX9_letter 106 = .ok (.istore_n 3, 1) := by decide +kernel
theorem dX9_letter_107 : decode cX9_letter 107 = .ok (.iinc 5 (-1), 3) := by decide +kernel
theorem dX9_letter_110 : decode cX9_letter 110 = .ok (.goto (-14), 3) := by decide +kernel
theorem dX9_letter_113 : decode cX9_letter 113 = .ok (.bipush 96, 2) := by decide +kernel
theorem dX9_letter_115 : decode cX9_letter 115 = .ok (.iload_n 3, 1) := by decide +kernel
theorem dX9_letter_116 : decode cX9_letter 116 = .ok (.bipush 27, 2) := by decide +kernel
theorem dX9_letter_118 : decode cX9_letter 118 = .ok (.irem, 1) := by decide +kernel
theorem dX9_letter_119 : decode cX9_letter 119 = .ok (.iadd, 1) := by decide +kernel
theorem dX9_letter_120 : decode cX9_letter 120 = .ok (.ireturn, 1) := by decide +kernel
theorem dX9_sheet_0 : decode cX9_sheet 0 = .ok (.aload_n 0, 1) := by decide +kernel
theorem dX9_sheet_1 : decode cX9_sheet 1 = .ok (.iconst 0, 1) := by decide +kernel
theorem dX9_sheet_2 : decode cX9_sheet 2 = .ok (.putfield 48, 3) := by decide +kernel
theorem dX9_sheet_5 : decode cX9_sheet 5 = .ok (.aload_n 0, 1) := by decide +kernel
theorem dX9_sheet_6 : decode cX9_sheet 6 = .ok (.aload_n 0, 1) := by decide +kernel
theorem dX9_sheet_7 : decode cX9_sheet 7 = .ok (.iload_n 1, 1) := by decide +kernel
theorem dX9_sheet_8 : decode cX9_sheet 8 = .ok (.invokevirtual 238, 3) := by decide +kernel
theorem dX9_sheet_11 : decode cX9_sheet 11 = .ok (.ifCond .ne 7, 3) := by decide +kernel
theorem dX9_sheet_14 : decode cX9_sheet 14 = .ok (.iconst 1, 1) := by decide +kernel
theorem dX9_sheet_15 : decode cX9_sheet 15 = .ok (.goto 4, 3) := by decide +kernel
theorem dX9_sheet_18 : decode cX9_sheet 18 = .ok (.iconst 0, 1) := by decide +kernel
theorem dX9_sheet_19 : decode cX9_sheet 19 = .ok (.iconst 1, 1) := by decide +kernel
theorem dX9_sheet_20 : decode cX9_sheet 20 = .ok (.iconst 0, 1) := by decide +kernel
theorem dX9_sheet_21 : decode cX9_sheet 21 = .ok (.invokevirtual 204, 3) := by decide +kernel
theorem dX9_sheet_24 : decode cX9_sheet 24 = .ok (.ifCond .ne 29, 3) := by decide +kernel
theorem dX9_sheet_27 : decode cX9_sheet 27 = .ok (.aload_n 0, 1) := by decide +kernel
theorem dX9_sheet_28 : decode cX9_sheet 28 = .ok (.iload_n 2, 1) := by decide +kernel
theorem dX9_sheet_29 : decode cX9_sheet 29 = .ok (.i2l, 1) := by decide +kernel
theorem dX9_sheet_30 : decode cX9_sheet 30 = .ok (.lconst 0, 1) := by decide +kernel
theorem dX9_sheet_31 : decode cX9_sheet 31 = .ok (.ldc2_w 283, 3) := by decide +kernel
theorem dX9_sheet_34 : decode cX9_sheet 34 = .ok (.invokestatic 107, 3) := by decide +kernel
theorem dX9_sheet_37 : decode cX9_sheet 37 = .ok (.ifCond .ne 7, 3) := by decide +kernel
theorem dX9_sheet_40 : decode cX9_sheet 40 = .ok (.iconst 1, 1) := by decide +kernel
theorem dX9_sheet_41 : decode cX9_sheet 41 = .ok (.goto 4, 3) := by decide +kernel
theorem dX9_sheet_44 : decode cX9_sheet 44 = .ok (.iconst 0, 1) := by decide +kernel
theorem dX9_sheet_45 : decode cX9_sheet 45 = .ok (.iconst 2, 1) := by decide +kernel
theorem dX9_sheet_46 : decode cX9_sheet 46 = .ok (.iconst 1, 1) := by decide +kernel
theorem dX9_sheet_47 : decode cX9_sheet 47 = .ok (.invokevirtual 204, 3) := by decide +kernel
theorem dX9_sheet_50 : decode cX9_sheet 50 = .ok (.ifCond .eq 5, 3) := by decide +kernel
theorem dX9_sheet_53 : decode cX9_sheet 53 = .ok (.iconst 0, 1) := by decide +kernel
theorem dX9_sheet_54 : decode cX9_sheet 54 = .ok (.ireturn, 1) := by decide +kernel
theorem dX9_sheet_55 : decode cX9_sheet 55 = .ok (.aload_n 0, 1) := by decide +kernel
theorem dX9_sheet_56 : decode cX9_sheet 56 = .ok (.aload_n 0, 1) := by decide +kernel
theorem dX9_sheet_57 : decode cX9_sheet 57 = .ok (.getfield 20, 3) := by decide +kernel
theorem dX9_sheet_60 : decode cX9_sheet 60 = .ok (.iconst 0, 1) := by decide +kernel
theorem dX9_sheet_61 : decode cX9_sheet 61 = .ok (.invokevirtual 255, 3) := by decide +kernel
theorem dX9_sheet_64 : decode cX9_sheet 64 = .ok (.iload_n 2, 1) := by decide +kernel
theorem dX9_sheet_65 : decode cX9_sheet 65 = .ok (.iconst 3, 1) := by decide +kernel
theorem dX9_sheet_66 : decode cX9_sheet 66 = .ok (.if_icmp .ge 41, 3) := by decide +kernel
theorem dX9_sheet_69 : decode cX9_sheet 69 = .ok (.iload_n 2, 1) := by decide +kernel
theorem dX9_sheet_70 : decode cX9_sheet 70 = .ok (.ifCond .ne 11, 3) := by decide +kernel
theorem dX9_sheet_73 : decode cX9_sheet 73 = .ok (.aload_n 0, 1) := by decide +kernel
theorem dX9_sheet_74 : decode cX9_sheet 74 = .ok (.iload_n 1, 1) := by decide +kernel
theorem dX9_sheet_75 : decode cX9_sheet 75 = .ok (.invokevirtual 241, 3) := by decide +kernel
theorem dX9_sheet_78 : decode cX9_sheet 78 = .ok (.goto 28, 3) := by decide +kernel
theorem dX9_sheet_81 : decode cX9_sheet 81 = .ok (.iload_n 2, 1) := by decide +kernel
theorem dX9_sheet_82 : decode cX9_sheet 82 = .ok (.iconst 1, 1) := by decide +kernel
theorem dX9_sheet_83 : decode cX9_sheet 83 = .ok (.if_icmp .ne 14, 3) := by decide +kernel
theorem dX9_sheet_86 : decode cX9_sheet 86 = .ok (.aload_n 0, 1) := by decide +kernel
theorem dX9_sheet_87 : decode cX9_sheet 87 = .ok (.getfield 228, 3) := by decide +kernel
theorem dX9_sheet_90 : decode cX9_sheet 90 = .ok (.iload_n 1, 1) := by decide +kernel
theorem dX9_sheet_91 : decode cX9_sheet 91 = .ok (.ishr, 1) := by decide +kernel
theorem dX9_sheet_92 : decode cX9_sheet 92 = .ok (.iconst 1, 1) := by decide +kernel
theorem dX9_sheet_93 : decode cX9_sheet 93 = .ok (.iand, 1) := by decide +kernel
theorem dX9_sheet_94 : decode cX9_sheet 94 = .ok (.goto 12, 3) := by decide +kernel
theorem dX9_sheet_97 : decode cX9_sheet 97 = .ok (.aload_n 0, 1) := by decide +kernel
theorem dX9_sheet_98 : decode cX9_sheet 98 = .ok (.getfield 20, 3) := by decide +kernel
theorem dX9_sheet_101 : decode cX9_sheet 101 = .ok (.bipush 57, 2) := by decide +kernel
theorem dX9_sheet_103 : decode cX9_sheet 103 = .ok (.iload_n 1, 1) := by decide +kernel
theorem dX9_sheet_104 : decode cX9_sheet 104 = .ok (.iadd, 1) := by decide +kernel
theorem dX9_sheet_105 : decode cX9_sheet 105 = .ok (.iaload, 1) := by decide +kernel
theorem dX9_sheet_106 : decode cX9_sheet 106 = .ok (.ireturn, 1) := by decide +kernel
theorem dX9_sheet_107 : decode cX9_sheet 107 = .ok (.iconst 0, 1) := by decide +kernel
theorem dX9_sheet_108 : decode cX9_sheet 108 = .ok (.istore_n 3, 1) := by decide +kernel
theorem dX9_sheet_109 : decode cX9_sheet 109 = .ok (.iconst 0, 1) := by decide +kernel
theorem dX9_sheet_110 : decode cX9_sheet 110 = .ok (.istore 4, 2) := by decide +kernel
theorem dX9_sheet_112 : decode cX9_sheet 112 = .ok (.iload 4, 2) := by decide +kernel
theorem dX9_sheet_114 : decode cX9_sheet 114 = .ok (.aload_n 0, 1) := by decide +kernel
theorem dX9_sheet_115 : decode cX9_sheet 115 = .ok (.invokevirtual 218, 3) := by decide +kernel
theorem dX9_sheet_118 : decode cX9_sheet 118 = .ok (.if_icmp .ge 45, 3) := by decide +kernel
theorem dX9_sheet_121 : decode cX9_sheet 121 = .ok (.iload_n 3, 1) := by decide +kernel
theorem dX9_sheet_122 : decode cX9_sheet 122 = .ok (.aload_n 0, 1) := by decide +kernel
theorem dX9_sheet_123 : decode cX9_sheet 123 = .ok (.getfield 20, 3) := by decide +kernel
theorem dX9_sheet_126 : decode cX9_sheet 126 = .ok (.iload 4, 2) := by decide +kernel
theorem dX9_sheet_128 : decode cX9_sheet 128 = .ok (.iconst 2, 1) := by decide +kernel
theorem dX9_sheet_129 : decode cX9_sheet 129 = .ok (.invokestatic 124, 3) := by decide +kernel
theorem dX9_sheet_132 : decode cX9_sheet 132 = .ok (.iaload, 1) := by decide +kernel
theorem dX9_sheet_133 : decode cX9_sheet 133 = .ok (.iload_n 1, 1) := by decide +kernel
theorem dX9_sheet_134 : decode cX9_sheet 134 = .ok (.if_icmp .ne 20, 3) := by decide +kernel
theorem dX9_sheet_137 : decode cX9_sheet 137 = .ok (.aload_n 0, 1) := by decide +kernel
theorem dX9_sheet_138 : decode cX9_sheet 138 = .ok (.getfield 31, 3) := by decide +kernel
theorem dX9_sheet_141 : decode cX9_sheet 141 = .ok (.iload 4, 2) := by decide +kernel
theorem dX9_sheet_143 : decode cX9_sheet 143 = .ok (.iaload, 1) := by decide +kernel
theorem dX9_sheet_144 : decode cX9_sheet 144 = .ok (.iload_n 2, 1) := by decide +kernel
theorem dX9_sheet_145 : decode cX9_sheet 145 = .ok (.iconst 3, 1) := by decide +kernel
theorem dX9_sheet_146 : decode cX9_sheet 146 = .ok (.isub, 1) := by decide +kernel
theorem dX9_sheet_147 : decode cX9_sheet 147 = .ok (.if_icmp .ne 7, 3) := by decide +kernel
theorem dX9_sheet_150 : decode cX9_sheet 150 = .ok (.iconst 1, 1) := by decide +kernel
theorem dX9_sheet_151 : decode cX9_sheet 151 = .ok (.goto 4, 3) := by decide +kernel
theorem dX9_sheet_154 : decode cX9_sheet 154 = .ok (.iconst 0, 1) := by decide +kernel
theorem dX9_sheet_155 : decode cX9_sheet 155 = .ok (.iadd, 1) := by decide +kernel
theorem dX9_sheet_156 : decode cX9_sheet 156 = .ok (.istore_n 3, 1) := by decide +kernel
theorem dX9_sheet_157 : decode cX9_sheet 157 = .ok (.iinc 4 1, 3) := by decide +kernel
theorem dX9_sheet_160 : decode cX9_sheet 160 = .ok (.goto (-48), 3) := by decide +kernel
theorem dX9_sheet_163 : decode cX9_sheet 163 = .ok (.iload_n 3, 1) := by decide +kernel
theorem dX9_sheet_164 : decode cX9_sheet 164 = .ok (.ireturn, 1) := by decide +kernel
theorem dX9_line_0 : decode cX9_line 0 = .ok (.aload_n 0, 1) := by decide +kernel
theorem dX9_line_1 : decode cX9_line 1 = .ok (.iconst 0, 1) := by decide +kernel
theorem dX9_line_2 : decode cX9_line 2 = .ok (.putfield 48, 3) := by decide +kernel
theorem dX9_line_5 : decode cX9_line 5 = .ok (.aload_n 0, 1) := by decide +kernel
theorem dX9_line_6 : decode cX9_line 6 = .ok (.aload_n 0, 1) := by decide +kernel
theorem dX9_line_7 : decode cX9_line 7 = .ok (.iload_n 1, 1) := by decide +kernel
theorem dX9_line_8 : decode cX9_line 8 = .ok (.iload_n 2, 1) := by decide +kernel
theorem dX9_line_9 : decode cX9_line 9 = .ok (.invokevirtual 276, 3) := by decide +kernel
theorem dX9_line_12 : decode cX9_line 12 = .ok (.ifCond .ne 7, 3) := by decide +kernel
theorem dX9_line_15 : decode cX9_line 15 = .ok (.iconst 1, 1) := by decide +kernel
theorem dX9_line_16 : decode cX9_line 16 = .ok (.goto 4, 3) := by decide +kernel
theorem dX9_line_19 : decode cX9_line 19 = .ok (.iconst 0, 1) := by decide +kernel
theorem dX9_line_20 : decode cX9_line 20 = .ok (.iconst 1, 1) := by decide +kernel
theorem dX9_line_21 : decode cX9_line 21 = .ok (.iconst 0, 1) := by decide +kernel
theorem dX9_line_22 : decode cX9_line 22 = .ok (.invokevirtual 204, 3) := by decide +kernel
theorem dX9_line_25 : decode cX9_line 25 = .ok (.ifCond .ne 29, 3) := by decide +kernel
theorem dX9_line_28 : decode cX9_line 28 = .ok (.aload_n 0, 1) := by decide +kernel
theorem dX9_line_29 : decode cX9_line 29 = .ok (.iload_n 3, 1) := by decide +kernel
theorem dX9_line_30 : decode cX9_line 30 = .ok (.i2l, 1) := by decide +kernel
theorem dX9_line_31 : decode cX9_line 31 = .ok (.lconst 0, 1) := by decide +kernel
theorem dX9_line_32 : decode cX9_line 32 = .ok (.ldc2_w 285, 3) := by decide +kernel
theorem dX9_line_35 : decode cX9_line 35 = .ok (.invokestatic 107, 3) := by decide +kernel
theorem dX9_line_38 : decode cX9_line 38 = .ok (.ifCond .ne 7, 3) := by decide +kernel
theorem dX9_line_41 : decode cX9_line 41 = .ok (.iconst 1, 1) := by decide +kernel
theorem dX9_line_42 : decode cX9_line 42 = .ok (.goto 4, 3) := by decide +kernel
theorem dX9_line_45 : decode cX9_line 45 = .ok (.iconst 0, 1) := by decide +kernel
theorem dX9_line_46 : decode cX9_line 46 = .ok (.iconst 2, 1) := by decide +kernel
theorem dX9_line_47 : decode cX9_line 47 = .ok (.iconst 1, 1) := by decide +kernel
theorem dX9_line_48 : decode cX9_line 48 = .ok (.invokevirtual 204, 3) := by decide +kernel
theorem dX9_line_51 : decode cX9_line 51 = .ok (.ifCond .eq 5, 3) := by decide +kernel
theorem dX9_line_54 : decode cX9_line 54 = .ok (.iconst 0, 1) := by decide +kernel
theorem dX9_line_55 : decode cX9_line 55 = .ok (.ireturn, 1) := by decide +kernel
theorem dX9_line_56 : decode cX9_line 56 = .ok (.aload_n 0, 1) := by decide +kernel
theorem dX9_line_57 : decode cX9_line 57 = .ok (.aload_n 0, 1) := by decide +kernel
theorem dX9_line_58 : decode cX9_line 58 = .ok (.getfield 20, 3) := by decide +kernel
theorem dX9_line_61 : decode cX9_line 61 = .ok (.iconst 0, 1) := by decide +kernel
theorem dX9_line_62 : decode cX9_line 62 = .ok (.invokevirtual 255, 3) := by decide +kernel
theorem dX9_line_65 : decode cX9_line 65 = .ok (.aload_n 0, 1) := by decide +kernel
theorem dX9_line_66 : decode cX9_line 66 = .ok (.iload_n 1, 1) := by decide +kernel
theorem dX9_line_67 : decode cX9_line 67 = .ok (.iload_n 2, 1) := by decide +kernel
theorem dX9_line_68 : decode cX9_line 68 = .ok (.invokevirtual 267, 3) := by decide +kernel
theorem dX9_line_71 : decode cX9_line 71 = .ok (.istore 4, 2) := by decide +kernel
theorem dX9_line_73 : decode cX9_line 73 = .ok (.iload_n 3, 1) := by decide +kernel
theorem dX9_line_74 : decode cX9_line 74 = .ok (.tableswitch 70 0 3 #[30, 42, 54, 62], 30) := by decide +kernel
theorem dX9_line_104 : decode cX9_line 104 = .ok (.aload_n 0, 1) := by decide +kernel
theorem dX9_line_105 : decode cX9_line 105 = .ok (.getfield 20, 3) := by decide +kernel
theorem dX9_line_108 : decode cX9_line 108 = .ok (.iload 4, 2) := by decide +kernel
theorem dX9_line_110 : decode cX9_line 110 = .ok (.iconst 1, 1) := by decide +kernel
theorem dX9_line_111 : decode cX9_line 111 = .ok (.invokestatic 124, 3) := by decide +kernel
theorem dX9_line_114 : decode cX9_line 114 = .ok (.iaload, 1) := by decide +kernel
theorem dX9_line_115 : decode cX9_line 115 = .ok (.ireturn, 1) := by decide +kernel
theorem dX9_line_116 : decode cX9_line 116 = .ok (.aload_n 0, 1) := by decide +kernel
theorem dX9_line_117 : decode cX9_line 117 = .ok (.getfield 20, 3) := by decide +kernel
theorem dX9_line_120 : decode cX9_line 120 = .ok (.iload 4, 2) := by decide +kernel
theorem dX9_line_122 : decode cX9_line 122 = .ok (.iconst 3, 1) := by decide +kernel
theorem dX9_line_123 : decode cX9_line 123 = .ok (.invokestatic 124, 3) := by decide +kernel
theorem dX9_line_126 : decode cX9_line 126 = .ok (.iaload, 1) := by decide +kernel
theorem dX9_line_127 : decode cX9_line 127 = .ok (.ireturn, 1) := by decide +kernel
theorem dX9_line_128 : decode cX9_line 128 = .ok (.aload_n 0, 1) := by decide +kernel
theorem dX9_line_129 : decode cX9_line 129 = .ok (.getfield 34, 3) := by decide +kernel
theorem dX9_line_132 : decode cX9_line 132 = .ok (.iload 4, 2) := by decide +kernel
theorem dX9_line_134 : decode cX9_line 134 = .ok (.iaload, 1) := by decide +kernel
theorem dX9_line_135 : decode cX9_line 135 = .ok (.ireturn, 1) := by decide +kernel
theorem dX9_line_136 : decode cX9_line 136 = .ok (.aload_n 0, 1) := by decide +kernel
theorem dX9_line_137 : decode cX9_line 137 = .ok (.getfield 31, 3) := by decide +kernel
theorem dX9_line_140 : decode cX9_line 140 = .ok (.iload 4, 2) := by decide +kernel
theorem dX9_line_142 : decode cX9_line 142 = .ok (.iaload, 1) := by decide +kernel
theorem dX9_line_143 : decode cX9_line 143 = .ok (.ireturn, 1) := by decide +kernel
theorem dX9_line_144 : decode cX9_line 144 = .ok (.aload_n 0, 1) := by decide +kernel
theorem dX9_line_145 : decode cX9_line 145 = .ok (.iload_n 3, 1) := by decide +kernel
theorem dX9_line_146 : decode cX9_line 146 = .ok (.iconst 4, 1) := by decide +kernel
theorem dX9_line_147 : decode cX9_line 147 = .ok (.isub, 1) := by decide +kernel
theorem dX9_line_148 : decode cX9_line 148 = .ok (.iload 4, 2) := by decide +kernel
theorem dX9_line_150 : decode cX9_line 150 = .ok (.invokevirtual 244, 3) := by decide +kernel
theorem dX9_line_153 : decode cX9_line 153 = .ok (.ifCond .eq 7, 3) := by decide +kernel
theorem dX9_line_156 : decode cX9_line 156 = .ok (.iconst 1, 1) := by decide +kernel
theorem dX9_line_157 : decode cX9_line 157 = .ok (.goto 4, 3) := by decide +kernel
theorem dX9_line_160 : decode cX9_line 160 = .ok (.iconst 0, 1) := by decide +kernel
theorem dX9_line_161 : decode cX9_line 161 = .ok (.ireturn, 1) := by decide +kernel
theorem dX9_judged_0 : decode cX9_judged 0 = .ok (.aload_n 0, 1) := by decide +kernel
theorem dX9_judged_1 : decode cX9_judged 1 = .ok (.iconst 0, 1) := by decide +kernel
theorem dX9_judged_2 : decode cX9_judged 2 = .ok (.putfield 48, 3) := by decide +kernel
theorem dX9_judged_5 : decode cX9_judged 5 = .ok (.aload_n 0, 1) := by decide +kernel
theorem dX9_judged_6 : decode cX9_judged 6 = .ok (.iload_n 1, 1) := by decide +kernel
theorem dX9_judged_7 : decode cX9_judged 7 = .ok (.i2l, 1) := by decide +kernel
theorem dX9_judged_8 : decode cX9_judged 8 = .ok (.lconst 0, 1) := by decide +kernel
theorem dX9_judged_9 : decode cX9_judged 9 = .ok (.ldc2_w 285, 3) := by decide +kernel
theorem dX9_judged_12 : decode cX9_judged 12 = .ok (.invokestatic 107, 3) := by decide +kernel
theorem dX9_judged_15 : decode cX9_judged 15 = .ok (.ifCond .ne 7, 3) := by decide +kernel
theorem dX9_judged_18 : decode cX9_judged 18 = .ok (.iconst 1, 1) := by decide +kernel
theorem dX9_judged_19 : decode cX9_judged 19 = .ok (.goto 4, 3) := by decide +kernel
theorem dX9_judged_22 : decode cX9_judged 22 = .ok (.iconst 0, 1) := by decide +kernel
theorem dX9_judged_23 : decode cX9_judged 23 = .ok (.iconst 1, 1) := by decide +kernel
theorem dX9_judged_24 : decode cX9_judged 24 = .ok (.iconst 1, 1) := by decide +kernel
theorem dX9_judged_25 : decode cX9_judged 25 = .ok (.invokevirtual 204, 3) := by decide +kernel
theorem dX9_judged_28 : decode cX9_judged 28 = .ok (.ifCond .eq 5, 3) := by decide +kernel
theorem dX9_judged_31 : decode cX9_judged 31 = .ok (.iconst 0, 1) := by decide +kernel
theorem dX9_judged_32 : decode cX9_judged 32 = .ok (.ireturn, 1) := by decide +kernel
theorem dX9_judged_33 : decode cX9_judged 33 = .ok (.aload_n 0, 1) := by decide +kernel
theorem dX9_judged_34 : decode cX9_judged 34 = .ok (.aload_n 0, 1) := by decide +kernel
theorem dX9_judged_35 : decode cX9_judged 35 = .ok (.getfield 20, 3) := by decide +kernel
theorem dX9_judged_38 : decode cX9_judged 38 = .ok (.iconst 0, 1) := by decide +kernel
theorem dX9_judged_39 : decode cX9_judged 39 = .ok (.invokevirtual 255, 3) := by decide +kernel
theorem dX9_judged_42 : decode cX9_judged 42 = .ok (.aload_n 0, 1) := by decide +kernel
theorem dX9_judged_43 : decode cX9_judged 43 = .ok (.iload_n 1, 1) := by decide +kernel
theorem dX9_judged_44 : decode cX9_judged 44 = .ok (.invokevirtual 287, 3) := by decide +kernel
theorem dX9_judged_47 : decode cX9_judged 47 = .ok (.ireturn, 1) := by decide +kernel
theorem dX9_passes_0 : decode cX9_passes 0 = .ok (.aload_n 0, 1) := by decide +kernel
theorem dX9_passes_1 : decode cX9_passes 1 = .ok (.iconst 0, 1) := by decide +kernel
theorem dX9_passes_2 : decode cX9_passes 2 = .ok (.putfield 48, 3) := by decide +kernel
theorem dX9_passes_5 : decode cX9_passes 5 = .ok (.aload_n 0, 1) := by decide +kernel
theorem dX9_passes_6 : decode cX9_passes 6 = .ok (.aload_n 0, 1) := by decide +kernel
theorem dX9_passes_7 : decode cX9_passes 7 = .ok (.getfield 20, 3) := by decide +kernel
theorem dX9_passes_10 : decode cX9_passes 10 = .ok (.iconst 0, 1) := by decide +kernel
theorem dX9_passes_11 : decode cX9_passes 11 = .ok (.invokevirtual 255, 3) := by decide +kernel
theorem dX9_passes_14 : decode cX9_passes 14 = .ok (.aload_n 0, 1) := by decide +kernel
theorem dX9_passes_15 : decode cX9_passes 15 = .ok (.iconst 0, 1) := by decide +kernel
theorem dX9_passes_16 : decode cX9_passes 16 = .ok (.invokevirtual 287, 3) := by decide +kernel
theorem dX9_passes_19 : decode cX9_passes 19 = .ok (.aload_n 0, 1) := by decide +kernel
theorem dX9_passes_20 : decode cX9_passes 20 = .ok (.getfield 20, 3) := by decide +kernel
theorem dX9_passes_23 : decode cX9_passes 23 = .ok (.iconst 3, 1) := by decide +kernel
theorem dX9_passes_24 : decode cX9_passes 24 = .ok (.iaload, 1) := by decide +kernel
theorem dX9_passes_25 : decode cX9_passes 25 = .ok (.if_icmp .lt 7, 3) := by decide +kernel
theorem dX9_passes_28 : decode cX9_passes 28 = .ok (.iconst 1, 1) := by decide +kernel
theorem dX9_passes_29 : decode cX9_passes 29 = .ok (.goto 4, 3) := by decide +kernel
theorem dX9_passes_32 : decode cX9_passes 32 = .ok (.iconst 0, 1) := by decide +kernel
theorem dX9_passes_33 : decode cX9_passes 33 = .ok (.ireturn, 1) := by decide +kernel
theorem dX9_ways_0 : decode cX9_ways 0 = .ok (.iload_n 1, 1) := by decide +kernel
theorem dX9_ways_1 : decode cX9_ways 1 = .ok (.ifCond .lt 8, 3) := by decide +kernel
theorem dX9_ways_4 : decode cX9_ways 4 = .ok (.iload_n 1, 1) := by decide +kernel
theorem dX9_ways_5 : decode cX9_ways 5 = .ok (.iload_n 0, 1) := by decide +kernel
theorem dX9_ways_6 : decode cX9_ways 6 = .ok (.if_icmp .le 5, 3) := by decide +kernel
theorem dX9_ways_9 : decode cX9_ways 9 = .ok (.lconst 0, 1) := by decide +kernel
theorem dX9_ways_10 : decode cX9_ways 10 = .ok (.lreturn, 1) := by decide +kernel
theorem dX9_ways_11 : decode cX9_ways 11 = .ok (.lconst 1, 1) := by decide +kernel
theorem dX9_ways_12 : decode cX9_ways 12 = .ok (.lstore_n 2, 1) := by decide +kernel
theorem dX9_ways_13 : decode cX9_ways 13 = .ok (.iconst 1, 1) := by decide +kernel
theorem dX9_ways_14 : decode cX9_ways 14 = .ok (.istore 4, 2) := by decide +kernel
theorem dX9_ways_16 : decode cX9_ways 16 = .ok (.iload 4, 2) := by decide +kernel
theorem dX9_ways_18 : decode cX9_ways 18 = .ok (.iload_n 1, 1) := by decide +kernel
theorem dX9_ways_19 : decode cX9_ways 19 = .ok (.if_icmp .gt 23, 3) := by decide +kernel
theorem dX9_ways_22 : decode cX9_ways 22 = .ok (.lload_n 2, 1) := by decide +kernel
theorem dX9_ways_23 : decode cX9_ways 23 = .ok (.iload_n 0, 1) := by decide +kernel
theorem dX9_ways_24 : decode cX9_ways 24 = .ok (.iload_n 1, 1) := by decide +kernel
theorem dX9_ways_25 : decode cX9_ways 25 = .ok (.isub, 1) := by decide +kernel
theorem dX9_ways_26 : decode cX9_ways 26 = .ok (.iload 4, 2) := by decide +kernel
theorem dX9_ways_28 : decode cX9_ways 28 = .ok (.iadd, 1) := by decide +kernel
theorem dX9_ways_29 : decode cX9_ways 29 = .ok (.i2l, 1) := by decide +kernel
theorem dX9_ways_30 : decode cX9_ways 30 = .ok (.lmul, 1) := by decide +kernel
theorem dX9_ways_31 : decode cX9_ways 31 = .ok (.iload 4, 2) := by decide +kernel
theorem dX9_ways_33 : decode cX9_ways 33 = .ok (.i2l, 1) := by decide +kernel
theorem dX9_ways_34 : decode cX9_ways 34 = .ok (.ldiv, 1) := by decide +kernel
theorem dX9_ways_35 : decode cX9_ways 35 = .ok (.lstore_n 2, 1) := by decide +kernel
theorem dX9_ways_36 : decode cX9_ways 36 = .ok (.iinc 4 1, 3) := by decide +kernel
theorem dX9_ways_39 : decode cX9_ways 39 = .ok (.goto (-23), 3) := by decide +kernel
theorem dX9_ways_42 : decode cX9_ways 42 = .ok (.lload_n 2, 1) := by decide +kernel
theorem dX9_ways_43 : decode cX9_ways 43 = .ok (.lreturn, 1) := by decide +kernel
theorem dX9_waysBy_0 : decode cX9_waysBy 0 = .ok (.lconst 0, 1) := by decide +kernel
theorem dX9_waysBy_1 : decode cX9_waysBy 1 = .ok (.lstore 5, 2) := by decide +kernel
theorem dX9_waysBy_3 : decode cX9_waysBy 3 = .ok (.iload_n 3, 1) := by decide +kernel
theorem dX9_waysBy_4 : decode cX9_waysBy 4 = .ok (.istore 7, 2) := by decide +kernel
theorem dX9_waysBy_6 : decode cX9_waysBy 6 = .ok (.iload 7, 2) := by decide +kernel
theorem dX9_waysBy_8 : decode cX9_waysBy 8 = .ok (.iload 4, 2) := by decide +kernel
theorem dX9_waysBy_10 : decode cX9_waysBy 10 = .ok (.if_icmp .gt 34, 3) := by decide +kernel
theorem dX9_waysBy_13 : decode cX9_waysBy 13 = .ok (.lload 5, 2) := by decide +kernel
theorem dX9_waysBy_15 : decode cX9_waysBy 15 = .ok (.iload_n 2, 1) := by decide +kernel
theorem dX9_waysBy_16 : decode cX9_waysBy 16 = .ok (.iload 7, 2) := by decide +kernel
theorem dX9_waysBy_18 : decode cX9_waysBy 18 = .ok (.invokestatic 290, 3) := by decide +kernel
theorem dX9_waysBy_21 : decode cX9_waysBy 21 = .ok (.aload_n 0, 1) := by decide +kernel
theorem dX9_waysBy_22 : decode cX9_waysBy 22 = .ok (.invokevirtual 218, 3) := by decide +kernel
theorem dX9_waysBy_25 : decode cX9_waysBy 25 = .ok (.iload_n 2, 1) := by decide +kernel
theorem dX9_waysBy_26 : decode cX9_waysBy 26 = .ok (.isub, 1) := by decide +kernel
theorem dX9_waysBy_27 : decode cX9_waysBy 27 = .ok (.iload_n 1, 1) := by decide +kernel
theorem dX9_waysBy_28 : decode cX9_waysBy 28 = .ok (.iload 7, 2) := by decide +kernel
theorem dX9_waysBy_30 : decode cX9_waysBy 30 = .ok (.isub, 1) := by decide +kernel
theorem dX9_waysBy_31 : decode cX9_waysBy 31 = .ok (.invokestatic 290, 3) := by decide +kernel
theorem dX9_waysBy_34 : decode cX9_waysBy 34 = .ok (.lmul, 1) := by decide +kernel
theorem dX9_waysBy_35 : decode cX9_waysBy 35 = .ok (.ladd, 1) := by decide +kernel
theorem dX9_waysBy_36 : decode cX9_waysBy 36 = .ok (.lstore 5, 2) := by decide +kernel
theorem dX9_waysBy_38 : decode cX9_waysBy 38 = .ok (.iinc 7 1, 3) := by decide +kernel
theorem dX9_waysBy_41 : decode cX9_waysBy 41 = .ok (.goto (-35), 3) := by decide +kernel
theorem dX9_waysBy_44 : decode cX9_waysBy 44 = .ok (.lload 5, 2) := by decide +kernel
theorem dX9_waysBy_46 : decode cX9_waysBy 46 = .ok (.lreturn, 1) := by decide +kernel
theorem dX9_isMuch_0 : decode cX9_isMuch 0 = .ok (.ldc2_w 294, 3) := by decide +kernel
theorem dX9_isMuch_3 : decode cX9_isMuch 3 = .ok (.lload_n 1, 1) := by decide +kernel
theorem dX9_isMuch_4 : decode cX9_isMuch 4 = .ok (.lmul, 1) := by decide +kernel
theorem dX9_isMuch_5 : decode cX9_isMuch 5 = .ok (.aload_n 0, 1) := by decide +kernel
theorem dX9_isMuch_6 : decode cX9_isMuch 6 = .ok (.getfield 20, 3) := by decide +kernel
theorem dX9_isMuch_9 : decode cX9_isMuch 9 = .ok (.bipush 7, 2) := by decide +kernel
theorem dX9_isMuch_11 : decode cX9_isMuch 11 = .ok (.iaload, 1) := by decide +kernel
theorem dX9_isMuch_12 : decode cX9_isMuch 12 = .ok (.i2l, 1) := by decide +kernel
theorem dX9_isMuch_13 : decode cX9_isMuch 13 = .ok (.aload_n 0, 1) := by decide +kernel
theorem dX9_isMuch_14 : decode cX9_isMuch 14 = .ok (.invokevirtual 218, 3) := by decide +kernel
theorem dX9_isMuch_17 : decode cX9_isMuch 17 = .ok (.iload_n 3, 1) := by decide +kernel
theorem dX9_isMuch_18 : decode cX9_isMuch 18 = .ok (.invokestatic 290, 3) := by decide +kernel
theorem dX9_isMuch_21 : decode cX9_isMuch 21 = .ok (.lmul, 1) := by decide +kernel
theorem dX9_isMuch_22 : decode cX9_isMuch 22 = .ok (.lcmp, 1) := by decide +kernel
theorem dX9_isMuch_23 : decode cX9_isMuch 23 = .ok (.ifCond .le 7, 3) := by decide +kernel
theorem dX9_isMuch_26 : decode cX9_isMuch 26 = .ok (.iconst 1, 1) := by decide +kernel
theorem dX9_isMuch_27 : decode cX9_isMuch 27 = .ok (.goto 4, 3) := by decide +kernel
theorem dX9_isMuch_30 : decode cX9_isMuch 30 = .ok (.iconst 0, 1) := by decide +kernel
theorem dX9_isMuch_31 : decode cX9_isMuch 31 = .ok (.ireturn, 1) := by decide +kernel
theorem dX9_lowOf_0 : decode cX9_lowOf 0 = .ok (.iconst 0, 1) := by decide +kernel
theorem dX9_lowOf_1 : decode cX9_lowOf 1 = .ok (.istore_n 3, 1) := by decide +kernel
theorem dX9_lowOf_2 : decode cX9_lowOf 2 = .ok (.aload_n 0, 1) := by decide +kernel
theorem dX9_lowOf_3 : decode cX9_lowOf 3 = .ok (.aload_n 0, 1) := by decide +kernel
theorem dX9_lowOf_4 : decode cX9_lowOf 4 = .ok (.iload_n 1, 1) := by decide +kernel
theorem dX9_lowOf_5 : decode cX9_lowOf 5 = .ok (.iload_n 3, 1) := by decide +kernel
theorem dX9_lowOf_6 : decode cX9_lowOf 6 = .ok (.iload_n 2, 1) := by decide +kernel
theorem dX9_lowOf_7 : decode cX9_lowOf 7 = .ok (.iload_n 1, 1) := by decide +kernel
theorem dX9_lowOf_8 : decode cX9_lowOf 8 = .ok (.invokevirtual 296, 3) := by decide +kernel
theorem dX9_lowOf_11 : decode cX9_lowOf 11 = .ok (.iload_n 1, 1) := by decide +kernel
theorem dX9_lowOf_12 : decode cX9_lowOf 12 = .ok (.invokevirtual 300, 3) := by decide +kernel
theorem dX9_lowOf_15 : decode cX9_lowOf 15 = .ok (.ifCond .ne 9, 3) := by decide +kernel
theorem dX9_lowOf_18 : decode cX9_lowOf 18 = .ok (.iinc 3 1, 3) := by decide +kernel
theorem dX9_lowOf_21 : decode cX9_lowOf 21 = .ok (.goto (-19), 3) := by decide +kernel
theorem dX9_lowOf_24 : decode cX9_lowOf 24 = .ok (.iload_n 3, 1) := by decide +kernel
theorem dX9_lowOf_25 : decode cX9_lowOf 25 = .ok (.ireturn, 1) := by decide +kernel
theorem dX9_highOf_0 : decode cX9_highOf 0 = .ok (.aload_n 0, 1) := by decide +kernel
theorem dX9_highOf_1 : decode cX9_highOf 1 = .ok (.invokevirtual 218, 3) := by decide +kernel
theorem dX9_highOf_4 : decode cX9_highOf 4 = .ok (.istore_n 3, 1) := by decide +kernel
theorem dX9_highOf_5 : decode cX9_highOf 5 = .ok (.aload_n 0, 1) := by decide +kernel
theorem dX9_highOf_6 : decode cX9_highOf 6 = .ok (.aload_n 0, 1) := by decide +kernel
theorem dX9_highOf_7 : decode cX9_highOf 7 = .ok (.iload_n 1, 1) := by decide +kernel
theorem dX9_highOf_8 : decode cX9_highOf 8 = .ok (.iload_n 3, 1) := by decide +kernel
theorem dX9_highOf_9 : decode cX9_highOf 9 = .ok (.iconst 0, 1) := by decide +kernel
theorem dX9_highOf_10 : decode cX9_highOf 10 = .ok (.iload_n 2, 1) := by decide +kernel
theorem dX9_highOf_11 : decode cX9_highOf 11 = .ok (.invokevirtual 296, 3) := by decide +kernel
theorem dX9_highOf_14 : decode cX9_highOf 14 = .ok (.iload_n 1, 1) := by decide +kernel
theorem dX9_highOf_15 : decode cX9_highOf 15 = .ok (.invokevirtual 300, 3) := by decide +kernel
theorem dX9_highOf_18 : decode cX9_highOf 18 = .ok (.ifCond .ne 9, 3) := by decide +kernel
theorem dX9_highOf_21 : decode cX9_highOf 21 = .ok (.iinc 3 (-1), 3) := by decide +kernel
theorem dX9_highOf_24 : decode cX9_highOf 24 = .ok (.goto (-19), 3) := by decide +kernel
theorem dX9_highOf_27 : decode cX9_highOf 27 = .ok (.iload_n 3, 1) := by decide +kernel
theorem dX9_highOf_28 : decode cX9_highOf 28 = .ok (.ireturn, 1) := by decide +kernel
theorem dX9_sizeOf_0 : decode cX9_sizeOf 0 = .ok (.iconst 0, 1) := by decide +kernel
theorem dX9_sizeOf_1 : decode cX9_sizeOf 1 = .ok (.istore_n 2, 1) := by decide +kernel
theorem dX9_sizeOf_2 : decode cX9_sizeOf 2 = .ok (.iconst 0, 1) := by decide +kernel
theorem dX9_sizeOf_3 : decode cX9_sizeOf 3 = .ok (.istore_n 3, 1) := by decide +kernel
theorem dX9_sizeOf_4 : decode cX9_sizeOf 4 = .ok (.iload_n 3, 1) := by decide +kernel
theorem dX9_sizeOf_5 : decode cX9_sizeOf 5 = .ok (.aload_n 0, 1) := by decide +kernel
theorem dX9_sizeOf_6 : decode cX9_sizeOf 6 = .ok (.invokevirtual 218, 3) := by decide +kernel
theorem dX9_sizeOf_9 : decode cX9_sizeOf 9 = .ok (.if_icmp .ge 26, 3) := by decide +kernel
theorem dX9_sizeOf_12 : decode cX9_sizeOf 12 = .ok (.iload_n 2, 1) := by decide +kernel
theorem dX9_sizeOf_13 : decode cX9_sizeOf 13 = .ok (.aload_n 0, 1) := by decide +kernel
theorem dX9_sizeOf_14 : decode cX9_sizeOf 14 = .ok (.iload_n 1, 1) := by decide +kernel
theorem dX9_sizeOf_15 : decode cX9_sizeOf 15 = .ok (.iload_n 3, 1) := by decide +kernel
theorem dX9_sizeOf_16 : decode cX9_sizeOf 16 = .ok (.invokevirtual 244, 3) := by decide +kernel
theorem dX9_sizeOf_19 : decode cX9_sizeOf 19 = .ok (.ifCond .eq 7, 3) := by decide +kernel
theorem dX9_sizeOf_22 : decode cX9_sizeOf 22 = .ok (.iconst 1, 1) := by decide +kernel
theorem dX9_sizeOf_23 : decode cX9_sizeOf 23 = .ok (.goto 4, 3) := by decide +kernel
theorem dX9_sizeOf_26 : decode cX9_sizeOf 26 = .ok (.iconst 0, 1) := by decide +kernel
theorem dX9_sizeOf_27 : decode cX9_sizeOf 27 = .ok (.iadd, 1) := by decide +kernel
theorem dX9_sizeOf_28 : decode cX9_sizeOf 28 = .ok (.istore_n 2, 1) := by decide +kernel
theorem dX9_sizeOf_29 : decode cX9_sizeOf 29 = .ok (.iinc 3 1, 3) := by decide +kernel
theorem dX9_sizeOf_32 : decode cX9_sizeOf 32 = .ok (.goto (-28), 3) := by decide +kernel
theorem dX9_sizeOf_35 : decode cX9_sizeOf 35 = .ok (.iload_n 2, 1) := by decide +kernel
theorem dX9_sizeOf_36 : decode cX9_sizeOf 36 = .ok (.ireturn, 1) := by decide +kernel
theorem dX9_pairsIn_0 : decode cX9_pairsIn 0 = .ok (.iconst 0, 1) := by decide +kernel
theorem dX9_pairsIn_1 : decode cX9_pairsIn 1 = .ok (.istore_n 2, 1) := by decide +kernel
theorem dX9_pairsIn_2 : decode cX9_pairsIn 2 = .ok (.iconst 0, 1) := by decide +kernel
theorem dX9_pairsIn_3 : decode cX9_pairsIn 3 = .ok (.istore_n 3, 1) := by decide +kernel
theorem dX9_pairsIn_4 : decode cX9_pairsIn 4 = .ok (.iload_n 3, 1) := by decide +kernel
theorem dX9_pairsIn_5 : decode cX9_pairsIn 5 = .ok (.aload_n 0, 1) := by decide +kernel
theorem dX9_pairsIn_6 : decode cX9_pairsIn 6 = .ok (.invokevirtual 218, 3) := by decide +kernel
theorem dX9_pairsIn_9 : decode cX9_pairsIn 9 = .ok (.if_icmp .ge 84, 3) := by decide +kernel
theorem dX9_pairsIn_12 : decode cX9_pairsIn 12 = .ok (.iconst 0, 1) := by decide +kernel
theorem dX9_pairsIn_13 : decode cX9_pairsIn 13 = .ok (.istore 4, 2) := by decide +kernel
theorem dX9_pairsIn_15 : decode cX9_pairsIn 15 = .ok (.iload 4, 2) := by decide +kernel
theorem dX9_pairsIn_17 : decode cX9_pairsIn 17 = .ok (.iload_n 3, 1) := by decide +kernel
theorem dX9_pairsIn_18 : decode cX9_pairsIn 18 = .ok (.if_icmp .ge 69, 3) := by decide +kernel
theorem dX9_pairsIn_21 : decode cX9_pairsIn 21 = .ok (.iload_n 2, 1) := by decide +kernel
theorem dX9_pairsIn_22 : decode cX9_pairsIn 22 = .ok (.aload_n 0, 1) := by decide +kernel
theorem dX9_pairsIn_23 : decode cX9_pairsIn 23 = .ok (.iload_n 1, 1) := by decide +kernel
theorem dX9_pairsIn_24 : decode cX9_pairsIn 24 = .ok (.iload_n 3, 1) := by decide +kernel
theorem dX9_pairsIn_25 : decode cX9_pairsIn 25 = .ok (.invokevirtual 244, 3) := by decide +kernel
theorem dX9_pairsIn_28 : decode cX9_pairsIn 28 = .ok (.ifCond .eq 50, 3) := by decide +kernel
theorem dX9_pairsIn_31 : decode cX9_pairsIn 31 = .ok (.aload_n 0, 1) := by decide +kernel
theorem dX9_pairsIn_32 : decode cX9_pairsIn 32 = .ok (.iload_n 1, 1) := by decide +kernel
theorem dX9_pairsIn_33 : decode cX9_pairsIn 33 = .ok (.iload 4, 2) := by decide +kernel
theorem dX9_pairsIn_35 : decode cX9_pairsIn 35 = .ok (.invokevirtual 244, 3) := by decide +kernel
theorem dX9_pairsIn_38 : decode cX9_pairsIn 38 = .ok (.ifCond .eq 40, 3) := by decide +kernel
theorem dX9_pairsIn_41 : decode cX9_pairsIn 41 = .ok (.aload_n 0, 1) := by decide +kernel
theorem dX9_pairsIn_42 : decode cX9_pairsIn 42 = .ok (.iload_n 3, 1) := by decide +kernel
theorem dX9_pairsIn_43 : decode cX9_pairsIn 43 = .ok (.invokevirtual 248, 3) := by decide +kernel
theorem dX9_pairsIn_46 : decode cX9_pairsIn 46 = .ok (.ifCond .eq 32, 3) := by decide +kernel
theorem dX9_pairsIn_49 : decode cX9_pairsIn 49 = .ok (.aload_n 0, 1) := by decide +kernel
theorem dX9_pairsIn_50 : decode cX9_pairsIn 50 = .ok (.iload 4, 2) := by decide +kernel
theorem dX9_pairsIn_52 : decode cX9_pairsIn 52 = .ok (.invokevirtual 248, 3) := by decide +kernel
theorem dX9_pairsIn_55 : decode cX9_pairsIn 55 = .ok (.ifCond .eq 23, 3) := by decide +kernel
theorem dX9_pairsIn_58 : decode cX9_pairsIn 58 = .ok (.aload_n 0, 1) := by decide +kernel
theorem dX9_pairsIn_59 : decode cX9_pairsIn 59 = .ok (.getfield 34, 3) := by decide +kernel
theorem dX9_pairsIn_62 : decode cX9_pairsIn 62 = .ok (.iload_n 3, 1) := by decide +kernel
theorem dX9_pairsIn_63 : decode cX9_pairsIn 63 = .ok (.iaload, 1) := by decide +kernel
theorem dX9_pairsIn_64 : decode cX9_pairsIn 64 = .ok (.aload_n 0, 1) := by decide +kernel
theorem dX9_pairsIn_65 : decode cX9_pairsIn 65 = .ok (.getfield 34, 3) := by decide +kernel
theorem dX9_pairsIn_68 : decode cX9_pairsIn 68 = .ok (.iload 4, 2) := by decide +kernel
theorem dX9_pairsIn_70 : decode cX9_pairsIn 70 = .ok (.iaload, 1) := by decide +kernel
theorem dX9_pairsIn_71 : decode cX9_pairsIn 71 = .ok (.if_icmp .ne 7, 3) := by decide +kernel
theorem dX9_pairsIn_74 : decode cX9_pairsIn 74 = .ok (.iconst 1, 1) := by decide +kernel
theorem dX9_pairsIn_75 : decode cX9_pairsIn 75 = .ok (.goto 4, 3) := by decide +kernel
theorem dX9_pairsIn_78 : decode cX9_pairsIn 78 = .ok (.iconst 0, 1) := by decide +kernel
theorem dX9_pairsIn_79 : decode cX9_pairsIn 79 = .ok (.iadd, 1) := by decide +kernel
theorem dX9_pairsIn_80 : decode cX9_pairsIn 80 = .ok (.istore_n 2, 1) := by decide +kernel
theorem dX9_pairsIn_81 : decode cX9_pairsIn 81 = .ok (.iinc 4 1, 3) := by decide +kernel
theorem dX9_pairsIn_84 : decode cX9_pairsIn 84 = .ok (.goto (-69), 3) := by decide +kernel
theorem dX9_pairsIn_87 : decode cX9_pairsIn 87 = .ok (.iinc 3 1, 3) := by decide +kernel
theorem dX9_pairsIn_90 : decode cX9_pairsIn 90 = .ok (.goto (-86), 3) := by decide +kernel
theorem dX9_pairsIn_93 : decode cX9_pairsIn 93 = .ok (.iload_n 2, 1) := by decide +kernel
theorem dX9_pairsIn_94 : decode cX9_pairsIn 94 = .ok (.ireturn, 1) := by decide +kernel
theorem dX9_drawn_0 : decode cX9_drawn 0 = .ok (.aload_n 0, 1) := by decide +kernel
theorem dX9_drawn_1 : decode cX9_drawn 1 = .ok (.iconst 0, 1) := by decide +kernel
theorem dX9_drawn_2 : decode cX9_drawn 2 = .ok (.putfield 48, 3) := by decide +kernel
theorem dX9_drawn_5 : decode cX9_drawn 5 = .ok (.aload_n 0, 1) := by decide +kernel
theorem dX9_drawn_6 : decode cX9_drawn 6 = .ok (.iload_n 1, 1) := by decide +kernel
theorem dX9_drawn_7 : decode cX9_drawn 7 = .ok (.invokestatic 251, 3) := by decide +kernel
theorem dX9_drawn_10 : decode cX9_drawn 10 = .ok (.ifCond .eq 15, 3) := by decide +kernel
theorem dX9_drawn_13 : decode cX9_drawn 13 = .ok (.iload_n 2, 1) := by decide +kernel
theorem dX9_drawn_14 : decode cX9_drawn 14 = .ok (.i2l, 1) := by decide +kernel
theorem dX9_drawn_15 : decode cX9_drawn 15 = .ok (.lconst 0, 1) := by decide +kernel
theorem dX9_drawn_16 : decode cX9_drawn 16 = .ok (.ldc2_w 285, 3) := by decide +kernel
theorem dX9_drawn_19 : decode cX9_drawn 19 = .ok (.invokestatic 107, 3) := by decide +kernel
theorem dX9_drawn_22 : decode cX9_drawn 22 = .ok (.ifCond .ne 7, 3) := by decide +kernel
theorem dX9_drawn_25 : decode cX9_drawn 25 = .ok (.iconst 1, 1) := by decide +kernel
theorem dX9_drawn_26 : decode cX9_drawn 26 = .ok (.goto 4, 3) := by decide +kernel
theorem dX9_drawn_29 : decode cX9_drawn 29 = .ok (.iconst 0, 1) := by decide +kernel
theorem dX9_drawn_30 : decode cX9_drawn 30 = .ok (.iconst 1, 1) := by decide +kernel
theorem dX9_drawn_31 : decode cX9_drawn 31 = .ok (.iconst 1, 1) := by decide +kernel
theorem dX9_drawn_32 : decode cX9_drawn 32 = .ok (.invokevirtual 204, 3) := by decide +kernel
theorem dX9_drawn_35 : decode cX9_drawn 35 = .ok (.ifCond .eq 5, 3) := by decide +kernel
theorem dX9_drawn_38 : decode cX9_drawn 38 = .ok (.iconst 0, 1) := by decide +kernel
theorem dX9_drawn_39 : decode cX9_drawn 39 = .ok (.ireturn, 1) := by decide +kernel
theorem dX9_drawn_40 : decode cX9_drawn 40 = .ok (.aload_n 0, 1) := by decide +kernel
theorem dX9_drawn_41 : decode cX9_drawn 41 = .ok (.aload_n 0, 1) := by decide +kernel
theorem dX9_drawn_42 : decode cX9_drawn 42 = .ok (.getfield 20, 3) := by decide +kernel
theorem dX9_drawn_45 : decode cX9_drawn 45 = .ok (.iconst 0, 1) := by decide +kernel
theorem dX9_drawn_46 : decode cX9_drawn 46 = .ok (.invokevirtual 255, 3) := by decide +kernel
theorem dX9_drawn_49 : decode cX9_drawn 49 = .ok (.aload_n 0, 1) := by decide +kernel
theorem dX9_drawn_50 : decode cX9_drawn 50 = .ok (.iload_n 1, 1) := by decide +kernel
theorem dX9_drawn_51 : decode cX9_drawn 51 = .ok (.invokevirtual 304, 3) := by decide +kernel
theorem dX9_drawn_54 : decode cX9_drawn 54 = .ok (.istore_n 3, 1) := by decide +kernel
theorem dX9_drawn_55 : decode cX9_drawn 55 = .ok (.aload_n 0, 1) := by decide +kernel
theorem dX9_drawn_56 : decode cX9_drawn 56 = .ok (.iload_n 1, 1) := by decide +kernel
theorem dX9_drawn_57 : decode cX9_drawn 57 = .ok (.invokevirtual 259, 3) := by decide +kernel
theorem dX9_drawn_60 : decode cX9_drawn 60 = .ok (.istore 4, 2) := by decide +kernel
theorem dX9_drawn_62 : decode cX9_drawn 62 = .ok (.iload_n 2, 1) := by decide +kernel
theorem dX9_drawn_63 : decode cX9_drawn 63 = .ok (.iconst 3, 1) := by decide +kernel
theorem dX9_drawn_64 : decode cX9_drawn 64 = .ok (.if_icmp .ge 27, 3) := by decide +kernel
theorem dX9_drawn_67 : decode cX9_drawn 67 = .ok (.iload_n 2, 1) := by decide +kernel
theorem dX9_drawn_68 : decode cX9_drawn 68 = .ok (.ifCond .ne 7, 3) := by decide +kernel
theorem dX9_drawn_71 : decode cX9_drawn 71 = .ok (.iload_n 3, 1) := by decide +kernel
theorem dX9_drawn_72 : decode cX9_drawn 72 = .ok (.goto 18, 3) := by decide +kernel
theorem dX9_drawn_75 : decode cX9_drawn 75 = .ok (.iload_n 2, 1) := by decide +kernel
theorem dX9_drawn_76 : decode cX9_drawn 76 = .ok (.iconst 1, 1) := by decide +kernel
theorem dX9_drawn_77 : decode cX9_drawn 77 = .ok (.if_icmp .ne 8, 3) := by decide +kernel
theorem dX9_drawn_80 : decode cX9_drawn 80 = .ok (.iload 4, 2) := by decide +kernel
theorem dX9_drawn_82 : decode cX9_drawn 82 = .ok (.goto 8, 3) := by decide +kernel
theorem dX9_drawn_85 : decode cX9_drawn 85 = .ok (.aload_n 0, 1) := by decide +kernel
theorem dX9_drawn_86 : decode cX9_drawn 86 = .ok (.iload_n 1, 1) := by decide +kernel
theorem dX9_drawn_87 : decode cX9_drawn 87 = .ok (.invokevirtual 307, 3) := by decide +kernel
theorem dX9_drawn_90 : decode cX9_drawn 90 = .ok (.ireturn, 1) := by decide +kernel
theorem dX9_drawn_91 : decode cX9_drawn 91 = .ok (.iload_n 3, 1) := by decide +kernel
theorem dX9_drawn_92 : decode cX9_drawn 92 = .ok (.ifCond .ne 5, 3) := by decide +kernel
theorem dX9_drawn_95 : decode cX9_drawn 95 = .ok (.iconst (-1), 1) := by decide +kernel
theorem dX9_drawn_96 : decode cX9_drawn 96 = .ok (.ireturn, 1) := by decide +kernel
theorem dX9_drawn_97 : decode cX9_drawn 97 = .ok (.aload_n 0, 1) := by decide +kernel
theorem dX9_drawn_98 : decode cX9_drawn 98 = .ok (.iload_n 3, 1) := by decide +kernel
theorem dX9_drawn_99 : decode cX9_drawn 99 = .ok (.iload 4, 2) := by decide +kernel
theorem dX9_drawn_101 : decode cX9_drawn 101 = .ok (.invokevirtual 310, 3) := by decide +kernel
theorem dX9_drawn_104 : decode cX9_drawn 104 = .ok (.istore 5, 2) := by decide +kernel
theorem dX9_drawn_106 : decode cX9_drawn 106 = .ok (.aload_n 0, 1) := by decide +kernel
theorem dX9_drawn_107 : decode cX9_drawn 107 = .ok (.iload_n 3, 1) := by decide +kernel
theorem dX9_drawn_108 : decode cX9_drawn 108 = .ok (.iload 4, 2) := by decide +kernel
theorem dX9_drawn_110 : decode cX9_drawn 110 = .ok (.invokevirtual 313, 3) := by decide +kernel
theorem dX9_drawn_113 : decode cX9_drawn 113 = .ok (.istore 6, 2) := by decide +kernel
theorem dX9_drawn_115 : decode cX9_drawn 115 = .ok (.iload_n 2, 1) := by decide +kernel
theorem dX9_drawn_116 : decode cX9_drawn 116 = .ok (.iconst 3, 1) := by decide +kernel
theorem dX9_drawn_117 : decode cX9_drawn 117 = .ok (.if_icmp .ne 8, 3) := by decide +kernel
theorem dX9_drawn_120 : decode cX9_drawn 120 = .ok (.iload 5, 2) := by decide +kernel
theorem dX9_drawn_122 : decode cX9_drawn 122 = .ok (.goto 44, 3) := by decide +kernel
theorem dX9_drawn_125 : decode cX9_drawn 125 = .ok (.iload_n 2, 1) := by decide +kernel
theorem dX9_drawn_126 : decode cX9_drawn 126 = .ok (.iconst 4, 1) := by decide +kernel
theorem dX9_drawn_127 : decode cX9_drawn 127 = .ok (.if_icmp .ne 8, 3) := by decide +kernel
theorem dX9_drawn_130 : decode cX9_drawn 130 = .ok (.iload 6, 2) := by decide +kernel
theorem dX9_drawn_132 : decode cX9_drawn 132 = .ok (.goto 34, 3) := by decide +kernel
theorem dX9_drawn_135 : decode cX9_drawn 135 = .ok (.iload 5, 2) := by decide +kernel
theorem dX9_drawn_137 : decode cX9_drawn 137 = .ok (.aload_n 0, 1) := by decide +kernel
theorem dX9_drawn_138 : decode cX9_drawn 138 = .ok (.getfield 20, 3) := by decide +kernel
theorem dX9_drawn_141 : decode cX9_drawn 141 = .ok (.iconst 3, 1) := by decide +kernel
theorem dX9_drawn_142 : decode cX9_drawn 142 = .ok (.iaload, 1) := by decide +kernel
theorem dX9_drawn_143 : decode cX9_drawn 143 = .ok (.if_icmp .lt 7, 3) := by decide +kernel
theorem dX9_drawn_146 : decode cX9_drawn 146 = .ok (.iconst 1, 1) := by decide +kernel
theorem dX9_drawn_147 : decode cX9_drawn 147 = .ok (.goto 19, 3) := by decide +kernel
theorem dX9_drawn_150 : decode cX9_drawn 150 = .ok (.iload 6, 2) := by decide +kernel
theorem dX9_drawn_152 : decode cX9_drawn 152 = .ok (.aload_n 0, 1) := by decide +kernel
theorem dX9_drawn_153 : decode cX9_drawn 153 = .ok (.getfield 20, 3) := by decide +kernel
theorem dX9_drawn_156 : decode cX9_drawn 156 = .ok (.iconst 3, 1) := by decide +kernel
theorem dX9_drawn_157 : decode cX9_drawn 157 = .ok (.iaload, 1) := by decide +kernel
theorem dX9_drawn_158 : decode cX9_drawn 158 = .ok (.if_icmp .ge 7, 3) := by decide +kernel
theorem dX9_drawn_161 : decode cX9_drawn 161 = .ok (.iconst 2, 1) := by decide +kernel
theorem dX9_drawn_162 : decode cX9_drawn 162 = .ok (.goto 4, 3) := by decide +kernel
theorem dX9_drawn_165 : decode cX9_drawn 165 = .ok (.iconst 0, 1) := by decide +kernel
theorem dX9_drawn_166 : decode cX9_drawn 166 = .ok (.ireturn, 1) := by decide +kernel
theorem dX9_terms_0 : decode cX9_terms 0 = .ok (.lload_n 0, 1) := by decide +kernel
theorem dX9_terms_1 : decode cX9_terms 1 = .ok (.lconst 0, 1) := by decide +kernel
theorem dX9_terms_2 : decode cX9_terms 2 = .ok (.lcmp, 1) := by decide +kernel
theorem dX9_terms_3 : decode cX9_terms 3 = .ok (.ifCond .ge 8, 3) := by decide +kernel
theorem dX9_terms_6 : decode cX9_terms 6 = .ok (.lload_n 0, 1) := by decide +kernel
theorem dX9_terms_7 : decode cX9_terms 7 = .ok (.lneg, 1) := by decide +kernel
theorem dX9_terms_8 : decode cX9_terms 8 = .ok (.goto 4, 3) := by decide +kernel
theorem dX9_terms_11 : decode cX9_terms 11 = .ok (.lload_n 0, 1) := by decide +kernel
theorem dX9_terms_12 : decode cX9_terms 12 = .ok (.lstore 5, 2) := by decide +kernel
theorem dX9_terms_14 : decode cX9_terms 14 = .ok (.lload_n 2, 1) := by decide +kernel
theorem dX9_terms_15 : decode cX9_terms 15 = .ok (.lstore 7, 2) := by decide +kernel
theorem dX9_terms_17 : decode cX9_terms 17 = .ok (.lload 7, 2) := by decide +kernel
theorem dX9_terms_19 : decode cX9_terms 19 = .ok (.lconst 0, 1) := by decide +kernel
theorem dX9_terms_20 : decode cX9_terms 20 = .ok (.lcmp, 1) := by decide +kernel
theorem dX9_terms_21 : decode cX9_terms 21 = .ok (.ifCond .eq 21, 3) := by decide +kernel
theorem dX9_terms_24 : decode cX9_terms 24 = .ok (.lload 5, 2) := by decide +kernel
theorem dX9_terms_26 : decode cX9_terms 26 = .ok (.lload 7, 2) := by decide +kernel
theorem dX9_terms_28 : decode cX9_terms 28 = .ok (.lrem, 1) := by decide +kernel
theorem dX9_terms_29 : decode cX9_terms 29 = .ok (.lstore 9, 2) := by decide +kernel
theorem dX9_terms_31 : decode cX9_terms 31 = .ok (.lload 7, 2) := by decide +kernel
theorem dX9_terms_33 : decode cX9_terms 33 = .ok (.lstore 5, 2) := by decide +kernel
theorem dX9_terms_35 : decode cX9_terms 35 = .ok (.lload 9, 2) := by decide +kernel
theorem dX9_terms_37 : decode cX9_terms 37 = .ok (.lstore 7, 2) := by decide +kernel
theorem dX9_terms_39 : decode cX9_terms 39 = .ok (.goto (-22), 3) := by decide +kernel
theorem dX9_terms_42 : decode cX9_terms 42 = .ok (.iload 4, 2) := by decide +kernel
theorem dX9_terms_44 : decode cX9_terms 44 = .ok (.ifCond .ne 7, 3) := by decide +kernel
theorem dX9_terms_47 : decode cX9_terms 47 = .ok (.lload_n 0, 1) := by decide +kernel
theorem dX9_terms_48 : decode cX9_terms 48 = .ok (.goto 4, 3) := by decide +kernel
theorem dX9_terms_51 : decode cX9_terms 51 = .ok (.lload_n 2, 1) := by decide +kernel
theorem dX9_terms_52 : decode cX9_terms 52 = .ok (.lload 5, 2) := by decide +kernel
theorem dX9_terms_54 : decode cX9_terms 54 = .ok (.ldiv, 1) := by decide +kernel
theorem dX9_terms_55 : decode cX9_terms 55 = .ok (.lreturn, 1) := by decide +kernel
theorem dX9_estimate_0 : decode cX9_estimate 0 = .ok (.aload_n 0, 1) := by decide +kernel
theorem dX9_estimate_1 : decode cX9_estimate 1 = .ok (.iconst 0, 1) := by decide +kernel
theorem dX9_estimate_2 : decode cX9_estimate 2 = .ok (.putfield 48, 3) := by decide +kernel
theorem dX9_estimate_5 : decode cX9_estimate 5 = .ok (.aload_n 0, 1) := by decide +kernel
theorem dX9_estimate_6 : decode cX9_estimate 6 = .ok (.iload_n 1, 1) := by decide +kernel
theorem dX9_estimate_7 : decode cX9_estimate 7 = .ok (.invokestatic 251, 3) := by decide +kernel
theorem dX9_estimate_10 : decode cX9_estimate 10 = .ok (.ifCond .eq 13, 3) := by decide +kernel
theorem dX9_estimate_13 : decode cX9_estimate 13 = .ok (.iload_n 2, 1) := by decide +kernel
theorem dX9_estimate_14 : decode cX9_estimate 14 = .ok (.i2l, 1) := by decide +kernel
theorem dX9_estimate_15 : decode cX9_estimate 15 = .ok (.lconst 0, 1) := by decide +kernel
theorem dX9_estimate_16 : decode cX9_estimate 16 = .ok (.lconst 1, 1) := by decide +kernel
theorem dX9_estimate_17 : decode cX9_estimate 17 = .ok (.invokestatic 107, 3) := by decide +kernel
theorem dX9_estimate_20 : decode cX9_estimate 20 = .ok (.ifCond .ne 7, 3) := by decide +kernel
theorem dX9_estimate_23 : decode cX9_estimate 23 = .ok (.iconst 1, 1) := by decide +kernel
theorem dX9_estimate_24 : decode cX9_estimate 24 = .ok (.goto 4, 3) := by decide +kernel
theorem dX9_estimate_27 : decode cX9_estimate 27 = .ok (.iconst 0, 1) := by decide +kernel
theorem dX9_estimate_28 : decode cX9_estimate 28 = .ok (.iconst 1, 1) := by decide +kernel
theorem dX9_estimate_29 : decode cX9_estimate 29 = .ok (.iconst 1, 1) := by decide +kernel
theorem dX9_estimate_30 : decode cX9_estimate 30 = .ok (.invokevirtual 204, 3) := by decide +kernel
theorem dX9_estimate_33 : decode cX9_estimate 33 = .ok (.ifCond .ne 37, 3) := by decide +kernel
theorem dX9_estimate_36 : decode cX9_estimate 36 = .ok (.aload_n 0, 1) := by decide +kernel
theorem dX9_estimate_37 : decode cX9_estimate 37 = .ok (.aload_n 0, 1) := by decide +kernel
theorem dX9_estimate_38 : decode cX9_estimate 38 = .ok (.iload_n 1, 1) := by decide +kernel
theorem dX9_estimate_39 : decode cX9_estimate 39 = .ok (.invokestatic 251, 3) := by decide +kernel
theorem dX9_estimate_42 : decode cX9_estimate 42 = .ok (.ifCond .eq 7, 3) := by decide +kernel
theorem dX9_estimate_45 : decode cX9_estimate 45 = .ok (.iload_n 1, 1) := by decide +kernel
theorem dX9_estimate_46 : decode cX9_estimate 46 = .ok (.goto 4, 3) := by decide +kernel
theorem dX9_estimate_49 : decode cX9_estimate 49 = .ok (.iconst 0, 1) := by decide +kernel
theorem dX9_estimate_50 : decode cX9_estimate 50 = .ok (.invokevirtual 304, 3) := by decide +kernel
theorem dX9_estimate_53 : decode cX9_estimate 53 = .ok (.iconst 2, 1) := by decide +kernel
theorem dX9_estimate_54 : decode cX9_estimate 54 = .ok (.if_icmp .ge 7, 3) := by decide +kernel
theorem dX9_estimate_57 : decode cX9_estimate 57 = .ok (.iconst 1, 1) := by decide +kernel
theorem dX9_estimate_58 : decode cX9_estimate 58 = .ok (.goto 4, 3) := by decide +kernel
theorem dX9_estimate_61 : decode cX9_estimate 61 = .ok (.iconst 0, 1) := by decide +kernel
theorem dX9_estimate_62 : decode cX9_estimate 62 = .ok (.iconst 2, 1) := by decide +kernel
theorem dX9_estimate_63 : decode cX9_estimate 63 = .ok (.iconst 2, 1) := by decide +kernel
theorem dX9_estimate_64 : decode cX9_estimate 64 = .ok (.invokevirtual 204, 3) := by decide +kernel
theorem dX9_estimate_67 : decode cX9_estimate 67 = .ok (.ifCond .eq 5, 3) := by decide +kernel
theorem dX9_estimate_70 : decode cX9_estimate 70 = .ok (.lconst 0, 1) := by decide +kernel
theorem dX9_estimate_71 : decode cX9_estimate 71 = .ok (.lreturn, 1) := by decide +kernel
theorem dX9_estimate_72 : decode cX9_estimate 72 = .ok (.aload_n 0, 1) := by decide +kernel
theorem dX9_estimate_73 : decode cX9_estimate 73 = .ok (.aload_n 0, 1) := by decide +kernel
theorem dX9_estimate_74 : decode cX9_estimate 74 = .ok (.getfield 20, 3) := by decide +kernel
theorem dX9_estimate_77 : decode cX9_estimate 77 = .ok (.iconst 0, 1) := by decide +kernel
theorem dX9_estimate_78 : decode cX9_estimate 78 = .ok (.invokevirtual 255, 3) := by decide +kernel
theorem dX9_estimate_81 : decode cX9_estimate 81 = .ok (.aload_n 0, 1) := by decide +kernel
theorem dX9_estimate_82 : decode cX9_estimate 82 = .ok (.invokevirtual 218, 3) := by decide +kernel
theorem dX9_estimate_85 : decode cX9_estimate 85 = .ok (.i2l, 1) := by decide +kernel
theorem dX9_estimate_86 : decode cX9_estimate 86 = .ok (.lstore_n 3, 1) := by decide +kernel
theorem dX9_estimate_87 : decode cX9_estimate 87 = .ok (.aload_n 0, 1) := by decide +kernel
theorem dX9_estimate_88 : decode cX9_estimate 88 = .ok (.iload_n 1, 1) := by decide +kernel
theorem dX9_estimate_89 : decode cX9_estimate 89 = .ok (.invokevirtual 304, 3) := by decide +kernel
theorem dX9_estimate_92 : decode cX9_estimate 92 = .ok (.i2l, 1) := by decide +kernel
theorem dX9_estimate_93 : decode cX9_estimate 93 = .ok (.lstore 5, 2) := by decide +kernel
theorem dX9_estimate_95 : decode cX9_estimate 95 = .ok (.lload_n 3, 1) := by decide +kernel
theorem dX9_estimate_96 : decode cX9_estimate 96 = .ok (.aload_n 0, 1) := by decide +kernel
theorem dX9_estimate_97 : decode cX9_estimate 97 = .ok (.iload_n 1, 1) := by decide +kernel
theorem dX9_estimate_98 : decode cX9_estimate 98 = .ok (.invokevirtual 259, 3) := by decide +kernel
theorem dX9_estimate_101 : decode cX9_estimate 101 = .ok (.i2l, 1) := by decide +kernel
theorem dX9_estimate_102 : decode cX9_estimate 102 = .ok (.lmul, 1) := by decide +kernel
theorem dX9_estimate_103 : decode cX9_estimate 103 = .ok (.lload 5, 2) := by decide +kernel
theorem dX9_estimate_105 : decode cX9_estimate 105 = .ok (.lconst 1, 1) := by decide +kernel
theorem dX9_estimate_106 : decode cX9_estimate 106 = .ok (.lsub, 1) := by decide +kernel
theorem dX9_estimate_107 : decode cX9_estimate 107 = .ok (.lmul, 1) := by decide +kernel
theorem dX9_estimate_108 : decode cX9_estimate 108 = .ok (.lload_n 3, 1) := by decide +kernel
theorem dX9_estimate_109 : decode cX9_estimate 109 = .ok (.lload_n 3, 1) := by decide +kernel
theorem dX9_estimate_110 : decode cX9_estimate 110 = .ok (.lconst 1, 1) := by decide +kernel
theorem dX9_estimate_111 : decode cX9_estimate 111 = .ok (.lsub, 1) := by decide +kernel
theorem dX9_estimate_112 : decode cX9_estimate 112 = .ok (.lmul, 1) := by decide +kernel
theorem dX9_estimate_113 : decode cX9_estimate 113 = .ok (.aload_n 0, 1) := by decide +kernel
theorem dX9_estimate_114 : decode cX9_estimate 114 = .ok (.iload_n 1, 1) := by decide +kernel
theorem dX9_estimate_115 : decode cX9_estimate 115 = .ok (.invokevirtual 307, 3) := by decide +kernel
theorem dX9_estimate_118 : decode cX9_estimate 118 = .ok (.i2l, 1) := by decide +kernel
theorem dX9_estimate_119 : decode cX9_estimate 119 = .ok (.lmul, 1) := by decide +kernel
theorem dX9_estimate_120 : decode cX9_estimate 120 = .ok (.lsub, 1) := by decide +kernel
theorem dX9_estimate_121 : decode cX9_estimate 121 = .ok (.lload 5, 2) := by decide +kernel
theorem dX9_estimate_123 : decode cX9_estimate 123 = .ok (.lload 5, 2) := by decide +kernel
theorem dX9_estimate_125 : decode cX9_estimate 125 = .ok (.lconst 1, 1) := by decide +kernel
theorem dX9_estimate_126 : decode cX9_estimate 126 = .ok (.lsub, 1) := by decide +kernel
theorem dX9_estimate_127 : decode cX9_estimate 127 = .ok (.lmul, 1) := by decide +kernel
theorem dX9_estimate_128 : decode cX9_estimate 128 = .ok (.iload_n 2, 1) := by decide +kernel
theorem dX9_estimate_129 : decode cX9_estimate 129 = .ok (.invokestatic 316, 3) := by decide +kernel
theorem dX9_estimate_132 : decode cX9_estimate 132 = .ok (.lreturn, 1) := by decide +kernel
theorem dX9_votersIn_0 : decode cX9_votersIn 0 = .ok (.iconst 0, 1) := by decide +kernel
theorem dX9_votersIn_1 : decode cX9_votersIn 1 = .ok (.istore_n 2, 1) := by decide +kernel
theorem dX9_votersIn_2 : decode cX9_votersIn 2 = .ok (.iconst 0, 1) := by decide +kernel
theorem dX9_votersIn_3 : decode cX9_votersIn 3 = .ok (.istore_n 3, 1) := by decide +kernel
theorem dX9_votersIn_4 : decode cX9_votersIn 4 = .ok (.iload_n 3, 1) := by decide +kernel
theorem dX9_votersIn_5 : decode cX9_votersIn 5 = .ok (.aload_n 0, 1) := by decide +kernel
theorem dX9_votersIn_6 : decode cX9_votersIn 6 = .ok (.invokevirtual 218, 3) := by decide +kernel
theorem dX9_votersIn_9 : decode cX9_votersIn 9 = .ok (.if_icmp .ge 41, 3) := by decide +kernel
theorem dX9_votersIn_12 : decode cX9_votersIn 12 = .ok (.iload_n 2, 1) := by decide +kernel
theorem dX9_votersIn_13 : decode cX9_votersIn 13 = .ok (.aload_n 0, 1) := by decide +kernel
theorem dX9_votersIn_14 : decode cX9_votersIn 14 = .ok (.iload_n 1, 1) := by decide +kernel
theorem dX9_votersIn_15 : decode cX9_votersIn 15 = .ok (.iload_n 3, 1) := by decide +kernel
theorem dX9_votersIn_16 : decode cX9_votersIn 16 = .ok (.invokevirtual 244, 3) := by decide +kernel
theorem dX9_votersIn_19 : decode cX9_votersIn 19 = .ok (.ifCond .eq 22, 3) := by decide +kernel
theorem dX9_votersIn_22 : decode cX9_votersIn 22 = .ok (.aload_n 0, 1) := by decide +kernel
theorem dX9_votersIn_23 : decode cX9_votersIn 23 = .ok (.iload_n 3, 1) := by decide +kernel
theorem dX9_votersIn_24 : decode cX9_votersIn 24 = .ok (.invokevirtual 248, 3) := by decide +kernel
theorem dX9_votersIn_27 : decode cX9_votersIn 27 = .ok (.ifCond .eq 14, 3) := by decide +kernel
theorem dX9_votersIn_30 : decode cX9_votersIn 30 = .ok (.iconst 1, 1) := by decide +kernel
theorem dX9_votersIn_31 : decode cX9_votersIn 31 = .ok (.aload_n 0, 1) := by decide +kernel
theorem dX9_votersIn_32 : decode cX9_votersIn 32 = .ok (.getfield 34, 3) := by decide +kernel
theorem dX9_votersIn_35 : decode cX9_votersIn 35 = .ok (.iload_n 3, 1) := by decide +kernel
theorem dX9_votersIn_36 : decode cX9_votersIn 36 = .ok (.iaload, 1) := by decide +kernel
theorem dX9_votersIn_37 : decode cX9_votersIn 37 = .ok (.ishl, 1) := by decide +kernel
theorem dX9_votersIn_38 : decode cX9_votersIn 38 = .ok (.goto 4, 3) := by decide +kernel
theorem dX9_votersIn_41 : decode cX9_votersIn 41 = .ok (.iconst 0, 1) := by decide +kernel
theorem dX9_votersIn_42 : decode cX9_votersIn 42 = .ok (.ior, 1) := by decide +kernel
theorem dX9_votersIn_43 : decode cX9_votersIn 43 = .ok (.istore_n 2, 1) := by decide +kernel
theorem dX9_votersIn_44 : decode cX9_votersIn 44 = .ok (.iinc 3 1, 3) := by decide +kernel
theorem dX9_votersIn_47 : decode cX9_votersIn 47 = .ok (.goto (-43), 3) := by decide +kernel
theorem dX9_votersIn_50 : decode cX9_votersIn 50 = .ok (.iload_n 2, 1) := by decide +kernel
theorem dX9_votersIn_51 : decode cX9_votersIn 51 = .ok (.ireturn, 1) := by decide +kernel
theorem dX9_ones_0 : decode cX9_ones 0 = .ok (.iconst 0, 1) := by decide +kernel
theorem dX9_ones_1 : decode cX9_ones 1 = .ok (.istore_n 1, 1) := by decide +kernel
theorem dX9_ones_2 : decode cX9_ones 2 = .ok (.iconst 0, 1) := by decide +kernel
theorem dX9_ones_3 : decode cX9_ones 3 = .ok (.istore_n 2, 1) := by decide +kernel
theorem dX9_ones_4 : decode cX9_ones 4 = .ok (.iload_n 2, 1) := by decide +kernel
theorem dX9_ones_5 : decode cX9_ones 5 = .ok (.bipush 16, 2) := by decide +kernel
theorem dX9_ones_7 : decode cX9_ones 7 = .ok (.if_icmp .ge 17, 3) := by decide +kernel
theorem dX9_ones_10 : decode cX9_ones 10 = .ok (.iload_n 1, 1) := by decide +kernel
theorem dX9_ones_11 : decode cX9_ones 11 = .ok (.iload_n 0, 1) := by decide +kernel
theorem dX9_ones_12 : decode cX9_ones 12 = .ok (.iload_n 2, 1) := by decide +kernel
theorem dX9_ones_13 : decode cX9_ones 13 = .ok (.ishr, 1) := by decide +kernel
theorem dX9_ones_14 : decode cX9_ones 14 = .ok (.iconst 1, 1) := by decide +kernel
theorem dX9_ones_15 : decode cX9_ones 15 = .ok (.iand, 1) := by decide +kernel
theorem dX9_ones_16 : decode cX9_ones 16 = .ok (.iadd, 1) := by decide +kernel
theorem dX9_ones_17 : decode cX9_ones 17 = .ok (.istore_n 1, 1) := by decide +kernel
theorem dX9_ones_18 : decode cX9_ones 18 = .ok (.iinc 2 1, 3) := by decide +kernel
theorem dX9_ones_21 : decode cX9_ones 21 = .ok (.goto (-17), 3) := by decide +kernel
theorem dX9_ones_24 : decode cX9_ones 24 = .ok (.iload_n 1, 1) := by decide +kernel
theorem dX9_ones_25 : decode cX9_ones 25 = .ok (.ireturn, 1) := by decide +kernel
theorem dX9_unlike_0 : decode cX9_unlike 0 = .ok (.aload_n 0, 1) := by decide +kernel
theorem dX9_unlike_1 : decode cX9_unlike 1 = .ok (.iconst 0, 1) := by decide +kernel
theorem dX9_unlike_2 : decode cX9_unlike 2 = .ok (.putfield 48, 3) := by decide +kernel
theorem dX9_unlike_5 : decode cX9_unlike 5 = .ok (.aload_n 0, 1) := by decide +kernel
theorem dX9_unlike_6 : decode cX9_unlike 6 = .ok (.iload_n 1, 1) := by decide +kernel
theorem dX9_unlike_7 : decode cX9_unlike 7 = .ok (.i2l, 1) := by decide +kernel
theorem dX9_unlike_8 : decode cX9_unlike 8 = .ok (.lconst 0, 1) := by decide +kernel
theorem dX9_unlike_9 : decode cX9_unlike 9 = .ok (.lconst 1, 1) := by decide +kernel
theorem dX9_unlike_10 : decode cX9_unlike 10 = .ok (.invokestatic 107, 3) := by decide +kernel
theorem dX9_unlike_13 : decode cX9_unlike 13 = .ok (.ifCond .ne 7, 3) := by decide +kernel
theorem dX9_unlike_16 : decode cX9_unlike 16 = .ok (.iconst 1, 1) := by decide +kernel
theorem dX9_unlike_17 : decode cX9_unlike 17 = .ok (.goto 4, 3) := by decide +kernel
theorem dX9_unlike_20 : decode cX9_unlike 20 = .ok (.iconst 0, 1) := by decide +kernel
theorem dX9_unlike_21 : decode cX9_unlike 21 = .ok (.iconst 1, 1) := by decide +kernel
theorem dX9_unlike_22 : decode cX9_unlike 22 = .ok (.iconst 1, 1) := by decide +kernel
theorem dX9_unlike_23 : decode cX9_unlike 23 = .ok (.invokevirtual 204, 3) := by decide +kernel
theorem dX9_unlike_26 : decode cX9_unlike 26 = .ok (.ifCond .eq 5, 3) := by decide +kernel
theorem dX9_unlike_29 : decode cX9_unlike 29 = .ok (.iconst 0, 1) := by decide +kernel
theorem dX9_unlike_30 : decode cX9_unlike 30 = .ok (.ireturn, 1) := by decide +kernel
theorem dX9_unlike_31 : decode cX9_unlike 31 = .ok (.aload_n 0, 1) := by decide +kernel
theorem dX9_unlike_32 : decode cX9_unlike 32 = .ok (.aload_n 0, 1) := by decide +kernel
theorem dX9_unlike_33 : decode cX9_unlike 33 = .ok (.getfield 20, 3) := by decide +kernel
theorem dX9_unlike_36 : decode cX9_unlike 36 = .ok (.iconst 0, 1) := by decide +kernel
theorem dX9_unlike_37 : decode cX9_unlike 37 = .ok (.invokevirtual 255, 3) := by decide +kernel
theorem dX9_unlike_40 : decode cX9_unlike 40 = .ok (.aload_n 0, 1) := by decide +kernel
theorem dX9_unlike_41 : decode cX9_unlike 41 = .ok (.iconst 0, 1) := by decide +kernel
theorem dX9_unlike_42 : decode cX9_unlike 42 = .ok (.invokevirtual 320, 3) := by decide +kernel
theorem dX9_unlike_45 : decode cX9_unlike 45 = .ok (.istore_n 2, 1) := by decide +kernel
theorem dX9_unlike_46 : decode cX9_unlike 46 = .ok (.aload_n 0, 1) := by decide +kernel
theorem dX9_unlike_47 : decode cX9_unlike 47 = .ok (.iconst 1, 1) := by decide +kernel
theorem dX9_unlike_48 : decode cX9_unlike 48 = .ok (.invokevirtual 320, 3) := by decide +kernel
theorem dX9_unlike_51 : decode cX9_unlike 51 = .ok (.istore_n 3, 1) := by decide +kernel
theorem dX9_unlike_52 : decode cX9_unlike 52 = .ok (.iload_n 2, 1) := by decide +kernel
theorem dX9_unlike_53 : decode cX9_unlike 53 = .ok (.iload_n 3, 1) := by decide +kernel
theorem dX9_unlike_54 : decode cX9_unlike 54 = .ok (.iand, 1) := by decide +kernel
theorem dX9_unlike_55 : decode cX9_unlike 55 = .ok (.ifCond .ne 7, 3) := by decide +kernel
theorem dX9_unlike_58 : decode cX9_unlike 58 = .ok (.iconst (-1), 1) := by decide +kernel
theorem dX9_unlike_59 : decode cX9_unlike 59 = .ok (.goto 25, 3) := by decide +kernel
theorem dX9_unlike_62 : decode cX9_unlike 62 = .ok (.iload_n 2, 1) := by decide +kernel
theorem dX9_unlike_63 : decode cX9_unlike 63 = .ok (.invokestatic 323, 3) := by decide +kernel
theorem dX9_unlike_66 : decode cX9_unlike 66 = .ok (.iload_n 3, 1) := by decide +kernel
theorem dX9_unlike_67 : decode cX9_unlike 67 = .ok (.invokestatic 323, 3) := by decide +kernel
theorem dX9_unlike_70 : decode cX9_unlike 70 = .ok (.imul, 1) := by decide +kernel
theorem dX9_unlike_71 : decode cX9_unlike 71 = .ok (.i2l, 1) := by decide +kernel
theorem dX9_unlike_72 : decode cX9_unlike 72 = .ok (.iload_n 2, 1) := by decide +kernel
theorem dX9_unlike_73 : decode cX9_unlike 73 = .ok (.iload_n 3, 1) := by decide +kernel
theorem dX9_unlike_74 : decode cX9_unlike 74 = .ok (.iand, 1) := by decide +kernel
theorem dX9_unlike_75 : decode cX9_unlike 75 = .ok (.invokestatic 323, 3) := by decide +kernel
theorem dX9_unlike_78 : decode cX9_unlike 78 = .ok (.i2l, 1) := by decide +kernel
theorem dX9_unlike_79 : decode cX9_unlike 79 = .ok (.iload_n 1, 1) := by decide +kernel
theorem dX9_unlike_80 : decode cX9_unlike 80 = .ok (.invokestatic 316, 3) := by decide +kernel
theorem dX9_unlike_83 : decode cX9_unlike 83 = .ok (.l2i, 1) := by decide +kernel
theorem dX9_unlike_84 : decode cX9_unlike 84 = .ok (.ireturn, 1) := by decide +kernel
theorem dX9_adds_0 : decode cX9_adds 0 = .ok (.iload_n 2, 1) := by decide +kernel
theorem dX9_adds_1 : decode cX9_adds 1 = .ok (.istore_n 3, 1) := by decide +kernel
theorem dX9_adds_2 : decode cX9_adds 2 = .ok (.iload_n 3, 1) := by decide +kernel
theorem dX9_adds_3 : decode cX9_adds 3 = .ok (.ifCond .le 29, 3) := by decide +kernel
theorem dX9_adds_6 : decode cX9_adds 6 = .ok (.aload_n 0, 1) := by decide +kernel
theorem dX9_adds_7 : decode cX9_adds 7 = .ok (.getfield 40, 3) := by decide +kernel
theorem dX9_adds_10 : decode cX9_adds 10 = .ok (.iload_n 3, 1) := by decide +kernel
theorem dX9_adds_11 : decode cX9_adds 11 = .ok (.dup2, 1) := by decide +kernel
theorem dX9_adds_12 : decode cX9_adds 12 = .ok (.laload, 1) := by decide +kernel
theorem dX9_adds_13 : decode cX9_adds 13 = .ok (.iload_n 1, 1) := by decide +kernel
theorem dX9_adds_14 : decode cX9_adds 14 = .ok (.i2l, 1) := by decide +kernel
theorem dX9_adds_15 : decode cX9_adds 15 = .ok (.aload_n 0, 1) := by decide +kernel
theorem dX9_adds_16 : decode cX9_adds 16 = .ok (.getfield 40, 3) := by decide +kernel
theorem dX9_adds_19 : decode cX9_adds 19 = .ok (.iload_n 3, 1) := by decide +kernel
theorem dX9_adds_20 : decode cX9_adds 20 = .ok (.iconst 1, 1) := by decide +kernel
theorem dX9_adds_21 : decode cX9_adds 21 = .ok (.isub, 1) := by decide +kernel
theorem dX9_adds_22 : decode cX9_adds 22 = .ok (.laload, 1) := by decide +kernel
theorem dX9_adds_23 : decode cX9_adds 23 = .ok (.lmul, 1) := by decide +kernel
theorem dX9_adds_24 : decode cX9_adds 24 = .ok (.ladd, 1) := by decide +kernel
theorem dX9_adds_25 : decode cX9_adds 25 = .ok (.lastore, 1) := by decide +kernel
theorem dX9_adds_26 : decode cX9_adds 26 = .ok (.iinc 3 (-1), 3) := by decide +kernel
theorem dX9_adds_29 : decode cX9_adds 29 = .ok (.goto (-27), 3) := by decide +kernel
theorem dX9_adds_32 : decode cX9_adds 32 = .ok (.return_, 1) := by decide +kernel
theorem dX9_unseen_0 : decode cX9_unseen 0 = .ok (.aload_n 0, 1) := by decide +kernel
theorem dX9_unseen_1 : decode cX9_unseen 1 = .ok (.iconst 0, 1) := by decide +kernel
theorem dX9_unseen_2 : decode cX9_unseen 2 = .ok (.putfield 48, 3) := by decide +kernel
theorem dX9_unseen_5 : decode cX9_unseen 5 = .ok (.aload_n 0, 1) := by decide +kernel
theorem dX9_unseen_6 : decode cX9_unseen 6 = .ok (.iload_n 1, 1) := by decide +kernel
theorem dX9_unseen_7 : decode cX9_unseen 7 = .ok (.i2l, 1) := by decide +kernel
theorem dX9_unseen_8 : decode cX9_unseen 8 = .ok (.lconst 0, 1) := by decide +kernel
theorem dX9_unseen_9 : decode cX9_unseen 9 = .ok (.aload_n 0, 1) := by decide +kernel
theorem dX9_unseen_10 : decode cX9_unseen 10 = .ok (.invokevirtual 218, 3) := by decide +kernel
theorem dX9_unseen_13 : decode cX9_unseen 13 = .ok (.i2l, 1) := by decide +kernel
theorem dX9_unseen_14 : decode cX9_unseen 14 = .ok (.invokestatic 107, 3) := by decide +kernel
theorem dX9_unseen_17 : decode cX9_unseen 17 = .ok (.ifCond .eq 13, 3) := by decide +kernel
theorem dX9_unseen_20 : decode cX9_unseen 20 = .ok (.iload_n 2, 1) := by decide +kernel
theorem dX9_unseen_21 : decode cX9_unseen 21 = .ok (.i2l, 1) := by decide +kernel
theorem dX9_unseen_22 : decode cX9_unseen 22 = .ok (.lconst 0, 1) := by decide +kernel
theorem dX9_unseen_23 : decode cX9_unseen 23 = .ok (.lconst 1, 1) := by decide +kernel
theorem dX9_unseen_24 : decode cX9_unseen 24 = .ok (.invokestatic 107, 3) := by decide +kernel
theorem dX9_unseen_27 : decode cX9_unseen 27 = .ok (.ifCond .ne 7, 3) := by decide +kernel
theorem dX9_unseen_30 : decode cX9_unseen 30 = .ok (.iconst 1, 1) := by decide +kernel
theorem dX9_unseen_31 : decode cX9_unseen 31 = .ok (.goto 4, 3) := by decide +kernel
theorem dX9_unseen_34 : decode cX9_unseen 34 = .ok (.iconst 0, 1) := by decide +kernel
theorem dX9_unseen_35 : decode cX9_unseen 35 = .ok (.iconst 1, 1) := by decide +kernel
theorem dX9_unseen_36 : decode cX9_unseen 36 = .ok (.iconst 1, 1) := by decide +kernel
theorem dX9_unseen_37 : decode cX9_unseen 37 = .ok (.invokevirtual 204, 3) := by decide +kernel
theorem dX9_unseen_40 : decode cX9_unseen 40 = .ok (.ifCond .eq 5, 3) := by decide +kernel
theorem dX9_unseen_43 : decode cX9_unseen 43 = .ok (.lconst 0, 1) := by decide +kernel
theorem dX9_unseen_44 : decode cX9_unseen 44 = .ok (.lreturn, 1) := by decide +kernel
theorem dX9_unseen_45 : decode cX9_unseen 45 = .ok (.aload_n 0, 1) := by decide +kernel
theorem dX9_unseen_46 : decode cX9_unseen 46 = .ok (.aload_n 0, 1) := by decide +kernel
theorem dX9_unseen_47 : decode cX9_unseen 47 = .ok (.getfield 20, 3) := by decide +kernel
theorem dX9_unseen_50 : decode cX9_unseen 50 = .ok (.iconst 0, 1) := by decide +kernel
theorem dX9_unseen_51 : decode cX9_unseen 51 = .ok (.invokevirtual 255, 3) := by decide +kernel
theorem dX9_unseen_54 : decode cX9_unseen 54 = .ok (.iconst 0, 1) := by decide +kernel
theorem dX9_unseen_55 : decode cX9_unseen 55 = .ok (.istore_n 3, 1) := by decide +kernel
theorem dX9_unseen_56 : decode cX9_unseen 56 = .ok (.iload_n 3, 1) := by decide +kernel
theorem dX9_unseen_57 : decode cX9_unseen 57 = .ok (.bipush 40, 2) := by decide +kernel
theorem dX9_unseen_59 : decode cX9_unseen 59 = .ok (.if_icmp .gt 24, 3) := by decide +kernel
theorem dX9_unseen_62 : decode cX9_unseen 62 = .ok (.aload_n 0, 1) := by decide +kernel
theorem dX9_unseen_63 : decode cX9_unseen 63 = .ok (.getfield 40, 3) := by decide +kernel
theorem dX9_unseen_66 : decode cX9_unseen 66 = .ok (.iload_n 3, 1) := by decide +kernel
theorem dX9_unseen_67 : decode cX9_unseen 67 = .ok (.iload_n 3, 1) := by decide +kernel
theorem dX9_unseen_68 : decode cX9_unseen 68 = .ok (.ifCond .ne 7, 3) := by decide +kernel
theorem dX9_unseen_71 : decode cX9_unseen 71 = .ok (.lconst 1, 1) := by decide +kernel
theorem dX9_unseen_72 : decode cX9_unseen 72 = .ok (.goto 4, 3) := by decide +kernel
theorem dX9_unseen_75 : decode cX9_unseen 75 = .ok (.lconst 0, 1) := by decide +kernel
theorem dX9_unseen_76 : decode cX9_unseen 76 = .ok (.lastore, 1) := by decide +kernel
theorem dX9_unseen_77 : decode cX9_unseen 77 = .ok (.iinc 3 1, 3) := by decide +kernel
theorem dX9_unseen_80 : decode cX9_unseen 80 = .ok (.goto (-24), 3) := by decide +kernel
theorem dX9_unseen_83 : decode cX9_unseen 83 = .ok (.iconst 0, 1) := by decide +kernel
theorem dX9_unseen_84 : decode cX9_unseen 84 = .ok (.istore_n 3, 1) := by decide +kernel
theorem dX9_unseen_85 : decode cX9_unseen 85 = .ok (.iload_n 3, 1) := by decide +kernel
theorem dX9_unseen_86 : decode cX9_unseen 86 = .ok (.aload_n 0, 1) := by decide +kernel
theorem dX9_unseen_87 : decode cX9_unseen 87 = .ok (.invokevirtual 218, 3) := by decide +kernel
theorem dX9_unseen_90 : decode cX9_unseen 90 = .ok (.if_icmp .ge 23, 3) := by decide +kernel
theorem dX9_unseen_93 : decode cX9_unseen 93 = .ok (.aload_n 0, 1) := by decide +kernel
theorem dX9_unseen_94 : decode cX9_unseen 94 = .ok (.iload_n 3, 1) := by decide +kernel
theorem dX9_unseen_95 : decode cX9_unseen 95 = .ok (.invokevirtual 248, 3) := by decide +kernel
theorem dX9_unseen_98 : decode cX9_unseen 98 = .ok (.ifCond .ne 9, 3) := by decide +kernel
theorem dX9_unseen_101 : decode cX9_unseen 101 = .ok (.aload_n 0, 1) := by decide +kernel
theorem dX9_unseen_102 : decode cX9_unseen 102 = .ok (.iconst 1, 1) := by decide +kernel
theorem dX9_unseen_103 : decode cX9_unseen 103 = .ok (.iload_n 1, 1) := by decide +kernel
theorem dX9_unseen_104 : decode cX9_unseen 104 = .ok (.invokevirtual 326, 3) := by decide +kernel
theorem dX9_unseen_107 : decode cX9_unseen 107 = .ok (.iinc 3 1, 3) := by decide +kernel
theorem dX9_unseen_110 : decode cX9_unseen 110 = .ok (.goto (-25), 3) := by decide +kernel
theorem dX9_unseen_113 : decode cX9_unseen 113 = .ok (.iconst 0, 1) := by decide +kernel
theorem dX9_unseen_114 : decode cX9_unseen 114 = .ok (.istore_n 3, 1) := by decide +kernel
theorem dX9_unseen_115 : decode cX9_unseen 115 = .ok (.iload_n 3, 1) := by decide +kernel
theorem dX9_unseen_116 : decode cX9_unseen 116 = .ok (.aload_n 0, 1) := by decide +kernel
theorem dX9_unseen_117 : decode cX9_unseen 117 = .ok (.getfield 20, 3) := by decide +kernel
theorem dX9_unseen_120 : decode cX9_unseen 120 = .ok (.iconst 0, 1) := by decide +kernel
theorem dX9_unseen_121 : decode cX9_unseen 121 = .ok (.iaload, 1) := by decide +kernel
theorem dX9_unseen_122 : decode cX9_unseen 122 = .ok (.if_icmp .ge 67, 3) := by decide +kernel
theorem dX9_unseen_125 : decode cX9_unseen 125 = .ok (.iconst 0, 1) := by decide +kernel
theorem dX9_unseen_126 : decode cX9_unseen 126 = .ok (.istore 4, 2) := by decide +kernel
theorem dX9_unseen_128 : decode cX9_unseen 128 = .ok (.iconst 0, 1) := by decide +kernel
theorem dX9_unseen_129 : decode cX9_unseen 129 = .ok (.istore 5, 2) := by decide +kernel
theorem dX9_unseen_131 : decode cX9_unseen 131 = .ok (.iload 5, 2) := by decide +kernel
theorem dX9_unseen_133 : decode cX9_unseen 133 = .ok (.aload_n 0, 1) := by decide +kernel
theorem dX9_unseen_134 : decode cX9_unseen 134 = .ok (.invokevirtual 218, 3) := by decide +kernel
theorem dX9_unseen_137 : decode cX9_unseen 137 = .ok (.if_icmp .ge 39, 3) := by decide +kernel
theorem dX9_unseen_140 : decode cX9_unseen 140 = .ok (.iload 4, 2) := by decide +kernel
theorem dX9_unseen_142 : decode cX9_unseen 142 = .ok (.aload_n 0, 1) := by decide +kernel
theorem dX9_unseen_143 : decode cX9_unseen 143 = .ok (.iload 5, 2) := by decide +kernel
theorem dX9_unseen_145 : decode cX9_unseen 145 = .ok (.invokevirtual 248, 3) := by decide +kernel
theorem dX9_unseen_148 : decode cX9_unseen 148 = .ok (.ifCond .eq 18, 3) := by decide +kernel
theorem dX9_unseen_151 : decode cX9_unseen 151 = .ok (.aload_n 0, 1) := by decide +kernel
theorem dX9_unseen_152 : decode cX9_unseen 152 = .ok (.getfield 34, 3) := by decide +kernel
theorem dX9_unseen_155 : decode cX9_unseen 155 = .ok (.iload 5, 2) := by decide +kernel
theorem dX9_unseen_157 : decode cX9_unseen 157 = .ok (.iaload, 1) := by decide +kernel
theorem dX9_unseen_158 : decode cX9_unseen 158 = .ok (.iload_n 3, 1) := by decide +kernel
theorem dX9_unseen_159 : decode cX9_unseen 159 = .ok (.if_icmp .ne 7, 3) := by decide +kernel
theorem dX9_unseen_162 : decode cX9_unseen 162 = .ok (.iconst 1, 1) := by decide +kernel
theorem dX9_unseen_163 : decode cX9_unseen 163 = .ok (.goto 4, 3) := by decide +kernel
theorem dX9_unseen_166 : decode cX9_unseen 166 = .ok (.iconst 0, 1) := by decide +kernel
theorem dX9_unseen_167 : decode cX9_unseen 167 = .ok (.iadd, 1) := by decide +kernel
theorem dX9_unseen_168 : decode cX9_unseen 168 = .ok (.istore 4, 2) := by decide +kernel
theorem dX9_unseen_170 : decode cX9_unseen 170 = .ok (.iinc 5 1, 3) := by decide +kernel
theorem dX9_unseen_173 : decode cX9_unseen 173 = .ok (.goto (-42), 3) := by decide +kernel
theorem dX9_unseen_176 : decode cX9_unseen 176 = .ok (.aload_n 0, 1) := by decide +kernel
theorem dX9_unseen_177 : decode cX9_unseen 177 = .ok (.iload 4, 2) := by decide +kernel
theorem dX9_unseen_179 : decode cX9_unseen 179 = .ok (.iload_n 1, 1) := by decide +kernel
theorem dX9_unseen_180 : decode cX9_unseen 180 = .ok (.invokevirtual 326, 3) := by decide +kernel
theorem dX9_unseen_183 : decode cX9_unseen 183 = .ok (.iinc 3 1, 3) := by decide +kernel
theorem dX9_unseen_186 : decode cX9_unseen 186 = .ok (.goto (-71), 3) := by decide +kernel
theorem dX9_unseen_189 : decode cX9_unseen 189 = .ok (.aload_n 0, 1) := by decide +kernel
theorem dX9_unseen_190 : decode cX9_unseen 190 = .ok (.getfield 40, 3) := by decide +kernel
theorem dX9_unseen_193 : decode cX9_unseen 193 = .ok (.iload_n 1, 1) := by decide +kernel
theorem dX9_unseen_194 : decode cX9_unseen 194 = .ok (.laload, 1) := by decide +kernel
theorem dX9_unseen_195 : decode cX9_unseen 195 = .ok (.aload_n 0, 1) := by decide +kernel
theorem dX9_unseen_196 : decode cX9_unseen 196 = .ok (.invokevirtual 218, 3) := by decide +kernel
theorem dX9_unseen_199 : decode cX9_unseen 199 = .ok (.iload_n 1, 1) := by decide +kernel
theorem dX9_unseen_200 : decode cX9_unseen 200 = .ok (.invokestatic 290, 3) := by decide +kernel
theorem dX9_unseen_203 : decode cX9_unseen 203 = .ok (.iload_n 2, 1) := by decide +kernel
theorem dX9_unseen_204 : decode cX9_unseen 204 = .ok (.invokestatic 316, 3) := by decide +kernel
theorem dX9_unseen_207 : decode cX9_unseen 207 = .ok (.lreturn, 1) := by decide +kernel
theorem dX9_fewest_0 : decode cX9_fewest 0 = .ok (.aload_n 0, 1) := by decide +kernel
theorem dX9_fewest_1 : decode cX9_fewest 1 = .ok (.iconst 0, 1) := by decide +kernel
theorem dX9_fewest_2 : decode cX9_fewest 2 = .ok (.putfield 48, 3) := by decide +kernel
theorem dX9_fewest_5 : decode cX9_fewest 5 = .ok (.iconst 1, 1) := by decide +kernel
theorem dX9_fewest_6 : decode cX9_fewest 6 = .ok (.istore_n 1, 1) := by decide +kernel
theorem dX9_fewest_7 : decode cX9_fewest 7 = .ok (.iload_n 1, 1) := by decide +kernel
theorem dX9_fewest_8 : decode cX9_fewest 8 = .ok (.aload_n 0, 1) := by decide +kernel
theorem dX9_fewest_9 : decode cX9_fewest 9 = .ok (.invokevirtual 218, 3) := by decide +kernel
theorem dX9_fewest_12 : decode cX9_fewest 12 = .ok (.if_icmp .gt 26, 3) := by decide +kernel
theorem dX9_fewest_15 : decode cX9_fewest 15 = .ok (.aload_n 0, 1) := by decide +kernel
theorem dX9_fewest_16 : decode cX9_fewest 16 = .ok (.iload_n 1, 1) := by decide +kernel
theorem dX9_fewest_17 : decode cX9_fewest 17 = .ok (.iload_n 1, 1) := by decide +kernel
theorem dX9_fewest_18 : decode cX9_fewest 18 = .ok (.invokevirtual 310, 3) := by decide +kernel
theorem dX9_fewest_21 : decode cX9_fewest 21 = .ok (.aload_n 0, 1) := by decide +kernel
theorem dX9_fewest_22 : decode cX9_fewest 22 = .ok (.getfield 20, 3) := by decide +kernel
theorem dX9_fewest_25 : decode cX9_fewest 25 = .ok (.iconst 3, 1) := by decide +kernel
theorem dX9_fewest_26 : decode cX9_fewest 26 = .ok (.iaload, 1) := by decide +kernel
theorem dX9_fewest_27 : decode cX9_fewest 27 = .ok (.if_icmp .lt 5, 3) := by decide +kernel
theorem dX9_fewest_30 : decode cX9_fewest 30 = .ok (.iload_n 1, 1) := by decide +kernel
theorem dX9_fewest_31 : decode cX9_fewest 31 = .ok (.ireturn, 1) := by decide +kernel
theorem dX9_fewest_32 : decode cX9_fewest 32 = .ok (.iinc 1 1, 3) := by decide +kernel
theorem dX9_fewest_35 : decode cX9_fewest 35 = .ok (.goto (-28), 3) := by decide +kernel
theorem dX9_fewest_38 : decode cX9_fewest 38 = .ok (.iconst (-1), 1) := by decide +kernel
theorem dX9_fewest_39 : decode cX9_fewest 39 = .ok (.ireturn, 1) := by decide +kernel
theorem dX9_worst_0 : decode cX9_worst 0 = .ok (.aload_n 0, 1) := by decide +kernel
theorem dX9_worst_1 : decode cX9_worst 1 = .ok (.iconst 0, 1) := by decide +kernel
theorem dX9_worst_2 : decode cX9_worst 2 = .ok (.putfield 48, 3) := by decide +kernel
theorem dX9_worst_5 : decode cX9_worst 5 = .ok (.aload_n 0, 1) := by decide +kernel
theorem dX9_worst_6 : decode cX9_worst 6 = .ok (.iload_n 1, 1) := by decide +kernel
theorem dX9_worst_7 : decode cX9_worst 7 = .ok (.i2l, 1) := by decide +kernel
theorem dX9_worst_8 : decode cX9_worst 8 = .ok (.lconst 1, 1) := by decide +kernel
theorem dX9_worst_9 : decode cX9_worst 9 = .ok (.ldc2_w 283, 3) := by decide +kernel
theorem dX9_worst_12 : decode cX9_worst 12 = .ok (.invokestatic 107, 3) := by decide +kernel
theorem dX9_worst_15 : decode cX9_worst 15 = .ok (.ifCond .eq 13, 3) := by decide +kernel
theorem dX9_worst_18 : decode cX9_worst 18 = .ok (.iload_n 2, 1) := by decide +kernel
theorem dX9_worst_19 : decode cX9_worst 19 = .ok (.i2l, 1) := by decide +kernel
theorem dX9_worst_20 : decode cX9_worst 20 = .ok (.lconst 0, 1) := by decide +kernel
theorem dX9_worst_21 : decode cX9_worst 21 = .ok (.lconst 1, 1) := by decide +kernel
theorem dX9_worst_22 : decode cX9_worst 22 = .ok (.invokestatic 107, 3) := by decide +kernel
theorem dX9_worst_25 : decode cX9_worst 25 = .ok (.ifCond .ne 7, 3) := by decide +kernel
theorem dX9_worst_28 : decode cX9_worst 28 = .ok (.iconst 1, 1) := by decide +kernel
theorem dX9_worst_29 : decode cX9_worst 29 = .ok (.goto 4, 3) := by decide +kernel
theorem dX9_worst_32 : decode cX9_worst 32 = .ok (.iconst 0, 1) := by decide +kernel
theorem dX9_worst_33 : decode cX9_worst 33 = .ok (.iconst 1, 1) := by decide +kernel
theorem dX9_worst_34 : decode cX9_worst 34 = .ok (.iconst 1, 1) := by decide +kernel
theorem dX9_worst_35 : decode cX9_worst 35 = .ok (.invokevirtual 204, 3) := by decide +kernel
theorem dX9_worst_38 : decode cX9_worst 38 = .ok (.ifCond .eq 5, 3) := by decide +kernel
theorem dX9_worst_41 : decode cX9_worst 41 = .ok (.iconst 0, 1) := by decide +kernel
theorem dX9_worst_42 : decode cX9_worst 42 = .ok (.ireturn, 1) := by decide +kernel
theorem dX9_worst_43 : decode cX9_worst 43 = .ok (.aload_n 0, 1) := by decide +kernel
theorem dX9_worst_44 : decode cX9_worst 44 = .ok (.aload_n 0, 1) := by decide +kernel
theorem dX9_worst_45 : decode cX9_worst 45 = .ok (.getfield 20, 3) := by decide +kernel
theorem dX9_worst_48 : decode cX9_worst 48 = .ok (.iconst 0, 1) := by decide +kernel
theorem dX9_worst_49 : decode cX9_worst 49 = .ok (.invokevirtual 255, 3) := by decide +kernel
theorem dX9_worst_52 : decode cX9_worst 52 = .ok (.aload_n 0, 1) := by decide +kernel
theorem dX9_worst_53 : decode cX9_worst 53 = .ok (.getfield 228, 3) := by decide +kernel
theorem dX9_worst_56 : decode cX9_worst 56 = .ok (.istore_n 3, 1) := by decide +kernel
theorem dX9_worst_57 : decode cX9_worst 57 = .ok (.iconst (-1), 1) := by decide +kernel
theorem dX9_worst_58 : decode cX9_worst 58 = .ok (.istore 4, 2) := by decide +kernel
theorem dX9_worst_60 : decode cX9_worst 60 = .ok (.iconst 0, 1) := by decide +kernel
theorem dX9_worst_61 : decode cX9_worst 61 = .ok (.istore 5, 2) := by decide +kernel
theorem dX9_worst_63 : decode cX9_worst 63 = .ok (.iconst 0, 1) := by decide +kernel
theorem dX9_worst_64 : decode cX9_worst 64 = .ok (.istore 6, 2) := by decide +kernel
theorem dX9_worst_66 : decode cX9_worst 66 = .ok (.iload 6, 2) := by decide +kernel
theorem dX9_worst_68 : decode cX9_worst 68 = .ok (.iconst 1, 1) := by decide +kernel
theorem dX9_worst_69 : decode cX9_worst 69 = .ok (.aload_n 0, 1) := by decide +kernel
theorem dX9_worst_70 : decode cX9_worst 70 = .ok (.getfield 20, 3) := by decide +kernel
theorem dX9_worst_73 : decode cX9_worst 73 = .ok (.iconst 1, 1) := by decide +kernel
theorem dX9_worst_74 : decode cX9_worst 74 = .ok (.iaload, 1) := by decide +kernel
theorem dX9_worst_75 : decode cX9_worst 75 = .ok (.ishl, 1) := by decide +kernel
theorem dX9_worst_76 : decode cX9_worst 76 = .ok (.if_icmp .ge 69, 3) := by decide +kernel
theorem dX9_worst_79 : decode cX9_worst 79 = .ok (.iload 6, 2) := by decide +kernel
theorem dX9_worst_81 : decode cX9_worst 81 = .ok (.iload_n 3, 1) := by decide +kernel
theorem dX9_worst_82 : decode cX9_worst 82 = .ok (.iand, 1) := by decide +kernel
theorem dX9_worst_83 : decode cX9_worst 83 = .ok (.ifCond .ne 56, 3) := by decide +kernel
theorem dX9_worst_86 : decode cX9_worst 86 = .ok (.iload 6, 2) := by decide +kernel
theorem dX9_worst_88 : decode cX9_worst 88 = .ok (.invokestatic 323, 3) := by decide +kernel
theorem dX9_worst_91 : decode cX9_worst 91 = .ok (.iload_n 1, 1) := by decide +kernel
theorem dX9_worst_92 : decode cX9_worst 92 = .ok (.if_icmp .eq 6, 3) := by decide +kernel
theorem dX9_worst_95 : decode cX9_worst 95 = .ok (.goto 44, 3) := by decide +kernel
theorem dX9_worst_98 : decode cX9_worst 98 = .ok (.aload_n 0, 1) := by decide +kernel
theorem dX9_worst_99 : decode cX9_worst 99 = .ok (.aload_n 0, 1) := by decide +kernel
theorem dX9_worst_100 : decode cX9_worst 100 = .ok (.getfield 20, 3) := by decide +kernel
theorem dX9_worst_103 : decode cX9_worst 103 = .ok (.iload 6, 2) := by decide +kernel
theorem dX9_worst_105 : decode cX9_worst 105 = .ok (.invokevirtual 255, 3) := by decide +kernel
theorem dX9_worst_108 : decode cX9_worst 108 = .ok (.aload_n 0, 1) := by decide +kernel
theorem dX9_worst_109 : decode cX9_worst 109 = .ok (.iconst 0, 1) := by decide +kernel
theorem dX9_worst_110 : decode cX9_worst 110 = .ok (.invokevirtual 287, 3) := by decide +kernel
theorem dX9_worst_113 : decode cX9_worst 113 = .ok (.istore 7, 2) := by decide +kernel
theorem dX9_worst_115 : decode cX9_worst 115 = .ok (.iload 4, 2) := by decide +kernel
theorem dX9_worst_117 : decode cX9_worst 117 = .ok (.iconst (-1), 1) := by decide +kernel
theorem dX9_worst_118 : decode cX9_worst 118 = .ok (.if_icmp .eq 13, 3) := by decide +kernel
theorem dX9_worst_121 : decode cX9_worst 121 = .ok (.iload 7, 2) := by decide +kernel
theorem dX9_worst_123 : decode cX9_worst 123 = .ok (.iload 5, 2) := by decide +kernel
theorem dX9_worst_125 : decode cX9_worst 125 = .ok (.if_icmp .lt 6, 3) := by decide +kernel
theorem dX9_worst_128 : decode cX9_worst 128 = .ok (.goto 11, 3) := by decide +kernel
theorem dX9_worst_131 : decode cX9_worst 131 = .ok (.iload 6, 2) := by decide +kernel
theorem dX9_worst_133 : decode cX9_worst 133 = .ok (.istore 4, 2) := by decide +kernel
theorem dX9_worst_135 : decode cX9_worst 135 = .ok (.iload 7, 2) := by decide +kernel
theorem dX9_worst_137 : decode cX9_worst 137 = .ok (.istore 5, 2) := by decide +kernel
theorem dX9_worst_139 : decode cX9_worst 139 = .ok (.iinc 6 1, 3) := by decide +kernel
theorem dX9_worst_142 : decode cX9_worst 142 = .ok (.goto (-76), 3) := by decide +kernel
theorem dX9_worst_145 : decode cX9_worst 145 = .ok (.iload 4, 2) := by decide +kernel
theorem dX9_worst_147 : decode cX9_worst 147 = .ok (.iconst (-1), 1) := by decide +kernel
theorem dX9_worst_148 : decode cX9_worst 148 = .ok (.if_icmp .ne 7, 3) := by decide +kernel
theorem dX9_worst_151 : decode cX9_worst 151 = .ok (.iconst (-1), 1) := by decide +kernel
theorem dX9_worst_152 : decode cX9_worst 152 = .ok (.goto 14, 3) := by decide +kernel
theorem dX9_worst_155 : decode cX9_worst 155 = .ok (.iload_n 2, 1) := by decide +kernel
theorem dX9_worst_156 : decode cX9_worst 156 = .ok (.ifCond .ne 8, 3) := by decide +kernel
theorem dX9_worst_159 : decode cX9_worst 159 = .ok (.iload 4, 2) := by decide +kernel
theorem dX9_worst_161 : decode cX9_worst 161 = .ok (.goto 5, 3) := by decide +kernel
theorem dX9_worst_164 : decode cX9_worst 164 = .ok (.iload 5, 2) := by decide +kernel
theorem dX9_worst_166 : decode cX9_worst 166 = .ok (.ireturn, 1) := by decide +kernel
theorem dX9_cost_0 : decode cX9_cost 0 = .ok (.aload_n 0, 1) := by decide +kernel
theorem dX9_cost_1 : decode cX9_cost 1 = .ok (.iconst 0, 1) := by decide +kernel
theorem dX9_cost_2 : decode cX9_cost 2 = .ok (.putfield 48, 3) := by decide +kernel
theorem dX9_cost_5 : decode cX9_cost 5 = .ok (.aload_n 0, 1) := by decide +kernel
theorem dX9_cost_6 : decode cX9_cost 6 = .ok (.iload_n 1, 1) := by decide +kernel
theorem dX9_cost_7 : decode cX9_cost 7 = .ok (.ifCond .lt 18, 3) := by decide +kernel
theorem dX9_cost_10 : decode cX9_cost 10 = .ok (.iload_n 1, 1) := by decide +kernel
theorem dX9_cost_11 : decode cX9_cost 11 = .ok (.i2l, 1) := by decide +kernel
theorem dX9_cost_12 : decode cX9_cost 12 = .ok (.aload_n 0, 1) := by decide +kernel
theorem dX9_cost_13 : decode cX9_cost 13 = .ok (.invokevirtual 218, 3) := by decide +kernel
theorem dX9_cost_16 : decode cX9_cost 16 = .ok (.i2l, 1) := by decide +kernel
theorem dX9_cost_17 : decode cX9_cost 17 = .ok (.lmul, 1) := by decide +kernel
theorem dX9_cost_18 : decode cX9_cost 18 = .ok (.ldc2_w 331, 3) := by decide +kernel
theorem dX9_cost_21 : decode cX9_cost 21 = .ok (.lcmp, 1) := by decide +kernel
theorem dX9_cost_22 : decode cX9_cost 22 = .ok (.ifCond .le 7, 3) := by decide +kernel
theorem dX9_cost_25 : decode cX9_cost 25 = .ok (.iconst 1, 1) := by decide +kernel
theorem dX9_cost_26 : decode cX9_cost 26 = .ok (.goto 4, 3) := by decide +kernel
theorem dX9_cost_29 : decode cX9_cost 29 = .ok (.iconst 0, 1) := by decide +kernel
theorem dX9_cost_30 : decode cX9_cost 30 = .ok (.iconst 1, 1) := by decide +kernel
theorem dX9_cost_31 : decode cX9_cost 31 = .ok (.iconst 1, 1) := by decide +kernel
theorem dX9_cost_32 : decode cX9_cost 32 = .ok (.invokevirtual 204, 3) := by decide +kernel
theorem dX9_cost_35 : decode cX9_cost 35 = .ok (.ifCond .eq 5, 3) := by decide +kernel
theorem dX9_cost_38 : decode cX9_cost 38 = .ok (.iconst 0, 1) := by decide +kernel
theorem dX9_cost_39 : decode cX9_cost 39 = .ok (.ireturn, 1) := by decide +kernel
theorem dX9_cost_40 : decode cX9_cost 40 = .ok (.iload_n 1, 1) := by decide +kernel
theorem dX9_cost_41 : decode cX9_cost 41 = .ok (.aload_n 0, 1) := by decide +kernel
theorem dX9_cost_42 : decode cX9_cost 42 = .ok (.invokevirtual 218, 3) := by decide +kernel
theorem dX9_cost_45 : decode cX9_cost 45 = .ok (.imul, 1) := by decide +kernel
theorem dX9_cost_46 : decode cX9_cost 46 = .ok (.ireturn, 1) := by decide +kernel
theorem dX9_print_0 : decode cX9_print 0 = .ok (.aload_n 0, 1) := by decide +kernel
theorem dX9_print_1 : decode cX9_print 1 = .ok (.iconst 0, 1) := by decide +kernel
theorem dX9_print_2 : decode cX9_print 2 = .ok (.putfield 48, 3) := by decide +kernel
theorem dX9_print_5 : decode cX9_print 5 = .ok (.aload_n 0, 1) := by decide +kernel
theorem dX9_print_6 : decode cX9_print 6 = .ok (.aload_n 0, 1) := by decide +kernel
theorem dX9_print_7 : decode cX9_print 7 = .ok (.getfield 20, 3) := by decide +kernel
theorem dX9_print_10 : decode cX9_print 10 = .ok (.iconst 0, 1) := by decide +kernel
theorem dX9_print_11 : decode cX9_print 11 = .ok (.invokevirtual 255, 3) := by decide +kernel
theorem dX9_print_14 : decode cX9_print 14 = .ok (.lconst 0, 1) := by decide +kernel
theorem dX9_print_15 : decode cX9_print 15 = .ok (.lstore_n 1, 1) := by decide +kernel
theorem dX9_print_16 : decode cX9_print 16 = .ok (.iconst 0, 1) := by decide +kernel
theorem dX9_print_17 : decode cX9_print 17 = .ok (.istore_n 3, 1) := by decide +kernel
theorem dX9_print_18 : decode cX9_print 18 = .ok (.iload_n 3, 1) := by decide +kernel
theorem dX9_print_19 : decode cX9_print 19 = .ok (.aload_n 0, 1) := by decide +kernel
theorem dX9_print_20 : decode cX9_print 20 = .ok (.invokevirtual 218, 3) := by decide +kernel
theorem dX9_print_23 : decode cX9_print 23 = .ok (.if_icmp .ge 39, 3) := by decide +kernel
theorem dX9_print_26 : decode cX9_print 26 = .ok (.ldc2_w 333, 3) := by decide +kernel
theorem dX9_print_29 : decode cX9_print 29 = .ok (.ldc2_w 333, 3) := by decide +kernel
theorem dX9_print_32 : decode cX9_print 32 = .ok (.lload_n 1, 1) := by decide +kernel
theorem dX9_print_33 : decode cX9_print 33 = .ok (.lmul, 1) := by decide +kernel
theorem dX9_print_34 : decode cX9_print 34 = .ok (.aload_n 0, 1) := by decide +kernel
theorem dX9_print_35 : decode cX9_print 35 = .ok (.getfield 20, 3) := by decide +kernel
theorem dX9_print_38 : decode cX9_print 38 = .ok (.iload_n 3, 1) := by decide +kernel
theorem dX9_print_39 : decode cX9_print 39 = .ok (.iconst 1, 1) := by decide +kernel
theorem dX9_print_40 : decode cX9_print 40 = .ok (.invokestatic 124, 3) := by decide +kernel
theorem dX9_print_43 : decode cX9_print 43 = .ok (.iaload, 1) := by decide +kernel
theorem dX9_print_44 : decode cX9_print 44 = .ok (.i2l, 1) := by decide +kernel
theorem dX9_print_45 : decode cX9_print 45 = .ok (.ladd, 1) := by decide +kernel
theorem dX9_print_46 : decode cX9_print 46 = .ok (.lmul, 1) := by decide +kernel
theorem dX9_print_47 : decode cX9_print 47 = .ok (.aload_n 0, 1) := by decide +kernel
theorem dX9_print_48 : decode cX9_print 48 = .ok (.getfield 31, 3) := by decide +kernel
theorem dX9_print_51 : decode cX9_print 51 = .ok (.iload_n 3, 1) := by decide +kernel
theorem dX9_print_52 : decode cX9_print 52 = .ok (.iaload, 1) := by decide +kernel
theorem dX9_print_53 : decode cX9_print 53 = .ok (.i2l, 1) := by decide +kernel
theorem dX9_print_54 : decode cX9_print 54 = .ok (.ladd, 1) := by decide +kernel
theorem dX9_print_55 : decode cX9_print 55 = .ok (.lstore_n 1, 1) := by decide +kernel
theorem dX9_print_56 : decode cX9_print 56 = .ok (.iinc 3 1, 3) := by decide +kernel
theorem dX9_print_59 : decode cX9_print 59 = .ok (.goto (-41), 3) := by decide +kernel
theorem dX9_print_62 : decode cX9_print 62 = .ok (.lload_n 1, 1) := by decide +kernel
theorem dX9_print_63 : decode cX9_print 63 = .ok (.lreturn, 1) := by decide +kernel
theorem dX9_status_0 : decode cX9_status 0 = .ok (.aload_n 0, 1) := by decide +kernel
theorem dX9_status_1 : decode cX9_status 1 = .ok (.iconst 0, 1) := by decide +kernel
theorem dX9_status_2 : decode cX9_status 2 = .ok (.putfield 48, 3) := by decide +kernel
theorem dX9_status_5 : decode cX9_status 5 = .ok (.iload_n 1, 1) := by decide +kernel
theorem dX9_status_6 : decode cX9_status 6 = .ok (.i2l, 1) := by decide +kernel
theorem dX9_status_7 : decode cX9_status 7 = .ok (.lconst 0, 1) := by decide +kernel
theorem dX9_status_8 : decode cX9_status 8 = .ok (.ldc2_w 335, 3) := by decide +kernel
theorem dX9_status_11 : decode cX9_status 11 = .ok (.invokestatic 107, 3) := by decide +kernel
theorem dX9_status_14 : decode cX9_status 14 = .ok (.ifCond .eq 12, 3) := by decide +kernel
theorem dX9_status_17 : decode cX9_status 17 = .ok (.aload_n 0, 1) := by decide +kernel
theorem dX9_status_18 : decode cX9_status 18 = .ok (.getfield 9, 3) := by decide +kernel
theorem dX9_status_21 : decode cX9_status 21 = .ok (.iload_n 1, 1) := by decide +kernel
theorem dX9_status_22 : decode cX9_status 22 = .ok (.iaload, 1) := by decide +kernel
theorem dX9_status_23 : decode cX9_status 23 = .ok (.goto 4, 3) := by decide +kernel
theorem dX9_status_26 : decode cX9_status 26 = .ok (.iconst (-1), 1) := by decide +kernel
theorem dX9_status_27 : decode cX9_status 27 = .ok (.ireturn, 1) := by decide +kernel
