theorem dX6_pairs_75 : decode cX6_pairs 75 = .ok (.goto 4, 3) := by decide +kernel
theorem dX6_pairs_78 : decode cX6_pairs 78 = .ok (.iload_n 3, 1) := by decide +kernel
theorem dX6_pairs_79 : decode cX6_pairs 79 = .ok (.istore_n 3, 1) := by decide +kernel
theorem dX6_pairs_80 : decode cX6_pairs 80 = .ok (.iload 6, 2) := by decide +kernel
theorem dX6_pairs_82 : decode cX6_pairs 82 = .ok (.ifCond .eq 28, 3) := by decide +kernel
theorem dX6_pairs_85 : decode cX6_pairs 85 = .ok (.aload_n 0, 1) := by decide +kernel
theorem dX6_pairs_86 : decode cX6_pairs 86 = .ok (.iload_n 2, 1) := by decide +kernel
theorem dX6_pairs_87 : decode cX6_pairs 87 = .ok (.aload_n 0, 1) := by decide +kernel
theorem dX6_pairs_88 : decode cX6_pairs 88 = .ok (.getfield 53, 3) := by decide +kernel
theorem dX6_pairs_91 : decode cX6_pairs 91 = .ok (.iload 5, 2) := by decide +kernel
theorem dX6_pairs_93 : decode cX6_pairs 93 = .ok (.iaload, 1) := by decide +kernel
theorem dX6_pairs_94 : decode cX6_pairs 94 = .ok (.invokevirtual 147, 3) := by decide +kernel
theorem dX6_pairs_97 : decode cX6_pairs 97 = .ok (.ifCond .ne 13, 3) := by decide +kernel
theorem dX6_pairs_100 : decode cX6_pairs 100 = .ok (.aload_n 0, 1) := by decide +kernel
theorem dX6_pairs_101 : decode cX6_pairs 101 = .ok (.getfield 53, 3) := by decide +kernel
theorem dX6_pairs_104 : decode cX6_pairs 104 = .ok (.iload 5, 2) := by decide +kernel
theorem dX6_pairs_106 : decode cX6_pairs 106 = .ok (.iaload, 1) := by decide +kernel
theorem dX6_pairs_107 : decode cX6_pairs 107 = .ok (.goto 5, 3) := by decide +kernel
theorem dX6_pairs_110 : decode cX6_pairs 110 = .ok (.iload 4, 2) := by decide +kernel
theorem dX6_pairs_112 : decode cX6_pairs 112 = .ok (.istore 4, 2) := by decide +kernel
theorem dX6_pairs_114 : decode cX6_pairs 114 = .ok (.iinc 5 (-1), 3) := by decide +kernel
theorem dX6_pairs_117 : decode cX6_pairs 117 = .ok (.goto (-83), 3) := by decide +kernel
theorem dX6_pairs_120 : decode cX6_pairs 120 = .ok (.iload 4, 2) := by decide +kernel
theorem dX6_pairs_122 : decode cX6_pairs 122 = .ok (.iconst (-1), 1) := by decide +kernel
theorem dX6_pairs_123 : decode cX6_pairs 123 = .ok (.if_icmp .eq 8, 3) := by decide +kernel
theorem dX6_pairs_126 : decode cX6_pairs 126 = .ok (.iload 4, 2) := by decide +kernel
theorem dX6_pairs_128 : decode cX6_pairs 128 = .ok (.goto 4, 3) := by decide +kernel
theorem dX6_pairs_131 : decode cX6_pairs 131 = .ok (.iload_n 3, 1) := by decide +kernel
theorem dX6_pairs_132 : decode cX6_pairs 132 = .ok (.istore 5, 2) := by decide +kernel
theorem dX6_pairs_134 : decode cX6_pairs 134 = .ok (.aload_n 0, 1) := by decide +kernel
theorem dX6_pairs_135 : decode cX6_pairs 135 = .ok (.getfield 56, 3) := by decide +kernel
theorem dX6_pairs_138 : decode cX6_pairs 138 = .ok (.iload_n 2, 1) := by decide +kernel
theorem dX6_pairs_139 : decode cX6_pairs 139 = .ok (.iaload, 1) := by decide +kernel
theorem dX6_pairs_140 : decode cX6_pairs 140 = .ok (.iconst (-1), 1) := by decide +kernel
theorem dX6_pairs_141 : decode cX6_pairs 141 = .ok (.if_icmp .ne 25, 3) := by decide +kernel
theorem dX6_pairs_144 : decode cX6_pairs 144 = .ok (.iload 5, 2) := by decide +kernel
theorem dX6_pairs_146 : decode cX6_pairs 146 = .ok (.iconst (-1), 1) := by decide +kernel
theorem dX6_pairs_147 : decode cX6_pairs 147 = .ok (.if_icmp .eq 19, 3) := by decide +kernel
theorem dX6_pairs_150 : decode cX6_pairs 150 = .ok (.aload_n 0, 1) := by decide +kernel
theorem dX6_pairs_151 : decode cX6_pairs 151 = .ok (.getfield 56, 3) := by decide +kernel
theorem dX6_pairs_154 : decode cX6_pairs 154 = .ok (.iload_n 2, 1) := by decide +kernel
theorem dX6_pairs_155 : decode cX6_pairs 155 = .ok (.iload 5, 2) := by decide +kernel
theorem dX6_pairs_157 : decode cX6_pairs 157 = .ok (.iastore, 1) := by decide +kernel
theorem dX6_pairs_158 : decode cX6_pairs 158 = .ok (.aload_n 0, 1) := by decide +kernel
theorem dX6_pairs_159 : decode cX6_pairs 159 = .ok (.getfield 56, 3) := by decide +kernel
theorem dX6_pairs_162 : decode cX6_pairs 162 = .ok (.iload 5, 2) := by decide +kernel
theorem dX6_pairs_164 : decode cX6_pairs 164 = .ok (.iload_n 2, 1) := by decide +kernel
theorem dX6_pairs_165 : decode cX6_pairs 165 = .ok (.iastore, 1) := by decide +kernel
theorem dX6_pairs_166 : decode cX6_pairs 166 = .ok (.iinc 1 1, 3) := by decide +kernel
theorem dX6_pairs_169 : decode cX6_pairs 169 = .ok (.goto (-163), 3) := by decide +kernel
theorem dX6_pairs_172 : decode cX6_pairs 172 = .ok (.return_, 1) := by decide +kernel
theorem dX6_opponent_0 : decode cX6_opponent 0 = .ok (.aload_n 0, 1) := by decide +kernel
theorem dX6_opponent_1 : decode cX6_opponent 1 = .ok (.aload_n 0, 1) := by decide +kernel
theorem dX6_opponent_2 : decode cX6_opponent 2 = .ok (.iload_n 1, 1) := by decide +kernel
theorem dX6_opponent_3 : decode cX6_opponent 3 = .ok (.invokevirtual 102, 3) := by decide +kernel
theorem dX6_opponent_6 : decode cX6_opponent 6 = .ok (.iconst 1, 1) := by decide +kernel
theorem dX6_opponent_7 : decode cX6_opponent 7 = .ok (.iconst 1, 1) := by decide +kernel
theorem dX6_opponent_8 : decode cX6_opponent 8 = .ok (.invokevirtual 91, 3) := by decide +kernel
theorem dX6_opponent_11 : decode cX6_opponent 11 = .ok (.ifCond .ne 5, 3) := by decide +kernel
theorem dX6_opponent_14 : decode cX6_opponent 14 = .ok (.iconst 0, 1) := by decide +kernel
theorem dX6_opponent_15 : decode cX6_opponent 15 = .ok (.ireturn, 1) := by decide +kernel
theorem dX6_opponent_16 : decode cX6_opponent 16 = .ok (.aload_n 0, 1) := by decide +kernel
theorem dX6_opponent_17 : decode cX6_opponent 17 = .ok (.invokevirtual 150, 3) := by decide +kernel
theorem dX6_opponent_20 : decode cX6_opponent 20 = .ok (.aload_n 0, 1) := by decide +kernel
theorem dX6_opponent_21 : decode cX6_opponent 21 = .ok (.getfield 56, 3) := by decide +kernel
theorem dX6_opponent_24 : decode cX6_opponent 24 = .ok (.iload_n 1, 1) := by decide +kernel
theorem dX6_opponent_25 : decode cX6_opponent 25 = .ok (.iaload, 1) := by decide +kernel
theorem dX6_opponent_26 : decode cX6_opponent 26 = .ok (.ireturn, 1) := by decide +kernel
theorem dX6_hasWhite_0 : decode cX6_hasWhite 0 = .ok (.aload_n 0, 1) := by decide +kernel
theorem dX6_hasWhite_1 : decode cX6_hasWhite 1 = .ok (.iload_n 1, 1) := by decide +kernel
theorem dX6_hasWhite_2 : decode cX6_hasWhite 2 = .ok (.invokevirtual 102, 3) := by decide +kernel
theorem dX6_hasWhite_5 : decode cX6_hasWhite 5 = .ok (.istore_n 2, 1) := by decide +kernel
theorem dX6_hasWhite_6 : decode cX6_hasWhite 6 = .ok (.aload_n 0, 1) := by decide +kernel
theorem dX6_hasWhite_7 : decode cX6_hasWhite 7 = .ok (.invokevirtual 150, 3) := by decide +kernel
theorem dX6_hasWhite_10 : decode cX6_hasWhite 10 = .ok (.iload_n 2, 1) := by decide +kernel
theorem dX6_hasWhite_11 : decode cX6_hasWhite 11 = .ok (.ifCond .eq 12, 3) := by decide +kernel
theorem dX6_hasWhite_14 : decode cX6_hasWhite 14 = .ok (.aload_n 0, 1) := by decide +kernel
theorem dX6_hasWhite_15 : decode cX6_hasWhite 15 = .ok (.getfield 56, 3) := by decide +kernel
theorem dX6_hasWhite_18 : decode cX6_hasWhite 18 = .ok (.iload_n 1, 1) := by decide +kernel
theorem dX6_hasWhite_19 : decode cX6_hasWhite 19 = .ok (.iaload, 1) := by decide +kernel
theorem dX6_hasWhite_20 : decode cX6_hasWhite 20 = .ok (.goto 4, 3) := by decide +kernel
theorem dX6_hasWhite_23 : decode cX6_hasWhite 23 = .ok (.iconst (-1), 1) := by decide +kernel
theorem dX6_hasWhite_24 : decode cX6_hasWhite 24 = .ok (.istore_n 3, 1) := by decide +kernel
theorem dX6_hasWhite_25 : decode cX6_hasWhite 25 = .ok (.aload_n 0, 1) := by decide +kernel
theorem dX6_hasWhite_26 : decode cX6_hasWhite 26 = .ok (.iload_n 2, 1) := by decide +kernel
theorem dX6_hasWhite_27 : decode cX6_hasWhite 27 = .ok (.iload_n 3, 1) := by decide +kernel
theorem dX6_hasWhite_28 : decode cX6_hasWhite 28 = .ok (.iconst (-1), 1) := by decide +kernel
theorem dX6_hasWhite_29 : decode cX6_hasWhite 29 = .ok (.if_icmp .eq 7, 3) := by decide +kernel
theorem dX6_hasWhite_32 : decode cX6_hasWhite 32 = .ok (.iconst 1, 1) := by decide +kernel
theorem dX6_hasWhite_33 : decode cX6_hasWhite 33 = .ok (.goto 4, 3) := by decide +kernel
theorem dX6_hasWhite_36 : decode cX6_hasWhite 36 = .ok (.iconst 0, 1) := by decide +kernel
theorem dX6_hasWhite_37 : decode cX6_hasWhite 37 = .ok (.iconst 1, 1) := by decide +kernel
theorem dX6_hasWhite_38 : decode cX6_hasWhite 38 = .ok (.invokevirtual 91, 3) := by decide +kernel
theorem dX6_hasWhite_41 : decode cX6_hasWhite 41 = .ok (.ifCond .ne 5, 3) := by decide +kernel
theorem dX6_hasWhite_44 : decode cX6_hasWhite 44 = .ok (.iconst 0, 1) := by decide +kernel
theorem dX6_hasWhite_45 : decode cX6_hasWhite 45 = .ok (.ireturn, 1) := by decide +kernel
theorem dX6_hasWhite_46 : decode cX6_hasWhite 46 = .ok (.aload_n 0, 1) := by decide +kernel
theorem dX6_hasWhite_47 : decode cX6_hasWhite 47 = .ok (.getfield 13, 3) := by decide +kernel
theorem dX6_hasWhite_50 : decode cX6_hasWhite 50 = .ok (.iload_n 1, 1) := by decide +kernel
theorem dX6_hasWhite_51 : decode cX6_hasWhite 51 = .ok (.iaload, 1) := by decide +kernel
theorem dX6_hasWhite_52 : decode cX6_hasWhite 52 = .ok (.aload_n 0, 1) := by decide +kernel
theorem dX6_hasWhite_53 : decode cX6_hasWhite 53 = .ok (.getfield 13, 3) := by decide +kernel
theorem dX6_hasWhite_56 : decode cX6_hasWhite 56 = .ok (.iload_n 3, 1) := by decide +kernel
theorem dX6_hasWhite_57 : decode cX6_hasWhite 57 = .ok (.iaload, 1) := by decide +kernel
theorem dX6_hasWhite_58 : decode cX6_hasWhite 58 = .ok (.if_icmp .lt 23, 3) := by decide +kernel
theorem dX6_hasWhite_61 : decode cX6_hasWhite 61 = .ok (.aload_n 0, 1) := by decide +kernel
theorem dX6_hasWhite_62 : decode cX6_hasWhite 62 = .ok (.getfield 13, 3) := by decide +kernel
theorem dX6_hasWhite_65 : decode cX6_hasWhite 65 = .ok (.iload_n 1, 1) := by decide +kernel
theorem dX6_hasWhite_66 : decode cX6_hasWhite 66 = .ok (.iaload, 1) := by decide +kernel
theorem dX6_hasWhite_67 : decode cX6_hasWhite 67 = .ok (.aload_n 0, 1) := by decide +kernel
theorem dX6_hasWhite_68 : decode cX6_hasWhite 68 = .ok (.getfield 13, 3) := by decide +kernel
theorem dX6_hasWhite_71 : decode cX6_hasWhite 71 = .ok (.iload_n 3, 1) := by decide +kernel
theorem dX6_hasWhite_72 : decode cX6_hasWhite 72 = .ok (.iaload, 1) := by decide +kernel
theorem dX6_hasWhite_73 : decode cX6_hasWhite 73 = .ok (.if_icmp .ne 12, 3) := by decide +kernel
theorem dX6_hasWhite_76 : decode cX6_hasWhite 76 = .ok (.iload_n 1, 1) := by decide +kernel
theorem dX6_hasWhite_77 : decode cX6_hasWhite 77 = .ok (.iload_n 3, 1) := by decide +kernel
theorem dX6_hasWhite_78 : decode cX6_hasWhite 78 = .ok (.if_icmp .ge 7, 3) := by decide +kernel
theorem dX6_hasWhite_81 : decode cX6_hasWhite 81 = .ok (.iconst 1, 1) := by decide +kernel
theorem dX6_hasWhite_82 : decode cX6_hasWhite 82 = .ok (.goto 4, 3) := by decide +kernel
theorem dX6_hasWhite_85 : decode cX6_hasWhite 85 = .ok (.iconst 0, 1) := by decide +kernel
theorem dX6_hasWhite_86 : decode cX6_hasWhite 86 = .ok (.ireturn, 1) := by decide +kernel
theorem dL_after_0 : decode cL_after 0 = .ok (.aload_n 3, 1) := by decide +kernel
theorem dL_after_1 : decode cL_after 1 = .ok (.iconst 0, 1) := by decide +kernel
theorem dL_after_2 : decode cL_after 2 = .ok (.aload_n 0, 1) := by decide +kernel
theorem dL_after_3 : decode cL_after 3 = .ok (.iload_n 1, 1) := by decide +kernel
theorem dL_after_4 : decode cL_after 4 = .ok (.iload_n 2, 1) := by decide +kernel
theorem dL_after_5 : decode cL_after 5 = .ok (.invokevirtual 7, 3) := by decide +kernel
theorem dL_after_8 : decode cL_after 8 = .ok (.i2l, 1) := by decide +kernel
theorem dL_after_9 : decode cL_after 9 = .ok (.lastore, 1) := by decide +kernel
theorem dL_after_10 : decode cL_after 10 = .ok (.goto 7, 3) := by decide +kernel
theorem dL_after_13 : decode cL_after 13 = .ok (.astore 4, 2) := by decide +kernel
theorem dL_after_15 : decode cL_after 15 = .ok (.iconst 1, 1) := by decide +kernel
theorem dL_after_16 : decode cL_after 16 = .ok (.ireturn, 1) := by decide +kernel
theorem dL_after_17 : decode cL_after 17 = .ok (.iconst 0, 1) := by decide +kernel
theorem dL_after_18 : decode cL_after 18 = .ok (.ireturn, 1) := by decide +kernel
theorem dL_worth_0 : decode cL_worth 0 = .ok (.aload_n 2, 1) := by decide +kernel
theorem dL_worth_1 : decode cL_worth 1 = .ok (.iconst 0, 1) := by decide +kernel
theorem dL_worth_2 : decode cL_worth 2 = .ok (.aload_n 0, 1) := by decide +kernel
theorem dL_worth_3 : decode cL_worth 3 = .ok (.iload_n 1, 1) := by decide +kernel
theorem dL_worth_4 : decode cL_worth 4 = .ok (.invokevirtual 15, 3) := by decide +kernel
theorem dL_worth_7 : decode cL_worth 7 = .ok (.i2l, 1) := by decide +kernel
theorem dL_worth_8 : decode cL_worth 8 = .ok (.lastore, 1) := by decide +kernel
theorem dL_worth_9 : decode cL_worth 9 = .ok (.goto 6, 3) := by decide +kernel
theorem dL_worth_12 : decode cL_worth 12 = .ok (.astore_n 3, 1) := by decide +kernel
theorem dL_worth_13 : decode cL_worth 13 = .ok (.iconst 1, 1) := by decide +kernel
theorem dL_worth_14 : decode cL_worth 14 = .ok (.ireturn, 1) := by decide +kernel
theorem dL_worth_15 : decode cL_worth 15 = .ok (.iconst 0, 1) := by decide +kernel
theorem dL_worth_16 : decode cL_worth 16 = .ok (.ireturn, 1) := by decide +kernel
theorem dL_best_0 : decode cL_best 0 = .ok (.aload_n 2, 1) := by decide +kernel
theorem dL_best_1 : decode cL_best 1 = .ok (.iconst 0, 1) := by decide +kernel
theorem dL_best_2 : decode cL_best 2 = .ok (.aload_n 0, 1) := by decide +kernel
theorem dL_best_3 : decode cL_best 3 = .ok (.iload_n 1, 1) := by decide +kernel
theorem dL_best_4 : decode cL_best 4 = .ok (.invokevirtual 19, 3) := by decide +kernel
theorem dL_best_7 : decode cL_best 7 = .ok (.i2l, 1) := by decide +kernel
theorem dL_best_8 : decode cL_best 8 = .ok (.lastore, 1) := by decide +kernel
theorem dL_best_9 : decode cL_best 9 = .ok (.goto 6, 3) := by decide +kernel
theorem dL_best_12 : decode cL_best 12 = .ok (.astore_n 3, 1) := by decide +kernel
theorem dL_best_13 : decode cL_best 13 = .ok (.iconst 1, 1) := by decide +kernel
theorem dL_best_14 : decode cL_best 14 = .ok (.ireturn, 1) := by decide +kernel
theorem dL_best_15 : decode cL_best 15 = .ok (.iconst 0, 1) := by decide +kernel
theorem dL_best_16 : decode cL_best 16 = .ok (.ireturn, 1) := by decide +kernel
theorem dL_enter_0 : decode cL_enter 0 = .ok (.aload_n 1, 1) := by decide +kernel
theorem dL_enter_1 : decode cL_enter 1 = .ok (.iconst 0, 1) := by decide +kernel
theorem dL_enter_2 : decode cL_enter 2 = .ok (.aload_n 0, 1) := by decide +kernel
theorem dL_enter_3 : decode cL_enter 3 = .ok (.invokevirtual 22, 3) := by decide +kernel
theorem dL_enter_6 : decode cL_enter 6 = .ok (.i2l, 1) := by decide +kernel
theorem dL_enter_7 : decode cL_enter 7 = .ok (.lastore, 1) := by decide +kernel
theorem dL_enter_8 : decode cL_enter 8 = .ok (.goto 6, 3) := by decide +kernel
theorem dL_enter_11 : decode cL_enter 11 = .ok (.astore_n 2, 1) := by decide +kernel
theorem dL_enter_12 : decode cL_enter 12 = .ok (.iconst 1, 1) := by decide +kernel
theorem dL_enter_13 : decode cL_enter 13 = .ok (.ireturn, 1) := by decide +kernel
theorem dL_enter_14 : decode cL_enter 14 = .ok (.iconst 0, 1) := by decide +kernel
theorem dL_enter_15 : decode cL_enter 15 = .ok (.ireturn, 1) := by decide +kernel
theorem dL_begin_0 : decode cL_begin 0 = .ok (.aload_n 3, 1) := by decide +kernel
theorem dL_begin_1 : decode cL_begin 1 = .ok (.iconst 0, 1) := by decide +kernel
theorem dL_begin_2 : decode cL_begin 2 = .ok (.aload_n 0, 1) := by decide +kernel
theorem dL_begin_3 : decode cL_begin 3 = .ok (.iload_n 1, 1) := by decide +kernel
theorem dL_begin_4 : decode cL_begin 4 = .ok (.iload_n 2, 1) := by decide +kernel
theorem dL_begin_5 : decode cL_begin 5 = .ok (.invokevirtual 28, 3) := by decide +kernel
theorem dL_begin_8 : decode cL_begin 8 = .ok (.i2l, 1) := by decide +kernel
theorem dL_begin_9 : decode cL_begin 9 = .ok (.lastore, 1) := by decide +kernel
theorem dL_begin_10 : decode cL_begin 10 = .ok (.goto 15, 3) := by decide +kernel
theorem dL_begin_13 : decode cL_begin 13 = .ok (.astore 4, 2) := by decide +kernel
theorem dL_begin_15 : decode cL_begin 15 = .ok (.iconst 1, 1) := by decide +kernel
theorem dL_begin_16 : decode cL_begin 16 = .ok (.ireturn, 1) := by decide +kernel
theorem dL_begin_17 : decode cL_begin 17 = .ok (.astore 4, 2) := by decide +kernel
theorem dL_begin_19 : decode cL_begin 19 = .ok (.iconst 2, 1) := by decide +kernel
theorem dL_begin_20 : decode cL_begin 20 = .ok (.ireturn, 1) := by decide +kernel
theorem dL_begin_21 : decode cL_begin 21 = .ok (.astore 4, 2) := by decide +kernel
theorem dL_begin_23 : decode cL_begin 23 = .ok (.iconst 3, 1) := by decide +kernel
theorem dL_begin_24 : decode cL_begin 24 = .ok (.ireturn, 1) := by decide +kernel
theorem dL_begin_25 : decode cL_begin 25 = .ok (.iconst 0, 1) := by decide +kernel
theorem dL_begin_26 : decode cL_begin 26 = .ok (.ireturn, 1) := by decide +kernel
theorem dL_move_0 : decode cL_move 0 = .ok (.aload_n 2, 1) := by decide +kernel
theorem dL_move_1 : decode cL_move 1 = .ok (.iconst 0, 1) := by decide +kernel
theorem dL_move_2 : decode cL_move 2 = .ok (.aload_n 0, 1) := by decide +kernel
theorem dL_move_3 : decode cL_move 3 = .ok (.iload_n 1, 1) := by decide +kernel
theorem dL_move_4 : decode cL_move 4 = .ok (.invokevirtual 33, 3) := by decide +kernel
theorem dL_move_7 : decode cL_move 7 = .ok (.ifCond .eq 7, 3) := by decide +kernel
theorem dL_move_10 : decode cL_move 10 = .ok (.lconst 1, 1) := by decide +kernel
theorem dL_move_11 : decode cL_move 11 = .ok (.goto 4, 3) := by decide +kernel
theorem dL_move_14 : decode cL_move 14 = .ok (.lconst 0, 1) := by decide +kernel
theorem dL_move_15 : decode cL_move 15 = .ok (.lastore, 1) := by decide +kernel
theorem dL_move_16 : decode cL_move 16 = .ok (.goto 9, 3) := by decide +kernel
theorem dL_move_19 : decode cL_move 19 = .ok (.astore_n 3, 1) := by decide +kernel
theorem dL_move_20 : decode cL_move 20 = .ok (.iconst 1, 1) := by decide +kernel
theorem dL_move_21 : decode cL_move 21 = .ok (.ireturn, 1) := by decide +kernel
theorem dL_move_22 : decode cL_move 22 = .ok (.astore_n 3, 1) := by decide +kernel
theorem dL_move_23 : decode cL_move 23 = .ok (.iconst 2, 1) := by decide +kernel
theorem dL_move_24 : decode cL_move 24 = .ok (.ireturn, 1) := by decide +kernel
theorem dL_move_25 : decode cL_move 25 = .ok (.iconst 0, 1) := by decide +kernel
theorem dL_move_26 : decode cL_move 26 = .ok (.ireturn, 1) := by decide +kernel
theorem dL_end_0 : decode cL_end 0 = .ok (.aload_n 2, 1) := by decide +kernel
theorem dL_end_1 : decode cL_end 1 = .ok (.iconst 0, 1) := by decide +kernel
theorem dL_end_2 : decode cL_end 2 = .ok (.aload_n 0, 1) := by decide +kernel
theorem dL_end_3 : decode cL_end 3 = .ok (.iload_n 1, 1) := by decide +kernel
theorem dL_end_4 : decode cL_end 4 = .ok (.invokevirtual 37, 3) := by decide +kernel
theorem dL_end_7 : decode cL_end 7 = .ok (.i2l, 1) := by decide +kernel
theorem dL_end_8 : decode cL_end 8 = .ok (.lastore, 1) := by decide +kernel
theorem dL_end_9 : decode cL_end 9 = .ok (.goto 9, 3) := by decide +kernel
theorem dL_end_12 : decode cL_end 12 = .ok (.astore_n 3, 1) := by decide +kernel
theorem dL_end_13 : decode cL_end 13 = .ok (.iconst 1, 1) := by decide +kernel
theorem dL_end_14 : decode cL_end 14 = .ok (.ireturn, 1) := by decide +kernel
theorem dL_end_15 : decode cL_end 15 = .ok (.astore_n 3, 1) := by decide +kernel
theorem dL_end_16 : decode cL_end 16 = .ok (.iconst 2, 1) := by decide +kernel
theorem dL_end_17 : decode cL_end 17 = .ok (.ireturn, 1) := by decide +kernel
theorem dL_end_18 : decode cL_end 18 = .ok (.iconst 0, 1) := by decide +kernel
theorem dL_end_19 : decode cL_end 19 = .ok (.ireturn, 1) := by decide +kernel
theorem dL_score_0 : decode cL_score 0 = .ok (.aload_n 2, 1) := by decide +kernel
theorem dL_score_1 : decode cL_score 1 = .ok (.iconst 0, 1) := by decide +kernel
theorem dL_score_2 : decode cL_score 2 = .ok (.aload_n 0, 1) := by decide +kernel
theorem dL_score_3 : decode cL_score 3 = .ok (.iload_n 1, 1) := by decide +kernel
theorem dL_score_4 : decode cL_score 4 = .ok (.invokevirtual 40, 3) := by decide +kernel
theorem dL_score_7 : decode cL_score 7 = .ok (.i2l, 1) := by decide +kernel
theorem dL_score_8 : decode cL_score 8 = .ok (.lastore, 1) := by decide +kernel
theorem dL_score_9 : decode cL_score 9 = .ok (.goto 6, 3) := by decide +kernel
theorem dL_score_12 : decode cL_score 12 = .ok (.astore_n 3, 1) := by decide +kernel
theorem dL_score_13 : decode cL_score 13 = .ok (.iconst 1, 1) := by decide +kernel
theorem dL_score_14 : decode cL_score 14 = .ok (.ireturn, 1) := by decide +kernel
theorem dL_score_15 : decode cL_score 15 = .ok (.iconst 0, 1) := by decide +kernel
theorem dL_score_16 : decode cL_score 16 = .ok (.ireturn, 1) := by decide +kernel
theorem dL_puzzle_0 : decode cL_puzzle 0 = .ok (.aload_n 2, 1) := by decide +kernel
theorem dL_puzzle_1 : decode cL_puzzle 1 = .ok (.iconst 0, 1) := by decide +kernel
theorem dL_puzzle_2 : decode cL_puzzle 2 = .ok (.aload_n 0, 1) := by decide +kernel
theorem dL_puzzle_3 : decode cL_puzzle 3 = .ok (.iload_n 1, 1) := by decide +kernel
theorem dL_puzzle_4 : decode cL_puzzle 4 = .ok (.invokevirtual 43, 3) := by decide +kernel
theorem dL_puzzle_7 : decode cL_puzzle 7 = .ok (.i2l, 1) := by decide +kernel
theorem dL_puzzle_8 : decode cL_puzzle 8 = .ok (.lastore, 1) := by decide +kernel
theorem dL_puzzle_9 : decode cL_puzzle 9 = .ok (.goto 6, 3) := by decide +kernel
theorem dL_puzzle_12 : decode cL_puzzle 12 = .ok (.astore_n 3, 1) := by decide +kernel
theorem dL_puzzle_13 : decode cL_puzzle 13 = .ok (.iconst 1, 1) := by decide +kernel
theorem dL_puzzle_14 : decode cL_puzzle 14 = .ok (.ireturn, 1) := by decide +kernel
theorem dL_puzzle_15 : decode cL_puzzle 15 = .ok (.iconst 0, 1) := by decide +kernel
theorem dL_puzzle_16 : decode cL_puzzle 16 = .ok (.ireturn, 1) := by decide +kernel
theorem dL_source_0 : decode cL_source 0 = .ok (.aload_n 2, 1) := by decide +kernel
theorem dL_source_1 : decode cL_source 1 = .ok (.iconst 0, 1) := by decide +kernel
theorem dL_source_2 : decode cL_source 2 = .ok (.aload_n 0, 1) := by decide +kernel
theorem dL_source_3 : decode cL_source 3 = .ok (.iload_n 1, 1) := by decide +kernel
theorem dL_source_4 : decode cL_source 4 = .ok (.invokevirtual 46, 3) := by decide +kernel
theorem dL_source_7 : decode cL_source 7 = .ok (.i2l, 1) := by decide +kernel
theorem dL_source_8 : decode cL_source 8 = .ok (.lastore, 1) := by decide +kernel
theorem dL_source_9 : decode cL_source 9 = .ok (.goto 6, 3) := by decide +kernel
theorem dL_source_12 : decode cL_source 12 = .ok (.astore_n 3, 1) := by decide +kernel
theorem dL_source_13 : decode cL_source 13 = .ok (.iconst 1, 1) := by decide +kernel
theorem dL_source_14 : decode cL_source 14 = .ok (.ireturn, 1) := by decide +kernel
theorem dL_source_15 : decode cL_source 15 = .ok (.iconst 0, 1) := by decide +kernel
theorem dL_source_16 : decode cL_source 16 = .ok (.ireturn, 1) := by decide +kernel
theorem dL_solve_0 : decode cL_solve 0 = .ok (.aload 4, 2) := by decide +kernel
theorem dL_solve_2 : decode cL_solve 2 = .ok (.iconst 0, 1) := by decide +kernel
theorem dL_solve_3 : decode cL_solve 3 = .ok (.aload_n 0, 1) := by decide +kernel
theorem dL_solve_4 : decode cL_solve 4 = .ok (.iload_n 1, 1) := by decide +kernel
theorem dL_solve_5 : decode cL_solve 5 = .ok (.iload_n 2, 1) := by decide +kernel
theorem dL_solve_6 : decode cL_solve 6 = .ok (.iload_n 3, 1) := by decide +kernel
theorem dL_solve_7 : decode cL_solve 7 = .ok (.invokevirtual 49, 3) := by decide +kernel
theorem dL_solve_10 : decode cL_solve 10 = .ok (.ifCond .eq 7, 3) := by decide +kernel
theorem dL_solve_13 : decode cL_solve 13 = .ok (.lconst 1, 1) := by decide +kernel
theorem dL_solve_14 : decode cL_solve 14 = .ok (.goto 4, 3) := by decide +kernel
theorem dL_solve_17 : decode cL_solve 17 = .ok (.lconst 0, 1) := by decide +kernel
theorem dL_solve_18 : decode cL_solve 18 = .ok (.lastore, 1) := by decide +kernel
theorem dL_solve_19 : decode cL_solve 19 = .ok (.goto 15, 3) := by decide +kernel
theorem dL_solve_22 : decode cL_solve 22 = .ok (.astore 5, 2) := by decide +kernel
theorem dL_solve_24 : decode cL_solve 24 = .ok (.iconst 1, 1) := by decide +kernel
theorem dL_solve_25 : decode cL_solve 25 = .ok (.ireturn, 1) := by decide +kernel
theorem dL_solve_26 : decode cL_solve 26 = .ok (.astore 5, 2) := by decide +kernel
theorem dL_solve_28 : decode cL_solve 28 = .ok (.iconst 2, 1) := by decide +kernel
theorem dL_solve_29 : decode cL_solve 29 = .ok (.ireturn, 1) := by decide +kernel
theorem dL_solve_30 : decode cL_solve 30 = .ok (.astore 5, 2) := by decide +kernel
theorem dL_solve_32 : decode cL_solve 32 = .ok (.iconst 3, 1) := by decide +kernel
theorem dL_solve_33 : decode cL_solve 33 = .ok (.ireturn, 1) := by decide +kernel
theorem dL_solve_34 : decode cL_solve 34 = .ok (.iconst 0, 1) := by decide +kernel
theorem dL_solve_35 : decode cL_solve 35 = .ok (.ireturn, 1) := by decide +kernel
theorem dL_offered_0 : decode cL_offered 0 = .ok (.aload_n 2, 1) := by decide +kernel
theorem dL_offered_1 : decode cL_offered 1 = .ok (.iconst 0, 1) := by decide +kernel
theorem dL_offered_2 : decode cL_offered 2 = .ok (.aload_n 0, 1) := by decide +kernel
theorem dL_offered_3 : decode cL_offered 3 = .ok (.iload_n 1, 1) := by decide +kernel
theorem dL_offered_4 : decode cL_offered 4 = .ok (.invokevirtual 53, 3) := by decide +kernel
theorem dL_offered_7 : decode cL_offered 7 = .ok (.i2l, 1) := by decide +kernel
theorem dL_offered_8 : decode cL_offered 8 = .ok (.lastore, 1) := by decide +kernel
theorem dL_offered_9 : decode cL_offered 9 = .ok (.goto 6, 3) := by decide +kernel
theorem dL_offered_12 : decode cL_offered 12 = .ok (.astore_n 3, 1) := by decide +kernel
theorem dL_offered_13 : decode cL_offered 13 = .ok (.iconst 1, 1) := by decide +kernel
theorem dL_offered_14 : decode cL_offered 14 = .ok (.ireturn, 1) := by decide +kernel
theorem dL_offered_15 : decode cL_offered 15 = .ok (.iconst 0, 1) := by decide +kernel
theorem dL_offered_16 : decode cL_offered 16 = .ok (.ireturn, 1) := by decide +kernel
theorem dL_rating_0 : decode cL_rating 0 = .ok (.aload_n 3, 1) := by decide +kernel
theorem dL_rating_1 : decode cL_rating 1 = .ok (.iconst 0, 1) := by decide +kernel
theorem dL_rating_2 : decode cL_rating 2 = .ok (.aload_n 0, 1) := by decide +kernel
theorem dL_rating_3 : decode cL_rating 3 = .ok (.iload_n 1, 1) := by decide +kernel
theorem dL_rating_4 : decode cL_rating 4 = .ok (.iload_n 2, 1) := by decide +kernel
theorem dL_rating_5 : decode cL_rating 5 = .ok (.invokevirtual 56, 3) := by decide +kernel
theorem dL_rating_8 : decode cL_rating 8 = .ok (.i2l, 1) := by decide +kernel
theorem dL_rating_9 : decode cL_rating 9 = .ok (.lastore, 1) := by decide +kernel
theorem dL_rating_10 : decode cL_rating 10 = .ok (.goto 11, 3) := by decide +kernel
theorem dL_rating_13 : decode cL_rating 13 = .ok (.astore 4, 2) := by decide +kernel
theorem dL_rating_15 : decode cL_rating 15 = .ok (.iconst 1, 1) := by decide +kernel
theorem dL_rating_16 : decode cL_rating 16 = .ok (.ireturn, 1) := by decide +kernel
theorem dL_rating_17 : decode cL_rating 17 = .ok (.astore 4, 2) := by decide +kernel
theorem dL_rating_19 : decode cL_rating 19 = .ok (.iconst 2, 1) := by decide +kernel
theorem dL_rating_20 : decode cL_rating 20 = .ok (.ireturn, 1) := by decide +kernel
theorem dL_rating_21 : decode cL_rating 21 = .ok (.iconst 0, 1) := by decide +kernel
theorem dL_rating_22 : decode cL_rating 22 = .ok (.ireturn, 1) := by decide +kernel
theorem dL_results_0 : decode cL_results 0 = .ok (.aload_n 3, 1) := by decide +kernel
theorem dL_results_1 : decode cL_results 1 = .ok (.iconst 0, 1) := by decide +kernel
theorem dL_results_2 : decode cL_results 2 = .ok (.aload_n 0, 1) := by decide +kernel
theorem dL_results_3 : decode cL_results 3 = .ok (.iload_n 1, 1) := by decide +kernel
theorem dL_results_4 : decode cL_results 4 = .ok (.iload_n 2, 1) := by decide +kernel
theorem dL_results_5 : decode cL_results 5 = .ok (.invokevirtual 59, 3) := by decide +kernel
theorem dL_results_8 : decode cL_results 8 = .ok (.i2l, 1) := by decide +kernel
theorem dL_results_9 : decode cL_results 9 = .ok (.lastore, 1) := by decide +kernel
theorem dL_results_10 : decode cL_results 10 = .ok (.goto 7, 3) := by decide +kernel
theorem dL_results_13 : decode cL_results 13 = .ok (.astore 4, 2) := by decide +kernel
theorem dL_results_15 : decode cL_results 15 = .ok (.iconst 1, 1) := by decide +kernel
theorem dL_results_16 : decode cL_results 16 = .ok (.ireturn, 1) := by decide +kernel
theorem dL_results_17 : decode cL_results 17 = .ok (.iconst 0, 1) := by decide +kernel
theorem dL_results_18 : decode cL_results 18 = .ok (.ireturn, 1) := by decide +kernel
theorem dL_points_0 : decode cL_points 0 = .ok (.aload_n 3, 1) := by decide +kernel
theorem dL_points_1 : decode cL_points 1 = .ok (.iconst 0, 1) := by decide +kernel
theorem dL_points_2 : decode cL_points 2 = .ok (.aload_n 0, 1) := by decide +kernel
theorem dL_points_3 : decode cL_points 3 = .ok (.iload_n 1, 1) := by decide +kernel
theorem dL_points_4 : decode cL_points 4 = .ok (.iload_n 2, 1) := by decide +kernel
theorem dL_points_5 : decode cL_points 5 = .ok (.invokevirtual 62, 3) := by decide +kernel
theorem dL_points_8 : decode cL_points 8 = .ok (.i2l, 1) := by decide +kernel
theorem dL_points_9 : decode cL_points 9 = .ok (.lastore, 1) := by decide +kernel
theorem dL_points_10 : decode cL_points 10 = .ok (.goto 7, 3) := by decide +kernel
theorem dL_points_13 : decode cL_points 13 = .ok (.astore 4, 2) := by decide +kernel
theorem dL_points_15 : decode cL_points 15 = .ok (.iconst 1, 1) := by decide +kernel
theorem dL_points_16 : decode cL_points 16 = .ok (.ireturn, 1) := by decide +kernel
theorem dL_points_17 : decode cL_points 17 = .ok (.iconst 0, 1) := by decide +kernel
theorem dL_points_18 : decode cL_points 18 = .ok (.ireturn, 1) := by decide +kernel
theorem dL_isDropped_0 : decode cL_isDropped 0 = .ok (.aload_n 3, 1) := by decide +kernel
theorem dL_isDropped_1 : decode cL_isDropped 1 = .ok (.iconst 0, 1) := by decide +kernel
theorem dL_isDropped_2 : decode cL_isDropped 2 = .ok (.aload_n 0, 1) := by decide +kernel
theorem dL_isDropped_3 : decode cL_isDropped 3 = .ok (.iload_n 1, 1) := by decide +kernel
theorem dL_isDropped_4 : decode cL_isDropped 4 = .ok (.iload_n 2, 1) := by decide +kernel
theorem dL_isDropped_5 : decode cL_isDropped 5 = .ok (.invokevirtual 65, 3) := by decide +kernel
theorem dL_isDropped_8 : decode cL_isDropped 8 = .ok (.ifCond .eq 7, 3) := by decide +kernel
theorem dL_isDropped_11 : decode cL_isDropped 11 = .ok (.lconst 1, 1) := by decide +kernel
theorem dL_isDropped_12 : decode cL_isDropped 12 = .ok (.goto 4, 3) := by decide +kernel
theorem dL_isDropped_15 : decode cL_isDropped 15 = .ok (.lconst 0, 1) := by decide +kernel
theorem dL_isDropped_16 : decode cL_isDropped 16 = .ok (.lastore, 1) := by decide +kernel
theorem dL_isDropped_17 : decode cL_isDropped 17 = .ok (.goto 7, 3) := by decide +kernel
theorem dL_isDropped_20 : decode cL_isDropped 20 = .ok (.astore 4, 2) := by decide +kernel
theorem dL_isDropped_22 : decode cL_isDropped 22 = .ok (.iconst 1, 1) := by decide +kernel
theorem dL_isDropped_23 : decode cL_isDropped 23 = .ok (.ireturn, 1) := by decide +kernel
theorem dL_isDropped_24 : decode cL_isDropped 24 = .ok (.iconst 0, 1) := by decide +kernel
theorem dL_isDropped_25 : decode cL_isDropped 25 = .ok (.ireturn, 1) := by decide +kernel
theorem dL_pointsOfGames_0 : decode cL_pointsOfGames 0 = .ok (.aload_n 3, 1) := by decide +kernel
theorem dL_pointsOfGames_1 : decode cL_pointsOfGames 1 = .ok (.iconst 0, 1) := by decide +kernel
theorem dL_pointsOfGames_2 : decode cL_pointsOfGames 2 = .ok (.aload_n 0, 1) := by decide +kernel
theorem dL_pointsOfGames_3 : decode cL_pointsOfGames 3 = .ok (.iload_n 1, 1) := by decide +kernel
theorem dL_pointsOfGames_4 : decode cL_pointsOfGames 4 = .ok (.iload_n 2, 1) := by decide +kernel
theorem dL_pointsOfGames_5 : decode cL_pointsOfGames 5 = .ok (.invokevirtual 69, 3) := by decide +kernel
theorem dL_pointsOfGames_8 : decode cL_pointsOfGames 8 = .ok (.i2l, 1) := by decide +kernel
theorem dL_pointsOfGames_9 : decode cL_pointsOfGames 9 = .ok (.lastore, 1) := by decide +kernel
theorem dL_pointsOfGames_10 : decode cL_pointsOfGames 10 = .ok (.goto 7, 3) := by decide +kernel
theorem dL_pointsOfGames_13 : decode cL_pointsOfGames 13 = .ok (.astore 4, 2) := by decide +kernel
theorem dL_pointsOfGames_15 : decode cL_pointsOfGames 15 = .ok (.iconst 1, 1) := by decide +kernel
theorem dL_pointsOfGames_16 : decode cL_pointsOfGames 16 = .ok (.ireturn, 1) := by decide +kernel
theorem dL_pointsOfGames_17 : decode cL_pointsOfGames 17 = .ok (.iconst 0, 1) := by decide +kernel
theorem dL_pointsOfGames_18 : decode cL_pointsOfGames 18 = .ok (.ireturn, 1) := by decide +kernel
theorem dL_mean_0 : decode cL_mean 0 = .ok (.aload_n 3, 1) := by decide +kernel
theorem dL_mean_1 : decode cL_mean 1 = .ok (.iconst 0, 1) := by decide +kernel
theorem dL_mean_2 : decode cL_mean 2 = .ok (.aload_n 0, 1) := by decide +kernel
theorem dL_mean_3 : decode cL_mean 3 = .ok (.iload_n 1, 1) := by decide +kernel
theorem dL_mean_4 : decode cL_mean 4 = .ok (.iload_n 2, 1) := by decide +kernel
theorem dL_mean_5 : decode cL_mean 5 = .ok (.invokevirtual 72, 3) := by decide +kernel
theorem dL_mean_8 : decode cL_mean 8 = .ok (.f2d, 1) := by decide +kernel
theorem dL_mean_9 : decode cL_mean 9 = .ok (.dastore, 1) := by decide +kernel
theorem dL_mean_10 : decode cL_mean 10 = .ok (.goto 7, 3) := by decide +kernel
theorem dL_mean_13 : decode cL_mean 13 = .ok (.astore 4, 2) := by decide +kernel
theorem dL_mean_15 : decode cL_mean 15 = .ok (.iconst 1, 1) := by decide +kernel
theorem dL_mean_16 : decode cL_mean 16 = .ok (.ireturn, 1) := by decide +kernel
theorem dL_mean_17 : decode cL_mean 17 = .ok (.iconst 0, 1) := by decide +kernel
theorem dL_mean_18 : decode cL_mean 18 = .ok (.ireturn, 1) := by decide +kernel
theorem dL_opponent_0 : decode cL_opponent 0 = .ok (.aload_n 2, 1) := by decide +kernel
theorem dL_opponent_1 : decode cL_opponent 1 = .ok (.iconst 0, 1) := by decide +kernel
theorem dL_opponent_2 : decode cL_opponent 2 = .ok (.aload_n 0, 1) := by decide +kernel
theorem dL_opponent_3 : decode cL_opponent 3 = .ok (.iload_n 1, 1) := by decide +kernel
theorem dL_opponent_4 : decode cL_opponent 4 = .ok (.invokevirtual 76, 3) := by decide +kernel
theorem dL_opponent_7 : decode cL_opponent 7 = .ok (.i2l, 1) := by decide +kernel
theorem dL_opponent_8 : decode cL_opponent 8 = .ok (.lastore, 1) := by decide +kernel
theorem dL_opponent_9 : decode cL_opponent 9 = .ok (.goto 6, 3) := by decide +kernel
theorem dL_opponent_12 : decode cL_opponent 12 = .ok (.astore_n 3, 1) := by decide +kernel
theorem dL_opponent_13 : decode cL_opponent 13 = .ok (.iconst 1, 1) := by decide +kernel
theorem dL_opponent_14 : decode cL_opponent 14 = .ok (.ireturn, 1) := by decide +kernel
theorem dL_opponent_15 : decode cL_opponent 15 = .ok (.iconst 0, 1) := by decide +kernel
theorem dL_opponent_16 : decode cL_opponent 16 = .ok (.ireturn, 1) := by decide +kernel
theorem dL_hasWhite_0 : decode cL_hasWhite 0 = .ok (.aload_n 2, 1) := by decide +kernel
theorem dL_hasWhite_1 : decode cL_hasWhite 1 = .ok (.iconst 0, 1) := by decide +kernel
theorem dL_hasWhite_2 : decode cL_hasWhite 2 = .ok (.aload_n 0, 1) := by decide +kernel
theorem dL_hasWhite_3 : decode cL_hasWhite 3 = .ok (.iload_n 1, 1) := by decide +kernel
theorem dL_hasWhite_4 : decode cL_hasWhite 4 = .ok (.invokevirtual 79, 3) := by decide +kernel
theorem dL_hasWhite_7 : decode cL_hasWhite 7 = .ok (.ifCond .eq 7, 3) := by decide +kernel
theorem dL_hasWhite_10 : decode cL_hasWhite 10 = .ok (.lconst 1, 1) := by decide +kernel
theorem dL_hasWhite_11 : decode cL_hasWhite 11 = .ok (.goto 4, 3) := by decide +kernel
theorem dL_hasWhite_14 : decode cL_hasWhite 14 = .ok (.lconst 0, 1) := by decide +kernel
theorem dL_hasWhite_15 : decode cL_hasWhite 15 = .ok (.lastore, 1) := by decide +kernel
theorem dL_hasWhite_16 : decode cL_hasWhite 16 = .ok (.goto 9, 3) := by decide +kernel
theorem dL_hasWhite_19 : decode cL_hasWhite 19 = .ok (.astore_n 3, 1) := by decide +kernel
theorem dL_hasWhite_20 : decode cL_hasWhite 20 = .ok (.iconst 1, 1) := by decide +kernel
theorem dL_hasWhite_21 : decode cL_hasWhite 21 = .ok (.ireturn, 1) := by decide +kernel
theorem dL_hasWhite_22 : decode cL_hasWhite 22 = .ok (.astore_n 3, 1) := by decide +kernel
theorem dL_hasWhite_23 : decode cL_hasWhite 23 = .ok (.iconst 2, 1) := by decide +kernel
theorem dL_hasWhite_24 : decode cL_hasWhite 24 = .ok (.ireturn, 1) := by decide +kernel
theorem dL_hasWhite_25 : decode cL_hasWhite 25 = .ok (.iconst 0, 1) := by decide +kernel
theorem dL_hasWhite_26 : decode cL_hasWhite 26 = .ok (.ireturn, 1) := by decide +kernel
