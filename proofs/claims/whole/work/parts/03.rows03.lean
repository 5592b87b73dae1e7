theorem dX6_notes_134 : decode cX6_notes 134 = .ok (.iaload, 1) := by decide +kernel
theorem dX6_notes_135 : decode cX6_notes 135 = .ok (.goto 20, 3) := by decide +kernel
theorem dX6_notes_138 : decode cX6_notes 138 = .ok (.iconst 2, 1) := by decide +kernel
theorem dX6_notes_139 : decode cX6_notes 139 = .ok (.aload_n 0, 1) := by decide +kernel
theorem dX6_notes_140 : decode cX6_notes 140 = .ok (.getfield 44, 3) := by decide +kernel
theorem dX6_notes_143 : decode cX6_notes 143 = .ok (.iload 5, 2) := by decide +kernel
theorem dX6_notes_145 : decode cX6_notes 145 = .ok (.iaload, 1) := by decide +kernel
theorem dX6_notes_146 : decode cX6_notes 146 = .ok (.imul, 1) := by decide +kernel
theorem dX6_notes_147 : decode cX6_notes 147 = .ok (.aload_n 0, 1) := by decide +kernel
theorem dX6_notes_148 : decode cX6_notes 148 = .ok (.getfield 47, 3) := by decide +kernel
theorem dX6_notes_151 : decode cX6_notes 151 = .ok (.iload 5, 2) := by decide +kernel
theorem dX6_notes_153 : decode cX6_notes 153 = .ok (.iaload, 1) := by decide +kernel
theorem dX6_notes_154 : decode cX6_notes 154 = .ok (.isub, 1) := by decide +kernel
theorem dX6_notes_155 : decode cX6_notes 155 = .ok (.istore 6, 2) := by decide +kernel
theorem dX6_notes_157 : decode cX6_notes 157 = .ok (.aload_n 0, 1) := by decide +kernel
theorem dX6_notes_158 : decode cX6_notes 158 = .ok (.getfield 50, 3) := by decide +kernel
theorem dX6_notes_161 : decode cX6_notes 161 = .ok (.iload 5, 2) := by decide +kernel
theorem dX6_notes_163 : decode cX6_notes 163 = .ok (.aload_n 0, 1) := by decide +kernel
theorem dX6_notes_164 : decode cX6_notes 164 = .ok (.getfield 50, 3) := by decide +kernel
theorem dX6_notes_167 : decode cX6_notes 167 = .ok (.iload 5, 2) := by decide +kernel
theorem dX6_notes_169 : decode cX6_notes 169 = .ok (.baload, 1) := by decide +kernel
theorem dX6_notes_170 : decode cX6_notes 170 = .ok (.ifCond .ne 40, 3) := by decide +kernel
theorem dX6_notes_173 : decode cX6_notes 173 = .ok (.aload_n 0, 1) := by decide +kernel
theorem dX6_notes_174 : decode cX6_notes 174 = .ok (.getfield 44, 3) := by decide +kernel
theorem dX6_notes_177 : decode cX6_notes 177 = .ok (.iload 5, 2) := by decide +kernel
theorem dX6_notes_179 : decode cX6_notes 179 = .ok (.iaload, 1) := by decide +kernel
theorem dX6_notes_180 : decode cX6_notes 180 = .ok (.iconst 3, 1) := by decide +kernel
theorem dX6_notes_181 : decode cX6_notes 181 = .ok (.if_icmp .lt 33, 3) := by decide +kernel
theorem dX6_notes_184 : decode cX6_notes 184 = .ok (.iconst 3, 1) := by decide +kernel
theorem dX6_notes_185 : decode cX6_notes 185 = .ok (.iload 6, 2) := by decide +kernel
theorem dX6_notes_187 : decode cX6_notes 187 = .ok (.imul, 1) := by decide +kernel
theorem dX6_notes_188 : decode cX6_notes 188 = .ok (.iconst 2, 1) := by decide +kernel
theorem dX6_notes_189 : decode cX6_notes 189 = .ok (.aload_n 0, 1) := by decide +kernel
theorem dX6_notes_190 : decode cX6_notes 190 = .ok (.getfield 44, 3) := by decide +kernel
theorem dX6_notes_193 : decode cX6_notes 193 = .ok (.iload 5, 2) := by decide +kernel
theorem dX6_notes_195 : decode cX6_notes 195 = .ok (.iaload, 1) := by decide +kernel
theorem dX6_notes_196 : decode cX6_notes 196 = .ok (.imul, 1) := by decide +kernel
theorem dX6_notes_197 : decode cX6_notes 197 = .ok (.if_icmp .ge 17, 3) := by decide +kernel
theorem dX6_notes_200 : decode cX6_notes 200 = .ok (.aload_n 0, 1) := by decide +kernel
theorem dX6_notes_201 : decode cX6_notes 201 = .ok (.iload 4, 2) := by decide +kernel
theorem dX6_notes_203 : decode cX6_notes 203 = .ok (.iload_n 3, 1) := by decide +kernel
theorem dX6_notes_204 : decode cX6_notes 204 = .ok (.invokevirtual 121, 3) := by decide +kernel
theorem dX6_notes_207 : decode cX6_notes 207 = .ok (.ifCond .ne 7, 3) := by decide +kernel
theorem dX6_notes_210 : decode cX6_notes 210 = .ok (.iconst 1, 1) := by decide +kernel
theorem dX6_notes_211 : decode cX6_notes 211 = .ok (.goto 4, 3) := by decide +kernel
theorem dX6_notes_214 : decode cX6_notes 214 = .ok (.iconst 0, 1) := by decide +kernel
theorem dX6_notes_215 : decode cX6_notes 215 = .ok (.bastore, 1) := by decide +kernel
theorem dX6_notes_216 : decode cX6_notes 216 = .ok (.iinc 4 1, 3) := by decide +kernel
theorem dX6_notes_219 : decode cX6_notes 219 = .ok (.goto (-117), 3) := by decide +kernel
theorem dX6_notes_222 : decode cX6_notes 222 = .ok (.iinc 3 1, 3) := by decide +kernel
theorem dX6_notes_225 : decode cX6_notes 225 = .ok (.goto (-132), 3) := by decide +kernel
theorem dX6_notes_228 : decode cX6_notes 228 = .ok (.return_, 1) := by decide +kernel
theorem dX6_end_0 : decode cX6_end 0 = .ok (.aload_n 0, 1) := by decide +kernel
theorem dX6_end_1 : decode cX6_end 1 = .ok (.iload_n 1, 1) := by decide +kernel
theorem dX6_end_2 : decode cX6_end 2 = .ok (.iconst 0, 1) := by decide +kernel
theorem dX6_end_3 : decode cX6_end 3 = .ok (.iconst 2, 1) := by decide +kernel
theorem dX6_end_4 : decode cX6_end 4 = .ok (.invokestatic 63, 3) := by decide +kernel
theorem dX6_end_7 : decode cX6_end 7 = .ok (.aload_n 0, 1) := by decide +kernel
theorem dX6_end_8 : decode cX6_end 8 = .ok (.getfield 98, 3) := by decide +kernel
theorem dX6_end_11 : decode cX6_end 11 = .ok (.iconst 1, 1) := by decide +kernel
theorem dX6_end_12 : decode cX6_end 12 = .ok (.invokevirtual 91, 3) := by decide +kernel
theorem dX6_end_15 : decode cX6_end 15 = .ok (.ifCond .ne 5, 3) := by decide +kernel
theorem dX6_end_18 : decode cX6_end 18 = .ok (.iconst 0, 1) := by decide +kernel
theorem dX6_end_19 : decode cX6_end 19 = .ok (.ireturn, 1) := by decide +kernel
theorem dX6_end_20 : decode cX6_end 20 = .ok (.aload_n 0, 1) := by decide +kernel
theorem dX6_end_21 : decode cX6_end 21 = .ok (.getfield 95, 3) := by decide +kernel
theorem dX6_end_24 : decode cX6_end 24 = .ok (.iconst 1, 1) := by decide +kernel
theorem dX6_end_25 : decode cX6_end 25 = .ok (.isub, 1) := by decide +kernel
theorem dX6_end_26 : decode cX6_end 26 = .ok (.istore_n 2, 1) := by decide +kernel
theorem dX6_end_27 : decode cX6_end 27 = .ok (.aload_n 0, 1) := by decide +kernel
theorem dX6_end_28 : decode cX6_end 28 = .ok (.iconst 0, 1) := by decide +kernel
theorem dX6_end_29 : decode cX6_end 29 = .ok (.putfield 98, 3) := by decide +kernel
theorem dX6_end_32 : decode cX6_end 32 = .ok (.aload_n 0, 1) := by decide +kernel
theorem dX6_end_33 : decode cX6_end 33 = .ok (.getfield 32, 3) := by decide +kernel
theorem dX6_end_36 : decode cX6_end 36 = .ok (.iload_n 2, 1) := by decide +kernel
theorem dX6_end_37 : decode cX6_end 37 = .ok (.iload_n 1, 1) := by decide +kernel
theorem dX6_end_38 : decode cX6_end 38 = .ok (.iastore, 1) := by decide +kernel
theorem dX6_end_39 : decode cX6_end 39 = .ok (.aload_n 0, 1) := by decide +kernel
theorem dX6_end_40 : decode cX6_end 40 = .ok (.getfield 7, 3) := by decide +kernel
theorem dX6_end_43 : decode cX6_end 43 = .ok (.aload_n 0, 1) := by decide +kernel
theorem dX6_end_44 : decode cX6_end 44 = .ok (.getfield 23, 3) := by decide +kernel
theorem dX6_end_47 : decode cX6_end 47 = .ok (.iload_n 2, 1) := by decide +kernel
theorem dX6_end_48 : decode cX6_end 48 = .ok (.iaload, 1) := by decide +kernel
theorem dX6_end_49 : decode cX6_end 49 = .ok (.dup2, 1) := by decide +kernel
theorem dX6_end_50 : decode cX6_end 50 = .ok (.iaload, 1) := by decide +kernel
theorem dX6_end_51 : decode cX6_end 51 = .ok (.iload_n 1, 1) := by decide +kernel
theorem dX6_end_52 : decode cX6_end 52 = .ok (.iadd, 1) := by decide +kernel
theorem dX6_end_53 : decode cX6_end 53 = .ok (.iastore, 1) := by decide +kernel
theorem dX6_end_54 : decode cX6_end 54 = .ok (.aload_n 0, 1) := by decide +kernel
theorem dX6_end_55 : decode cX6_end 55 = .ok (.getfield 7, 3) := by decide +kernel
theorem dX6_end_58 : decode cX6_end 58 = .ok (.aload_n 0, 1) := by decide +kernel
theorem dX6_end_59 : decode cX6_end 59 = .ok (.getfield 26, 3) := by decide +kernel
theorem dX6_end_62 : decode cX6_end 62 = .ok (.iload_n 2, 1) := by decide +kernel
theorem dX6_end_63 : decode cX6_end 63 = .ok (.iaload, 1) := by decide +kernel
theorem dX6_end_64 : decode cX6_end 64 = .ok (.dup2, 1) := by decide +kernel
theorem dX6_end_65 : decode cX6_end 65 = .ok (.iaload, 1) := by decide +kernel
theorem dX6_end_66 : decode cX6_end 66 = .ok (.iconst 2, 1) := by decide +kernel
theorem dX6_end_67 : decode cX6_end 67 = .ok (.iload_n 1, 1) := by decide +kernel
theorem dX6_end_68 : decode cX6_end 68 = .ok (.isub, 1) := by decide +kernel
theorem dX6_end_69 : decode cX6_end 69 = .ok (.iadd, 1) := by decide +kernel
theorem dX6_end_70 : decode cX6_end 70 = .ok (.iastore, 1) := by decide +kernel
theorem dX6_end_71 : decode cX6_end 71 = .ok (.aload_n 0, 1) := by decide +kernel
theorem dX6_end_72 : decode cX6_end 72 = .ok (.getfield 13, 3) := by decide +kernel
theorem dX6_end_75 : decode cX6_end 75 = .ok (.aload_n 0, 1) := by decide +kernel
theorem dX6_end_76 : decode cX6_end 76 = .ok (.getfield 23, 3) := by decide +kernel
theorem dX6_end_79 : decode cX6_end 79 = .ok (.iload_n 2, 1) := by decide +kernel
theorem dX6_end_80 : decode cX6_end 80 = .ok (.iaload, 1) := by decide +kernel
theorem dX6_end_81 : decode cX6_end 81 = .ok (.dup2, 1) := by decide +kernel
theorem dX6_end_82 : decode cX6_end 82 = .ok (.iaload, 1) := by decide +kernel
theorem dX6_end_83 : decode cX6_end 83 = .ok (.iconst 1, 1) := by decide +kernel
theorem dX6_end_84 : decode cX6_end 84 = .ok (.iadd, 1) := by decide +kernel
theorem dX6_end_85 : decode cX6_end 85 = .ok (.iastore, 1) := by decide +kernel
theorem dX6_end_86 : decode cX6_end 86 = .ok (.aload_n 0, 1) := by decide +kernel
theorem dX6_end_87 : decode cX6_end 87 = .ok (.getfield 13, 3) := by decide +kernel
theorem dX6_end_90 : decode cX6_end 90 = .ok (.aload_n 0, 1) := by decide +kernel
theorem dX6_end_91 : decode cX6_end 91 = .ok (.getfield 26, 3) := by decide +kernel
theorem dX6_end_94 : decode cX6_end 94 = .ok (.iload_n 2, 1) := by decide +kernel
theorem dX6_end_95 : decode cX6_end 95 = .ok (.iaload, 1) := by decide +kernel
theorem dX6_end_96 : decode cX6_end 96 = .ok (.dup2, 1) := by decide +kernel
theorem dX6_end_97 : decode cX6_end 97 = .ok (.iaload, 1) := by decide +kernel
theorem dX6_end_98 : decode cX6_end 98 = .ok (.iconst 1, 1) := by decide +kernel
theorem dX6_end_99 : decode cX6_end 99 = .ok (.isub, 1) := by decide +kernel
theorem dX6_end_100 : decode cX6_end 100 = .ok (.iastore, 1) := by decide +kernel
theorem dX6_end_101 : decode cX6_end 101 = .ok (.aload_n 0, 1) := by decide +kernel
theorem dX6_end_102 : decode cX6_end 102 = .ok (.iload_n 2, 1) := by decide +kernel
theorem dX6_end_103 : decode cX6_end 103 = .ok (.invokevirtual 124, 3) := by decide +kernel
theorem dX6_end_106 : decode cX6_end 106 = .ok (.aload_n 0, 1) := by decide +kernel
theorem dX6_end_107 : decode cX6_end 107 = .ok (.iload_n 2, 1) := by decide +kernel
theorem dX6_end_108 : decode cX6_end 108 = .ok (.invokevirtual 128, 3) := by decide +kernel
theorem dX6_end_111 : decode cX6_end 111 = .ok (.ireturn, 1) := by decide +kernel
theorem dX6_position_0 : decode cX6_position 0 = .ok (.aload_n 0, 1) := by decide +kernel
theorem dX6_position_1 : decode cX6_position 1 = .ok (.aload_n 0, 1) := by decide +kernel
theorem dX6_position_2 : decode cX6_position 2 = .ok (.getfield 98, 3) := by decide +kernel
theorem dX6_position_5 : decode cX6_position 5 = .ok (.ifCond .eq 10, 3) := by decide +kernel
theorem dX6_position_8 : decode cX6_position 8 = .ok (.aload_n 0, 1) := by decide +kernel
theorem dX6_position_9 : decode cX6_position 9 = .ok (.getfield 105, 3) := by decide +kernel
theorem dX6_position_12 : decode cX6_position 12 = .ok (.goto 4, 3) := by decide +kernel
theorem dX6_position_15 : decode cX6_position 15 = .ok (.iconst (-1), 1) := by decide +kernel
theorem dX6_position_16 : decode cX6_position 16 = .ok (.invokevirtual 131, 3) := by decide +kernel
theorem dX6_position_19 : decode cX6_position 19 = .ok (.ireturn, 1) := by decide +kernel
theorem dX6_games_0 : decode cX6_games 0 = .ok (.aload_n 0, 1) := by decide +kernel
theorem dX6_games_1 : decode cX6_games 1 = .ok (.aload_n 0, 1) := by decide +kernel
theorem dX6_games_2 : decode cX6_games 2 = .ok (.invokevirtual 134, 3) := by decide +kernel
theorem dX6_games_5 : decode cX6_games 5 = .ok (.invokevirtual 131, 3) := by decide +kernel
theorem dX6_games_8 : decode cX6_games 8 = .ok (.ireturn, 1) := by decide +kernel
theorem dX6_score_0 : decode cX6_score 0 = .ok (.aload_n 0, 1) := by decide +kernel
theorem dX6_score_1 : decode cX6_score 1 = .ok (.aload_n 0, 1) := by decide +kernel
theorem dX6_score_2 : decode cX6_score 2 = .ok (.iload_n 1, 1) := by decide +kernel
theorem dX6_score_3 : decode cX6_score 3 = .ok (.invokevirtual 102, 3) := by decide +kernel
theorem dX6_score_6 : decode cX6_score 6 = .ok (.iconst 1, 1) := by decide +kernel
theorem dX6_score_7 : decode cX6_score 7 = .ok (.iconst 1, 1) := by decide +kernel
theorem dX6_score_8 : decode cX6_score 8 = .ok (.invokevirtual 91, 3) := by decide +kernel
theorem dX6_score_11 : decode cX6_score 11 = .ok (.ifCond .eq 12, 3) := by decide +kernel
theorem dX6_score_14 : decode cX6_score 14 = .ok (.aload_n 0, 1) := by decide +kernel
theorem dX6_score_15 : decode cX6_score 15 = .ok (.getfield 7, 3) := by decide +kernel
theorem dX6_score_18 : decode cX6_score 18 = .ok (.iload_n 1, 1) := by decide +kernel
theorem dX6_score_19 : decode cX6_score 19 = .ok (.iaload, 1) := by decide +kernel
theorem dX6_score_20 : decode cX6_score 20 = .ok (.goto 4, 3) := by decide +kernel
theorem dX6_score_23 : decode cX6_score 23 = .ok (.iconst 0, 1) := by decide +kernel
theorem dX6_score_24 : decode cX6_score 24 = .ok (.ireturn, 1) := by decide +kernel
theorem dX6_puzzles_0 : decode cX6_puzzles 0 = .ok (.aload_n 0, 1) := by decide +kernel
theorem dX6_puzzles_1 : decode cX6_puzzles 1 = .ok (.aload_n 0, 1) := by decide +kernel
theorem dX6_puzzles_2 : decode cX6_puzzles 2 = .ok (.getfield 70, 3) := by decide +kernel
theorem dX6_puzzles_5 : decode cX6_puzzles 5 = .ok (.invokevirtual 131, 3) := by decide +kernel
theorem dX6_puzzles_8 : decode cX6_puzzles 8 = .ok (.ireturn, 1) := by decide +kernel
theorem dX6_puzzle_0 : decode cX6_puzzle 0 = .ok (.aload_n 0, 1) := by decide +kernel
theorem dX6_puzzle_1 : decode cX6_puzzle 1 = .ok (.aload_n 0, 1) := by decide +kernel
theorem dX6_puzzle_2 : decode cX6_puzzle 2 = .ok (.iload_n 1, 1) := by decide +kernel
theorem dX6_puzzle_3 : decode cX6_puzzle 3 = .ok (.invokevirtual 138, 3) := by decide +kernel
theorem dX6_puzzle_6 : decode cX6_puzzle 6 = .ok (.iconst 1, 1) := by decide +kernel
theorem dX6_puzzle_7 : decode cX6_puzzle 7 = .ok (.iconst 1, 1) := by decide +kernel
theorem dX6_puzzle_8 : decode cX6_puzzle 8 = .ok (.invokevirtual 91, 3) := by decide +kernel
theorem dX6_puzzle_11 : decode cX6_puzzle 11 = .ok (.ifCond .eq 12, 3) := by decide +kernel
theorem dX6_puzzle_14 : decode cX6_puzzle 14 = .ok (.aload_n 0, 1) := by decide +kernel
theorem dX6_puzzle_15 : decode cX6_puzzle 15 = .ok (.getfield 38, 3) := by decide +kernel
theorem dX6_puzzle_18 : decode cX6_puzzle 18 = .ok (.iload_n 1, 1) := by decide +kernel
theorem dX6_puzzle_19 : decode cX6_puzzle 19 = .ok (.iaload, 1) := by decide +kernel
theorem dX6_puzzle_20 : decode cX6_puzzle 20 = .ok (.goto 4, 3) := by decide +kernel
theorem dX6_puzzle_23 : decode cX6_puzzle 23 = .ok (.iconst 0, 1) := by decide +kernel
theorem dX6_puzzle_24 : decode cX6_puzzle 24 = .ok (.ireturn, 1) := by decide +kernel
theorem dX6_source_0 : decode cX6_source 0 = .ok (.aload_n 0, 1) := by decide +kernel
theorem dX6_source_1 : decode cX6_source 1 = .ok (.aload_n 0, 1) := by decide +kernel
theorem dX6_source_2 : decode cX6_source 2 = .ok (.iload_n 1, 1) := by decide +kernel
theorem dX6_source_3 : decode cX6_source 3 = .ok (.invokevirtual 138, 3) := by decide +kernel
theorem dX6_source_6 : decode cX6_source 6 = .ok (.iconst 1, 1) := by decide +kernel
theorem dX6_source_7 : decode cX6_source 7 = .ok (.iconst 1, 1) := by decide +kernel
theorem dX6_source_8 : decode cX6_source 8 = .ok (.invokevirtual 91, 3) := by decide +kernel
theorem dX6_source_11 : decode cX6_source 11 = .ok (.ifCond .eq 12, 3) := by decide +kernel
theorem dX6_source_14 : decode cX6_source 14 = .ok (.aload_n 0, 1) := by decide +kernel
theorem dX6_source_15 : decode cX6_source 15 = .ok (.getfield 41, 3) := by decide +kernel
theorem dX6_source_18 : decode cX6_source 18 = .ok (.iload_n 1, 1) := by decide +kernel
theorem dX6_source_19 : decode cX6_source 19 = .ok (.iaload, 1) := by decide +kernel
theorem dX6_source_20 : decode cX6_source 20 = .ok (.goto 4, 3) := by decide +kernel
theorem dX6_source_23 : decode cX6_source 23 = .ok (.iconst 0, 1) := by decide +kernel
theorem dX6_source_24 : decode cX6_source 24 = .ok (.ireturn, 1) := by decide +kernel
theorem dX6_solve_0 : decode cX6_solve 0 = .ok (.aload_n 0, 1) := by decide +kernel
theorem dX6_solve_1 : decode cX6_solve 1 = .ok (.iload_n 1, 1) := by decide +kernel
theorem dX6_solve_2 : decode cX6_solve 2 = .ok (.invokevirtual 102, 3) := by decide +kernel
theorem dX6_solve_5 : decode cX6_solve 5 = .ok (.ifCond .eq 15, 3) := by decide +kernel
theorem dX6_solve_8 : decode cX6_solve 8 = .ok (.aload_n 0, 1) := by decide +kernel
theorem dX6_solve_9 : decode cX6_solve 9 = .ok (.iload_n 2, 1) := by decide +kernel
theorem dX6_solve_10 : decode cX6_solve 10 = .ok (.invokevirtual 138, 3) := by decide +kernel
theorem dX6_solve_13 : decode cX6_solve 13 = .ok (.ifCond .eq 7, 3) := by decide +kernel
theorem dX6_solve_16 : decode cX6_solve 16 = .ok (.iconst 1, 1) := by decide +kernel
theorem dX6_solve_17 : decode cX6_solve 17 = .ok (.goto 4, 3) := by decide +kernel
theorem dX6_solve_20 : decode cX6_solve 20 = .ok (.iconst 0, 1) := by decide +kernel
theorem dX6_solve_21 : decode cX6_solve 21 = .ok (.istore 4, 2) := by decide +kernel
theorem dX6_solve_23 : decode cX6_solve 23 = .ok (.iload 4, 2) := by decide +kernel
theorem dX6_solve_25 : decode cX6_solve 25 = .ok (.ifCond .eq 12, 3) := by decide +kernel
theorem dX6_solve_28 : decode cX6_solve 28 = .ok (.bipush 40, 2) := by decide +kernel
theorem dX6_solve_30 : decode cX6_solve 30 = .ok (.iload_n 1, 1) := by decide +kernel
theorem dX6_solve_31 : decode cX6_solve 31 = .ok (.imul, 1) := by decide +kernel
theorem dX6_solve_32 : decode cX6_solve 32 = .ok (.iload_n 2, 1) := by decide +kernel
theorem dX6_solve_33 : decode cX6_solve 33 = .ok (.iadd, 1) := by decide +kernel
theorem dX6_solve_34 : decode cX6_solve 34 = .ok (.goto 4, 3) := by decide +kernel
theorem dX6_solve_37 : decode cX6_solve 37 = .ok (.iconst 0, 1) := by decide +kernel
theorem dX6_solve_38 : decode cX6_solve 38 = .ok (.istore 5, 2) := by decide +kernel
theorem dX6_solve_40 : decode cX6_solve 40 = .ok (.aload_n 0, 1) := by decide +kernel
theorem dX6_solve_41 : decode cX6_solve 41 = .ok (.iload 4, 2) := by decide +kernel
theorem dX6_solve_43 : decode cX6_solve 43 = .ok (.iload_n 3, 1) := by decide +kernel
theorem dX6_solve_44 : decode cX6_solve 44 = .ok (.invokestatic 88, 3) := by decide +kernel
theorem dX6_solve_47 : decode cX6_solve 47 = .ok (.iload 4, 2) := by decide +kernel
theorem dX6_solve_49 : decode cX6_solve 49 = .ok (.ifCond .eq 17, 3) := by decide +kernel
theorem dX6_solve_52 : decode cX6_solve 52 = .ok (.aload_n 0, 1) := by decide +kernel
theorem dX6_solve_53 : decode cX6_solve 53 = .ok (.getfield 19, 3) := by decide +kernel
theorem dX6_solve_56 : decode cX6_solve 56 = .ok (.iload 5, 2) := by decide +kernel
theorem dX6_solve_58 : decode cX6_solve 58 = .ok (.baload, 1) := by decide +kernel
theorem dX6_solve_59 : decode cX6_solve 59 = .ok (.ifCond .ne 7, 3) := by decide +kernel
theorem dX6_solve_62 : decode cX6_solve 62 = .ok (.iconst 1, 1) := by decide +kernel
theorem dX6_solve_63 : decode cX6_solve 63 = .ok (.goto 4, 3) := by decide +kernel
theorem dX6_solve_66 : decode cX6_solve 66 = .ok (.iconst 0, 1) := by decide +kernel
theorem dX6_solve_67 : decode cX6_solve 67 = .ok (.invokevirtual 91, 3) := by decide +kernel
theorem dX6_solve_70 : decode cX6_solve 70 = .ok (.ifCond .ne 5, 3) := by decide +kernel
theorem dX6_solve_73 : decode cX6_solve 73 = .ok (.iconst 0, 1) := by decide +kernel
theorem dX6_solve_74 : decode cX6_solve 74 = .ok (.ireturn, 1) := by decide +kernel
theorem dX6_solve_75 : decode cX6_solve 75 = .ok (.aload_n 0, 1) := by decide +kernel
theorem dX6_solve_76 : decode cX6_solve 76 = .ok (.getfield 19, 3) := by decide +kernel
theorem dX6_solve_79 : decode cX6_solve 79 = .ok (.iload 5, 2) := by decide +kernel
theorem dX6_solve_81 : decode cX6_solve 81 = .ok (.iconst 1, 1) := by decide +kernel
theorem dX6_solve_82 : decode cX6_solve 82 = .ok (.bastore, 1) := by decide +kernel
theorem dX6_solve_83 : decode cX6_solve 83 = .ok (.iload_n 3, 1) := by decide +kernel
theorem dX6_solve_84 : decode cX6_solve 84 = .ok (.aload_n 0, 1) := by decide +kernel
theorem dX6_solve_85 : decode cX6_solve 85 = .ok (.getfield 38, 3) := by decide +kernel
theorem dX6_solve_88 : decode cX6_solve 88 = .ok (.iload_n 2, 1) := by decide +kernel
theorem dX6_solve_89 : decode cX6_solve 89 = .ok (.iaload, 1) := by decide +kernel
theorem dX6_solve_90 : decode cX6_solve 90 = .ok (.invokestatic 81, 3) := by decide +kernel
theorem dX6_solve_93 : decode cX6_solve 93 = .ok (.if_icmp .ne 7, 3) := by decide +kernel
theorem dX6_solve_96 : decode cX6_solve 96 = .ok (.iconst 1, 1) := by decide +kernel
theorem dX6_solve_97 : decode cX6_solve 97 = .ok (.goto 4, 3) := by decide +kernel
theorem dX6_solve_100 : decode cX6_solve 100 = .ok (.iconst 0, 1) := by decide +kernel
theorem dX6_solve_101 : decode cX6_solve 101 = .ok (.istore 6, 2) := by decide +kernel
theorem dX6_solve_103 : decode cX6_solve 103 = .ok (.iconst 5, 1) := by decide +kernel
theorem dX6_solve_104 : decode cX6_solve 104 = .ok (.iload_n 1, 1) := by decide +kernel
theorem dX6_solve_105 : decode cX6_solve 105 = .ok (.imul, 1) := by decide +kernel
theorem dX6_solve_106 : decode cX6_solve 106 = .ok (.aload_n 0, 1) := by decide +kernel
theorem dX6_solve_107 : decode cX6_solve 107 = .ok (.getfield 38, 3) := by decide +kernel
theorem dX6_solve_110 : decode cX6_solve 110 = .ok (.iload_n 2, 1) := by decide +kernel
theorem dX6_solve_111 : decode cX6_solve 111 = .ok (.iaload, 1) := by decide +kernel
theorem dX6_solve_112 : decode cX6_solve 112 = .ok (.iconst 5, 1) := by decide +kernel
theorem dX6_solve_113 : decode cX6_solve 113 = .ok (.irem, 1) := by decide +kernel
theorem dX6_solve_114 : decode cX6_solve 114 = .ok (.iadd, 1) := by decide +kernel
theorem dX6_solve_115 : decode cX6_solve 115 = .ok (.istore 7, 2) := by decide +kernel
theorem dX6_solve_117 : decode cX6_solve 117 = .ok (.aload_n 0, 1) := by decide +kernel
theorem dX6_solve_118 : decode cX6_solve 118 = .ok (.getfield 16, 3) := by decide +kernel
theorem dX6_solve_121 : decode cX6_solve 121 = .ok (.iload 7, 2) := by decide +kernel
theorem dX6_solve_123 : decode cX6_solve 123 = .ok (.iaload, 1) := by decide +kernel
theorem dX6_solve_124 : decode cX6_solve 124 = .ok (.sipush 1000, 3) := by decide +kernel
theorem dX6_solve_127 : decode cX6_solve 127 = .ok (.if_icmp .le 20, 3) := by decide +kernel
theorem dX6_solve_130 : decode cX6_solve 130 = .ok (.aload_n 0, 1) := by decide +kernel
theorem dX6_solve_131 : decode cX6_solve 131 = .ok (.getfield 16, 3) := by decide +kernel
theorem dX6_solve_134 : decode cX6_solve 134 = .ok (.iload 7, 2) := by decide +kernel
theorem dX6_solve_136 : decode cX6_solve 136 = .ok (.iaload, 1) := by decide +kernel
theorem dX6_solve_137 : decode cX6_solve 137 = .ok (.sipush 1000, 3) := by decide +kernel
theorem dX6_solve_140 : decode cX6_solve 140 = .ok (.isub, 1) := by decide +kernel
theorem dX6_solve_141 : decode cX6_solve 141 = .ok (.bipush 50, 2) := by decide +kernel
theorem dX6_solve_143 : decode cX6_solve 143 = .ok (.idiv, 1) := by decide +kernel
theorem dX6_solve_144 : decode cX6_solve 144 = .ok (.goto 4, 3) := by decide +kernel
theorem dX6_solve_147 : decode cX6_solve 147 = .ok (.iconst 0, 1) := by decide +kernel
theorem dX6_solve_148 : decode cX6_solve 148 = .ok (.istore 8, 2) := by decide +kernel
theorem dX6_solve_150 : decode cX6_solve 150 = .ok (.aload_n 0, 1) := by decide +kernel
theorem dX6_solve_151 : decode cX6_solve 151 = .ok (.getfield 16, 3) := by decide +kernel
theorem dX6_solve_154 : decode cX6_solve 154 = .ok (.iload 7, 2) := by decide +kernel
theorem dX6_solve_156 : decode cX6_solve 156 = .ok (.iaload, 1) := by decide +kernel
theorem dX6_solve_157 : decode cX6_solve 157 = .ok (.iload 6, 2) := by decide +kernel
theorem dX6_solve_159 : decode cX6_solve 159 = .ok (.ifCond .eq 11, 3) := by decide +kernel
theorem dX6_solve_162 : decode cX6_solve 162 = .ok (.bipush 32, 2) := by decide +kernel
theorem dX6_solve_164 : decode cX6_solve 164 = .ok (.iload 8, 2) := by decide +kernel
theorem dX6_solve_166 : decode cX6_solve 166 = .ok (.isub, 1) := by decide +kernel
theorem dX6_solve_167 : decode cX6_solve 167 = .ok (.goto 5, 3) := by decide +kernel
theorem dX6_solve_170 : decode cX6_solve 170 = .ok (.bipush (-16), 2) := by decide +kernel
theorem dX6_solve_172 : decode cX6_solve 172 = .ok (.iadd, 1) := by decide +kernel
theorem dX6_solve_173 : decode cX6_solve 173 = .ok (.istore 9, 2) := by decide +kernel
theorem dX6_solve_175 : decode cX6_solve 175 = .ok (.aload_n 0, 1) := by decide +kernel
theorem dX6_solve_176 : decode cX6_solve 176 = .ok (.getfield 16, 3) := by decide +kernel
theorem dX6_solve_179 : decode cX6_solve 179 = .ok (.iload 7, 2) := by decide +kernel
theorem dX6_solve_181 : decode cX6_solve 181 = .ok (.iload 9, 2) := by decide +kernel
theorem dX6_solve_183 : decode cX6_solve 183 = .ok (.bipush 100, 2) := by decide +kernel
theorem dX6_solve_185 : decode cX6_solve 185 = .ok (.if_icmp .ge 8, 3) := by decide +kernel
theorem dX6_solve_188 : decode cX6_solve 188 = .ok (.bipush 100, 2) := by decide +kernel
theorem dX6_solve_190 : decode cX6_solve 190 = .ok (.goto 19, 3) := by decide +kernel
theorem dX6_solve_193 : decode cX6_solve 193 = .ok (.iload 9, 2) := by decide +kernel
theorem dX6_solve_195 : decode cX6_solve 195 = .ok (.sipush 3000, 3) := by decide +kernel
theorem dX6_solve_198 : decode cX6_solve 198 = .ok (.if_icmp .le 9, 3) := by decide +kernel
theorem dX6_solve_201 : decode cX6_solve 201 = .ok (.sipush 3000, 3) := by decide +kernel
theorem dX6_solve_204 : decode cX6_solve 204 = .ok (.goto 5, 3) := by decide +kernel
theorem dX6_solve_207 : decode cX6_solve 207 = .ok (.iload 9, 2) := by decide +kernel
theorem dX6_solve_209 : decode cX6_solve 209 = .ok (.iastore, 1) := by decide +kernel
theorem dX6_solve_210 : decode cX6_solve 210 = .ok (.iload 6, 2) := by decide +kernel
theorem dX6_solve_212 : decode cX6_solve 212 = .ok (.ireturn, 1) := by decide +kernel
theorem dX6_offered_0 : decode cX6_offered 0 = .ok (.aload_n 0, 1) := by decide +kernel
theorem dX6_offered_1 : decode cX6_offered 1 = .ok (.aload_n 0, 1) := by decide +kernel
theorem dX6_offered_2 : decode cX6_offered 2 = .ok (.iload_n 1, 1) := by decide +kernel
theorem dX6_offered_3 : decode cX6_offered 3 = .ok (.invokevirtual 102, 3) := by decide +kernel
theorem dX6_offered_6 : decode cX6_offered 6 = .ok (.iconst 1, 1) := by decide +kernel
theorem dX6_offered_7 : decode cX6_offered 7 = .ok (.iconst 1, 1) := by decide +kernel
theorem dX6_offered_8 : decode cX6_offered 8 = .ok (.invokevirtual 91, 3) := by decide +kernel
theorem dX6_offered_11 : decode cX6_offered 11 = .ok (.ifCond .ne 5, 3) := by decide +kernel
theorem dX6_offered_14 : decode cX6_offered 14 = .ok (.iconst 0, 1) := by decide +kernel
theorem dX6_offered_15 : decode cX6_offered 15 = .ok (.ireturn, 1) := by decide +kernel
theorem dX6_offered_16 : decode cX6_offered 16 = .ok (.iconst (-1), 1) := by decide +kernel
theorem dX6_offered_17 : decode cX6_offered 17 = .ok (.istore_n 2, 1) := by decide +kernel
theorem dX6_offered_18 : decode cX6_offered 18 = .ok (.iconst 0, 1) := by decide +kernel
theorem dX6_offered_19 : decode cX6_offered 19 = .ok (.istore_n 3, 1) := by decide +kernel
theorem dX6_offered_20 : decode cX6_offered 20 = .ok (.iload_n 3, 1) := by decide +kernel
theorem dX6_offered_21 : decode cX6_offered 21 = .ok (.aload_n 0, 1) := by decide +kernel
theorem dX6_offered_22 : decode cX6_offered 22 = .ok (.getfield 70, 3) := by decide +kernel
theorem dX6_offered_25 : decode cX6_offered 25 = .ok (.if_icmp .ge 121, 3) := by decide +kernel
theorem dX6_offered_28 : decode cX6_offered 28 = .ok (.aload_n 0, 1) := by decide +kernel
theorem dX6_offered_29 : decode cX6_offered 29 = .ok (.getfield 38, 3) := by decide +kernel
theorem dX6_offered_32 : decode cX6_offered 32 = .ok (.iload_n 3, 1) := by decide +kernel
theorem dX6_offered_33 : decode cX6_offered 33 = .ok (.iaload, 1) := by decide +kernel
theorem dX6_offered_34 : decode cX6_offered 34 = .ok (.iconst 5, 1) := by decide +kernel
theorem dX6_offered_35 : decode cX6_offered 35 = .ok (.irem, 1) := by decide +kernel
theorem dX6_offered_36 : decode cX6_offered 36 = .ok (.istore 4, 2) := by decide +kernel
theorem dX6_offered_38 : decode cX6_offered 38 = .ok (.iload_n 2, 1) := by decide +kernel
theorem dX6_offered_39 : decode cX6_offered 39 = .ok (.iconst (-1), 1) := by decide +kernel
theorem dX6_offered_40 : decode cX6_offered 40 = .ok (.if_icmp .ne 7, 3) := by decide +kernel
theorem dX6_offered_43 : decode cX6_offered 43 = .ok (.iconst 0, 1) := by decide +kernel
theorem dX6_offered_44 : decode cX6_offered 44 = .ok (.goto 11, 3) := by decide +kernel
theorem dX6_offered_47 : decode cX6_offered 47 = .ok (.aload_n 0, 1) := by decide +kernel
theorem dX6_offered_48 : decode cX6_offered 48 = .ok (.getfield 38, 3) := by decide +kernel
theorem dX6_offered_51 : decode cX6_offered 51 = .ok (.iload_n 2, 1) := by decide +kernel
theorem dX6_offered_52 : decode cX6_offered 52 = .ok (.iaload, 1) := by decide +kernel
theorem dX6_offered_53 : decode cX6_offered 53 = .ok (.iconst 5, 1) := by decide +kernel
theorem dX6_offered_54 : decode cX6_offered 54 = .ok (.irem, 1) := by decide +kernel
theorem dX6_offered_55 : decode cX6_offered 55 = .ok (.istore 5, 2) := by decide +kernel
theorem dX6_offered_57 : decode cX6_offered 57 = .ok (.iload_n 2, 1) := by decide +kernel
theorem dX6_offered_58 : decode cX6_offered 58 = .ok (.iconst (-1), 1) := by decide +kernel
theorem dX6_offered_59 : decode cX6_offered 59 = .ok (.if_icmp .ne 7, 3) := by decide +kernel
theorem dX6_offered_62 : decode cX6_offered 62 = .ok (.iconst 1, 1) := by decide +kernel
theorem dX6_offered_63 : decode cX6_offered 63 = .ok (.goto 26, 3) := by decide +kernel
theorem dX6_offered_66 : decode cX6_offered 66 = .ok (.aload_n 0, 1) := by decide +kernel
theorem dX6_offered_67 : decode cX6_offered 67 = .ok (.getfield 16, 3) := by decide +kernel
theorem dX6_offered_70 : decode cX6_offered 70 = .ok (.iconst 5, 1) := by decide +kernel
theorem dX6_offered_71 : decode cX6_offered 71 = .ok (.iload_n 1, 1) := by decide +kernel
theorem dX6_offered_72 : decode cX6_offered 72 = .ok (.imul, 1) := by decide +kernel
theorem dX6_offered_73 : decode cX6_offered 73 = .ok (.iload 5, 2) := by decide +kernel
theorem dX6_offered_75 : decode cX6_offered 75 = .ok (.iadd, 1) := by decide +kernel
theorem dX6_offered_76 : decode cX6_offered 76 = .ok (.iaload, 1) := by decide +kernel
theorem dX6_offered_77 : decode cX6_offered 77 = .ok (.aload_n 0, 1) := by decide +kernel
theorem dX6_offered_78 : decode cX6_offered 78 = .ok (.getfield 16, 3) := by decide +kernel
theorem dX6_offered_81 : decode cX6_offered 81 = .ok (.iconst 5, 1) := by decide +kernel
theorem dX6_offered_82 : decode cX6_offered 82 = .ok (.iload_n 1, 1) := by decide +kernel
theorem dX6_offered_83 : decode cX6_offered 83 = .ok (.imul, 1) := by decide +kernel
theorem dX6_offered_84 : decode cX6_offered 84 = .ok (.iload 4, 2) := by decide +kernel
theorem dX6_offered_86 : decode cX6_offered 86 = .ok (.iadd, 1) := by decide +kernel
theorem dX6_offered_87 : decode cX6_offered 87 = .ok (.iaload, 1) := by decide +kernel
theorem dX6_offered_88 : decode cX6_offered 88 = .ok (.isub, 1) := by decide +kernel
theorem dX6_offered_89 : decode cX6_offered 89 = .ok (.istore 6, 2) := by decide +kernel
theorem dX6_offered_91 : decode cX6_offered 91 = .ok (.aload_n 0, 1) := by decide +kernel
theorem dX6_offered_92 : decode cX6_offered 92 = .ok (.getfield 19, 3) := by decide +kernel
theorem dX6_offered_95 : decode cX6_offered 95 = .ok (.bipush 40, 2) := by decide +kernel
theorem dX6_offered_97 : decode cX6_offered 97 = .ok (.iload_n 1, 1) := by decide +kernel
theorem dX6_offered_98 : decode cX6_offered 98 = .ok (.imul, 1) := by decide +kernel
theorem dX6_offered_99 : decode cX6_offered 99 = .ok (.iload_n 3, 1) := by decide +kernel
theorem dX6_offered_100 : decode cX6_offered 100 = .ok (.iadd, 1) := by decide +kernel
theorem dX6_offered_101 : decode cX6_offered 101 = .ok (.baload, 1) := by decide +kernel
theorem dX6_offered_102 : decode cX6_offered 102 = .ok (.ifCond .ne 24, 3) := by decide +kernel
theorem dX6_offered_105 : decode cX6_offered 105 = .ok (.iload 6, 2) := by decide +kernel
theorem dX6_offered_107 : decode cX6_offered 107 = .ok (.ifCond .gt 15, 3) := by decide +kernel
theorem dX6_offered_110 : decode cX6_offered 110 = .ok (.iload 6, 2) := by decide +kernel
theorem dX6_offered_112 : decode cX6_offered 112 = .ok (.ifCond .ne 14, 3) := by decide +kernel
theorem dX6_offered_115 : decode cX6_offered 115 = .ok (.iload 4, 2) := by decide +kernel
theorem dX6_offered_117 : decode cX6_offered 117 = .ok (.iload 5, 2) := by decide +kernel
theorem dX6_offered_119 : decode cX6_offered 119 = .ok (.if_icmp .ge 7, 3) := by decide +kernel
theorem dX6_offered_122 : decode cX6_offered 122 = .ok (.iconst 1, 1) := by decide +kernel
theorem dX6_offered_123 : decode cX6_offered 123 = .ok (.goto 4, 3) := by decide +kernel
theorem dX6_offered_126 : decode cX6_offered 126 = .ok (.iconst 0, 1) := by decide +kernel
theorem dX6_offered_127 : decode cX6_offered 127 = .ok (.istore 7, 2) := by decide +kernel
theorem dX6_offered_129 : decode cX6_offered 129 = .ok (.iload 7, 2) := by decide +kernel
theorem dX6_offered_131 : decode cX6_offered 131 = .ok (.ifCond .eq 7, 3) := by decide +kernel
theorem dX6_offered_134 : decode cX6_offered 134 = .ok (.iload_n 3, 1) := by decide +kernel
theorem dX6_offered_135 : decode cX6_offered 135 = .ok (.goto 4, 3) := by decide +kernel
theorem dX6_offered_138 : decode cX6_offered 138 = .ok (.iload_n 2, 1) := by decide +kernel
theorem dX6_offered_139 : decode cX6_offered 139 = .ok (.istore_n 2, 1) := by decide +kernel
theorem dX6_offered_140 : decode cX6_offered 140 = .ok (.iinc 3 1, 3) := by decide +kernel
theorem dX6_offered_143 : decode cX6_offered 143 = .ok (.goto (-123), 3) := by decide +kernel
theorem dX6_offered_146 : decode cX6_offered 146 = .ok (.iload_n 2, 1) := by decide +kernel
theorem dX6_offered_147 : decode cX6_offered 147 = .ok (.ireturn, 1) := by decide +kernel
theorem dX6_rating_0 : decode cX6_rating 0 = .ok (.aload_n 0, 1) := by decide +kernel
theorem dX6_rating_1 : decode cX6_rating 1 = .ok (.aload_n 0, 1) := by decide +kernel
theorem dX6_rating_2 : decode cX6_rating 2 = .ok (.iload_n 1, 1) := by decide +kernel
theorem dX6_rating_3 : decode cX6_rating 3 = .ok (.invokevirtual 102, 3) := by decide +kernel
theorem dX6_rating_6 : decode cX6_rating 6 = .ok (.iload_n 2, 1) := by decide +kernel
theorem dX6_rating_7 : decode cX6_rating 7 = .ok (.iconst 0, 1) := by decide +kernel
theorem dX6_rating_8 : decode cX6_rating 8 = .ok (.iconst 4, 1) := by decide +kernel
theorem dX6_rating_9 : decode cX6_rating 9 = .ok (.invokestatic 63, 3) := by decide +kernel
theorem dX6_rating_12 : decode cX6_rating 12 = .ok (.iconst 1, 1) := by decide +kernel
theorem dX6_rating_13 : decode cX6_rating 13 = .ok (.invokevirtual 91, 3) := by decide +kernel
theorem dX6_rating_16 : decode cX6_rating 16 = .ok (.ifCond .eq 16, 3) := by decide +kernel
theorem dX6_rating_19 : decode cX6_rating 19 = .ok (.aload_n 0, 1) := by decide +kernel
theorem dX6_rating_20 : decode cX6_rating 20 = .ok (.getfield 16, 3) := by decide +kernel
theorem dX6_rating_23 : decode cX6_rating 23 = .ok (.iconst 5, 1) := by decide +kernel
theorem dX6_rating_24 : decode cX6_rating 24 = .ok (.iload_n 1, 1) := by decide +kernel
theorem dX6_rating_25 : decode cX6_rating 25 = .ok (.imul, 1) := by decide +kernel
theorem dX6_rating_26 : decode cX6_rating 26 = .ok (.iload_n 2, 1) := by decide +kernel
theorem dX6_rating_27 : decode cX6_rating 27 = .ok (.iadd, 1) := by decide +kernel
theorem dX6_rating_28 : decode cX6_rating 28 = .ok (.iaload, 1) := by decide +kernel
theorem dX6_rating_29 : decode cX6_rating 29 = .ok (.goto 4, 3) := by decide +kernel
theorem dX6_rating_32 : decode cX6_rating 32 = .ok (.iconst 0, 1) := by decide +kernel
theorem dX6_rating_33 : decode cX6_rating 33 = .ok (.ireturn, 1) := by decide +kernel
theorem dX6_asks_0 : decode cX6_asks 0 = .ok (.aload_n 0, 1) := by decide +kernel
theorem dX6_asks_1 : decode cX6_asks 1 = .ok (.iload_n 2, 1) := by decide +kernel
theorem dX6_asks_2 : decode cX6_asks 2 = .ok (.iconst 1, 1) := by decide +kernel
theorem dX6_asks_3 : decode cX6_asks 3 = .ok (.bipush 6, 2) := by decide +kernel
theorem dX6_asks_5 : decode cX6_asks 5 = .ok (.invokestatic 63, 3) := by decide +kernel
theorem dX6_asks_8 : decode cX6_asks 8 = .ok (.ifCond .eq 20, 3) := by decide +kernel
theorem dX6_asks_11 : decode cX6_asks 11 = .ok (.iload_n 1, 1) := by decide +kernel
theorem dX6_asks_12 : decode cX6_asks 12 = .ok (.ifCond .lt 16, 3) := by decide +kernel
theorem dX6_asks_15 : decode cX6_asks 15 = .ok (.iload_n 1, 1) := by decide +kernel
theorem dX6_asks_16 : decode cX6_asks 16 = .ok (.iconst 1, 1) := by decide +kernel
theorem dX6_asks_17 : decode cX6_asks 17 = .ok (.iconst 2, 1) := by decide +kernel
theorem dX6_asks_18 : decode cX6_asks 18 = .ok (.iload_n 2, 1) := by decide +kernel
theorem dX6_asks_19 : decode cX6_asks 19 = .ok (.imul, 1) := by decide +kernel
theorem dX6_asks_20 : decode cX6_asks 20 = .ok (.ishl, 1) := by decide +kernel
theorem dX6_asks_21 : decode cX6_asks 21 = .ok (.if_icmp .ge 7, 3) := by decide +kernel
theorem dX6_asks_24 : decode cX6_asks 24 = .ok (.iconst 1, 1) := by decide +kernel
theorem dX6_asks_25 : decode cX6_asks 25 = .ok (.goto 4, 3) := by decide +kernel
theorem dX6_asks_28 : decode cX6_asks 28 = .ok (.iconst 0, 1) := by decide +kernel
theorem dX6_asks_29 : decode cX6_asks 29 = .ok (.iconst 1, 1) := by decide +kernel
theorem dX6_asks_30 : decode cX6_asks 30 = .ok (.iconst 1, 1) := by decide +kernel
theorem dX6_asks_31 : decode cX6_asks 31 = .ok (.invokevirtual 91, 3) := by decide +kernel
theorem dX6_asks_34 : decode cX6_asks 34 = .ok (.ireturn, 1) := by decide +kernel
theorem dX6_results_0 : decode cX6_results 0 = .ok (.aload_n 0, 1) := by decide +kernel
theorem dX6_results_1 : decode cX6_results 1 = .ok (.iload_n 1, 1) := by decide +kernel
theorem dX6_results_2 : decode cX6_results 2 = .ok (.iload_n 2, 1) := by decide +kernel
theorem dX6_results_3 : decode cX6_results 3 = .ok (.invokevirtual 141, 3) := by decide +kernel
theorem dX6_results_6 : decode cX6_results 6 = .ok (.ifCond .eq 17, 3) := by decide +kernel
theorem dX6_results_9 : decode cX6_results 9 = .ok (.aload_n 0, 1) := by decide +kernel
theorem dX6_results_10 : decode cX6_results 10 = .ok (.getfield 44, 3) := by decide +kernel
theorem dX6_results_13 : decode cX6_results 13 = .ok (.iload_n 2, 1) := by decide +kernel
theorem dX6_results_14 : decode cX6_results 14 = .ok (.invokestatic 115, 3) := by decide +kernel
theorem dX6_results_17 : decode cX6_results 17 = .ok (.iload_n 1, 1) := by decide +kernel
theorem dX6_results_18 : decode cX6_results 18 = .ok (.iadd, 1) := by decide +kernel
theorem dX6_results_19 : decode cX6_results 19 = .ok (.iaload, 1) := by decide +kernel
theorem dX6_results_20 : decode cX6_results 20 = .ok (.goto 4, 3) := by decide +kernel
theorem dX6_results_23 : decode cX6_results 23 = .ok (.iconst 0, 1) := by decide +kernel
theorem dX6_results_24 : decode cX6_results 24 = .ok (.ireturn, 1) := by decide +kernel
theorem dX6_points_0 : decode cX6_points 0 = .ok (.aload_n 0, 1) := by decide +kernel
theorem dX6_points_1 : decode cX6_points 1 = .ok (.iload_n 1, 1) := by decide +kernel
theorem dX6_points_2 : decode cX6_points 2 = .ok (.iload_n 2, 1) := by decide +kernel
theorem dX6_points_3 : decode cX6_points 3 = .ok (.invokevirtual 141, 3) := by decide +kernel
theorem dX6_points_6 : decode cX6_points 6 = .ok (.ifCond .eq 17, 3) := by decide +kernel
theorem dX6_points_9 : decode cX6_points 9 = .ok (.aload_n 0, 1) := by decide +kernel
theorem dX6_points_10 : decode cX6_points 10 = .ok (.getfield 47, 3) := by decide +kernel
theorem dX6_points_13 : decode cX6_points 13 = .ok (.iload_n 2, 1) := by decide +kernel
theorem dX6_points_14 : decode cX6_points 14 = .ok (.invokestatic 115, 3) := by decide +kernel
theorem dX6_points_17 : decode cX6_points 17 = .ok (.iload_n 1, 1) := by decide +kernel
theorem dX6_points_18 : decode cX6_points 18 = .ok (.iadd, 1) := by decide +kernel
theorem dX6_points_19 : decode cX6_points 19 = .ok (.iaload, 1) := by decide +kernel
theorem dX6_points_20 : decode cX6_points 20 = .ok (.goto 4, 3) := by decide +kernel
theorem dX6_points_23 : decode cX6_points 23 = .ok (.iconst 0, 1) := by decide +kernel
theorem dX6_points_24 : decode cX6_points 24 = .ok (.ireturn, 1) := by decide +kernel
theorem dX6_isDropped_0 : decode cX6_isDropped 0 = .ok (.aload_n 0, 1) := by decide +kernel
theorem dX6_isDropped_1 : decode cX6_isDropped 1 = .ok (.iload_n 1, 1) := by decide +kernel
theorem dX6_isDropped_2 : decode cX6_isDropped 2 = .ok (.iload_n 2, 1) := by decide +kernel
theorem dX6_isDropped_3 : decode cX6_isDropped 3 = .ok (.invokevirtual 141, 3) := by decide +kernel
theorem dX6_isDropped_6 : decode cX6_isDropped 6 = .ok (.ifCond .eq 16, 3) := by decide +kernel
theorem dX6_isDropped_9 : decode cX6_isDropped 9 = .ok (.aload_n 0, 1) := by decide +kernel
theorem dX6_isDropped_10 : decode cX6_isDropped 10 = .ok (.iload_n 1, 1) := by decide +kernel
theorem dX6_isDropped_11 : decode cX6_isDropped 11 = .ok (.iload_n 2, 1) := by decide +kernel
theorem dX6_isDropped_12 : decode cX6_isDropped 12 = .ok (.invokevirtual 121, 3) := by decide +kernel
theorem dX6_isDropped_15 : decode cX6_isDropped 15 = .ok (.ifCond .eq 7, 3) := by decide +kernel
theorem dX6_isDropped_18 : decode cX6_isDropped 18 = .ok (.iconst 1, 1) := by decide +kernel
theorem dX6_isDropped_19 : decode cX6_isDropped 19 = .ok (.goto 4, 3) := by decide +kernel
theorem dX6_isDropped_22 : decode cX6_isDropped 22 = .ok (.iconst 0, 1) := by decide +kernel
theorem dX6_isDropped_23 : decode cX6_isDropped 23 = .ok (.ireturn, 1) := by decide +kernel
theorem dX6_pointsOfGames_0 : decode cX6_pointsOfGames 0 = .ok (.iconst 0, 1) := by decide +kernel
theorem dX6_pointsOfGames_1 : decode cX6_pointsOfGames 1 = .ok (.istore_n 3, 1) := by decide +kernel
theorem dX6_pointsOfGames_2 : decode cX6_pointsOfGames 2 = .ok (.aload_n 0, 1) := by decide +kernel
theorem dX6_pointsOfGames_3 : decode cX6_pointsOfGames 3 = .ok (.iload_n 1, 1) := by decide +kernel
theorem dX6_pointsOfGames_4 : decode cX6_pointsOfGames 4 = .ok (.iload_n 2, 1) := by decide +kernel
theorem dX6_pointsOfGames_5 : decode cX6_pointsOfGames 5 = .ok (.invokevirtual 141, 3) := by decide +kernel
theorem dX6_pointsOfGames_8 : decode cX6_pointsOfGames 8 = .ok (.istore 4, 2) := by decide +kernel
theorem dX6_pointsOfGames_10 : decode cX6_pointsOfGames 10 = .ok (.iconst 0, 1) := by decide +kernel
theorem dX6_pointsOfGames_11 : decode cX6_pointsOfGames 11 = .ok (.istore 5, 2) := by decide +kernel
theorem dX6_pointsOfGames_13 : decode cX6_pointsOfGames 13 = .ok (.iload 5, 2) := by decide +kernel
theorem dX6_pointsOfGames_15 : decode cX6_pointsOfGames 15 = .ok (.aload_n 0, 1) := by decide +kernel
theorem dX6_pointsOfGames_16 : decode cX6_pointsOfGames 16 = .ok (.invokevirtual 134, 3) := by decide +kernel
theorem dX6_pointsOfGames_19 : decode cX6_pointsOfGames 19 = .ok (.if_icmp .ge 50, 3) := by decide +kernel
theorem dX6_pointsOfGames_22 : decode cX6_pointsOfGames 22 = .ok (.iload 4, 2) := by decide +kernel
theorem dX6_pointsOfGames_24 : decode cX6_pointsOfGames 24 = .ok (.ifCond .eq 45, 3) := by decide +kernel
theorem dX6_pointsOfGames_27 : decode cX6_pointsOfGames 27 = .ok (.iload_n 3, 1) := by decide +kernel
theorem dX6_pointsOfGames_28 : decode cX6_pointsOfGames 28 = .ok (.aload_n 0, 1) := by decide +kernel
theorem dX6_pointsOfGames_29 : decode cX6_pointsOfGames 29 = .ok (.getfield 29, 3) := by decide +kernel
theorem dX6_pointsOfGames_32 : decode cX6_pointsOfGames 32 = .ok (.iload 5, 2) := by decide +kernel
theorem dX6_pointsOfGames_34 : decode cX6_pointsOfGames 34 = .ok (.iaload, 1) := by decide +kernel
theorem dX6_pointsOfGames_35 : decode cX6_pointsOfGames 35 = .ok (.iload_n 2, 1) := by decide +kernel
theorem dX6_pointsOfGames_36 : decode cX6_pointsOfGames 36 = .ok (.if_icmp .lt 24, 3) := by decide +kernel
theorem dX6_pointsOfGames_39 : decode cX6_pointsOfGames 39 = .ok (.aload_n 0, 1) := by decide +kernel
theorem dX6_pointsOfGames_40 : decode cX6_pointsOfGames 40 = .ok (.iload 5, 2) := by decide +kernel
theorem dX6_pointsOfGames_42 : decode cX6_pointsOfGames 42 = .ok (.iload_n 2, 1) := by decide +kernel
theorem dX6_pointsOfGames_43 : decode cX6_pointsOfGames 43 = .ok (.invokevirtual 118, 3) := by decide +kernel
theorem dX6_pointsOfGames_46 : decode cX6_pointsOfGames 46 = .ok (.iload_n 1, 1) := by decide +kernel
theorem dX6_pointsOfGames_47 : decode cX6_pointsOfGames 47 = .ok (.if_icmp .ne 13, 3) := by decide +kernel
theorem dX6_pointsOfGames_50 : decode cX6_pointsOfGames 50 = .ok (.aload_n 0, 1) := by decide +kernel
theorem dX6_pointsOfGames_51 : decode cX6_pointsOfGames 51 = .ok (.getfield 32, 3) := by decide +kernel
theorem dX6_pointsOfGames_54 : decode cX6_pointsOfGames 54 = .ok (.iload 5, 2) := by decide +kernel
theorem dX6_pointsOfGames_56 : decode cX6_pointsOfGames 56 = .ok (.iaload, 1) := by decide +kernel
theorem dX6_pointsOfGames_57 : decode cX6_pointsOfGames 57 = .ok (.goto 4, 3) := by decide +kernel
theorem dX6_pointsOfGames_60 : decode cX6_pointsOfGames 60 = .ok (.iconst 0, 1) := by decide +kernel
theorem dX6_pointsOfGames_61 : decode cX6_pointsOfGames 61 = .ok (.iadd, 1) := by decide +kernel
theorem dX6_pointsOfGames_62 : decode cX6_pointsOfGames 62 = .ok (.istore_n 3, 1) := by decide +kernel
theorem dX6_pointsOfGames_63 : decode cX6_pointsOfGames 63 = .ok (.iinc 5 1, 3) := by decide +kernel
theorem dX6_pointsOfGames_66 : decode cX6_pointsOfGames 66 = .ok (.goto (-53), 3) := by decide +kernel
theorem dX6_pointsOfGames_69 : decode cX6_pointsOfGames 69 = .ok (.iload_n 3, 1) := by decide +kernel
theorem dX6_pointsOfGames_70 : decode cX6_pointsOfGames 70 = .ok (.ireturn, 1) := by decide +kernel
theorem dX6_mean_0 : decode cX6_mean 0 = .ok (.aload_n 0, 1) := by decide +kernel
theorem dX6_mean_1 : decode cX6_mean 1 = .ok (.iload_n 1, 1) := by decide +kernel
theorem dX6_mean_2 : decode cX6_mean 2 = .ok (.iload_n 2, 1) := by decide +kernel
theorem dX6_mean_3 : decode cX6_mean 3 = .ok (.invokevirtual 141, 3) := by decide +kernel
theorem dX6_mean_6 : decode cX6_mean 6 = .ok (.ifCond .ne 5, 3) := by decide +kernel
theorem dX6_mean_9 : decode cX6_mean 9 = .ok (.fconst 0, 1) := by decide +kernel
theorem dX6_mean_10 : decode cX6_mean 10 = .ok (.freturn, 1) := by decide +kernel
theorem dX6_mean_11 : decode cX6_mean 11 = .ok (.iload_n 2, 1) := by decide +kernel
theorem dX6_mean_12 : decode cX6_mean 12 = .ok (.invokestatic 115, 3) := by decide +kernel
theorem dX6_mean_15 : decode cX6_mean 15 = .ok (.iload_n 1, 1) := by decide +kernel
theorem dX6_mean_16 : decode cX6_mean 16 = .ok (.iadd, 1) := by decide +kernel
theorem dX6_mean_17 : decode cX6_mean 17 = .ok (.istore_n 3, 1) := by decide +kernel
theorem dX6_mean_18 : decode cX6_mean 18 = .ok (.aload_n 0, 1) := by decide +kernel
theorem dX6_mean_19 : decode cX6_mean 19 = .ok (.getfield 44, 3) := by decide +kernel
theorem dX6_mean_22 : decode cX6_mean 22 = .ok (.iload_n 3, 1) := by decide +kernel
theorem dX6_mean_23 : decode cX6_mean 23 = .ok (.iaload, 1) := by decide +kernel
theorem dX6_mean_24 : decode cX6_mean 24 = .ok (.ifCond .ne 7, 3) := by decide +kernel
theorem dX6_mean_27 : decode cX6_mean 27 = .ok (.fconst 0, 1) := by decide +kernel
theorem dX6_mean_28 : decode cX6_mean 28 = .ok (.goto 18, 3) := by decide +kernel
theorem dX6_mean_31 : decode cX6_mean 31 = .ok (.aload_n 0, 1) := by decide +kernel
theorem dX6_mean_32 : decode cX6_mean 32 = .ok (.getfield 47, 3) := by decide +kernel
theorem dX6_mean_35 : decode cX6_mean 35 = .ok (.iload_n 3, 1) := by decide +kernel
theorem dX6_mean_36 : decode cX6_mean 36 = .ok (.iaload, 1) := by decide +kernel
theorem dX6_mean_37 : decode cX6_mean 37 = .ok (.i2f, 1) := by decide +kernel
theorem dX6_mean_38 : decode cX6_mean 38 = .ok (.aload_n 0, 1) := by decide +kernel
theorem dX6_mean_39 : decode cX6_mean 39 = .ok (.getfield 44, 3) := by decide +kernel
theorem dX6_mean_42 : decode cX6_mean 42 = .ok (.iload_n 3, 1) := by decide +kernel
theorem dX6_mean_43 : decode cX6_mean 43 = .ok (.iaload, 1) := by decide +kernel
theorem dX6_mean_44 : decode cX6_mean 44 = .ok (.i2f, 1) := by decide +kernel
theorem dX6_mean_45 : decode cX6_mean 45 = .ok (.fdiv, 1) := by decide +kernel
theorem dX6_mean_46 : decode cX6_mean 46 = .ok (.freturn, 1) := by decide +kernel
theorem dX6_havePlayed_0 : decode cX6_havePlayed 0 = .ok (.iconst 0, 1) := by decide +kernel
theorem dX6_havePlayed_1 : decode cX6_havePlayed 1 = .ok (.istore_n 3, 1) := by decide +kernel
theorem dX6_havePlayed_2 : decode cX6_havePlayed 2 = .ok (.iconst 0, 1) := by decide +kernel
theorem dX6_havePlayed_3 : decode cX6_havePlayed 3 = .ok (.istore 4, 2) := by decide +kernel
theorem dX6_havePlayed_5 : decode cX6_havePlayed 5 = .ok (.iload 4, 2) := by decide +kernel
theorem dX6_havePlayed_7 : decode cX6_havePlayed 7 = .ok (.aload_n 0, 1) := by decide +kernel
theorem dX6_havePlayed_8 : decode cX6_havePlayed 8 = .ok (.invokevirtual 134, 3) := by decide +kernel
theorem dX6_havePlayed_11 : decode cX6_havePlayed 11 = .ok (.if_icmp .ge 63, 3) := by decide +kernel
theorem dX6_havePlayed_14 : decode cX6_havePlayed 14 = .ok (.iload_n 3, 1) := by decide +kernel
theorem dX6_havePlayed_15 : decode cX6_havePlayed 15 = .ok (.ifCond .ne 47, 3) := by decide +kernel
theorem dX6_havePlayed_18 : decode cX6_havePlayed 18 = .ok (.aload_n 0, 1) := by decide +kernel
theorem dX6_havePlayed_19 : decode cX6_havePlayed 19 = .ok (.getfield 23, 3) := by decide +kernel
theorem dX6_havePlayed_22 : decode cX6_havePlayed 22 = .ok (.iload 4, 2) := by decide +kernel
theorem dX6_havePlayed_24 : decode cX6_havePlayed 24 = .ok (.iaload, 1) := by decide +kernel
theorem dX6_havePlayed_25 : decode cX6_havePlayed 25 = .ok (.iload_n 1, 1) := by decide +kernel
theorem dX6_havePlayed_26 : decode cX6_havePlayed 26 = .ok (.if_icmp .ne 14, 3) := by decide +kernel
theorem dX6_havePlayed_29 : decode cX6_havePlayed 29 = .ok (.aload_n 0, 1) := by decide +kernel
theorem dX6_havePlayed_30 : decode cX6_havePlayed 30 = .ok (.getfield 26, 3) := by decide +kernel
theorem dX6_havePlayed_33 : decode cX6_havePlayed 33 = .ok (.iload 4, 2) := by decide +kernel
theorem dX6_havePlayed_35 : decode cX6_havePlayed 35 = .ok (.iaload, 1) := by decide +kernel
theorem dX6_havePlayed_36 : decode cX6_havePlayed 36 = .ok (.iload_n 2, 1) := by decide +kernel
theorem dX6_havePlayed_37 : decode cX6_havePlayed 37 = .ok (.if_icmp .eq 25, 3) := by decide +kernel
theorem dX6_havePlayed_40 : decode cX6_havePlayed 40 = .ok (.aload_n 0, 1) := by decide +kernel
theorem dX6_havePlayed_41 : decode cX6_havePlayed 41 = .ok (.getfield 23, 3) := by decide +kernel
theorem dX6_havePlayed_44 : decode cX6_havePlayed 44 = .ok (.iload 4, 2) := by decide +kernel
theorem dX6_havePlayed_46 : decode cX6_havePlayed 46 = .ok (.iaload, 1) := by decide +kernel
theorem dX6_havePlayed_47 : decode cX6_havePlayed 47 = .ok (.iload_n 2, 1) := by decide +kernel
theorem dX6_havePlayed_48 : decode cX6_havePlayed 48 = .ok (.if_icmp .ne 18, 3) := by decide +kernel
theorem dX6_havePlayed_51 : decode cX6_havePlayed 51 = .ok (.aload_n 0, 1) := by decide +kernel
theorem dX6_havePlayed_52 : decode cX6_havePlayed 52 = .ok (.getfield 26, 3) := by decide +kernel
theorem dX6_havePlayed_55 : decode cX6_havePlayed 55 = .ok (.iload 4, 2) := by decide +kernel
theorem dX6_havePlayed_57 : decode cX6_havePlayed 57 = .ok (.iaload, 1) := by decide +kernel
theorem dX6_havePlayed_58 : decode cX6_havePlayed 58 = .ok (.iload_n 1, 1) := by decide +kernel
theorem dX6_havePlayed_59 : decode cX6_havePlayed 59 = .ok (.if_icmp .ne 7, 3) := by decide +kernel
theorem dX6_havePlayed_62 : decode cX6_havePlayed 62 = .ok (.iconst 1, 1) := by decide +kernel
theorem dX6_havePlayed_63 : decode cX6_havePlayed 63 = .ok (.goto 4, 3) := by decide +kernel
theorem dX6_havePlayed_66 : decode cX6_havePlayed 66 = .ok (.iconst 0, 1) := by decide +kernel
theorem dX6_havePlayed_67 : decode cX6_havePlayed 67 = .ok (.istore_n 3, 1) := by decide +kernel
theorem dX6_havePlayed_68 : decode cX6_havePlayed 68 = .ok (.iinc 4 1, 3) := by decide +kernel
theorem dX6_havePlayed_71 : decode cX6_havePlayed 71 = .ok (.goto (-66), 3) := by decide +kernel
theorem dX6_havePlayed_74 : decode cX6_havePlayed 74 = .ok (.iload_n 3, 1) := by decide +kernel
theorem dX6_havePlayed_75 : decode cX6_havePlayed 75 = .ok (.ireturn, 1) := by decide +kernel
theorem dX6_sorts_0 : decode cX6_sorts 0 = .ok (.iconst 0, 1) := by decide +kernel
theorem dX6_sorts_1 : decode cX6_sorts 1 = .ok (.istore_n 1, 1) := by decide +kernel
theorem dX6_sorts_2 : decode cX6_sorts 2 = .ok (.iload_n 1, 1) := by decide +kernel
theorem dX6_sorts_3 : decode cX6_sorts 3 = .ok (.aload_n 0, 1) := by decide +kernel
theorem dX6_sorts_4 : decode cX6_sorts 4 = .ok (.getfield 67, 3) := by decide +kernel
theorem dX6_sorts_7 : decode cX6_sorts 7 = .ok (.if_icmp .ge 84, 3) := by decide +kernel
theorem dX6_sorts_10 : decode cX6_sorts 10 = .ok (.iconst 0, 1) := by decide +kernel
theorem dX6_sorts_11 : decode cX6_sorts 11 = .ok (.istore_n 2, 1) := by decide +kernel
theorem dX6_sorts_12 : decode cX6_sorts 12 = .ok (.iconst 0, 1) := by decide +kernel
theorem dX6_sorts_13 : decode cX6_sorts 13 = .ok (.istore_n 3, 1) := by decide +kernel
theorem dX6_sorts_14 : decode cX6_sorts 14 = .ok (.iload_n 3, 1) := by decide +kernel
theorem dX6_sorts_15 : decode cX6_sorts 15 = .ok (.aload_n 0, 1) := by decide +kernel
theorem dX6_sorts_16 : decode cX6_sorts 16 = .ok (.getfield 67, 3) := by decide +kernel
theorem dX6_sorts_19 : decode cX6_sorts 19 = .ok (.if_icmp .ge 52, 3) := by decide +kernel
theorem dX6_sorts_22 : decode cX6_sorts 22 = .ok (.iload_n 2, 1) := by decide +kernel
theorem dX6_sorts_23 : decode cX6_sorts 23 = .ok (.aload_n 0, 1) := by decide +kernel
theorem dX6_sorts_24 : decode cX6_sorts 24 = .ok (.getfield 7, 3) := by decide +kernel
theorem dX6_sorts_27 : decode cX6_sorts 27 = .ok (.iload_n 3, 1) := by decide +kernel
theorem dX6_sorts_28 : decode cX6_sorts 28 = .ok (.iaload, 1) := by decide +kernel
theorem dX6_sorts_29 : decode cX6_sorts 29 = .ok (.aload_n 0, 1) := by decide +kernel
theorem dX6_sorts_30 : decode cX6_sorts 30 = .ok (.getfield 7, 3) := by decide +kernel
theorem dX6_sorts_33 : decode cX6_sorts 33 = .ok (.iload_n 1, 1) := by decide +kernel
theorem dX6_sorts_34 : decode cX6_sorts 34 = .ok (.iaload, 1) := by decide +kernel
theorem dX6_sorts_35 : decode cX6_sorts 35 = .ok (.if_icmp .gt 23, 3) := by decide +kernel
theorem dX6_sorts_38 : decode cX6_sorts 38 = .ok (.aload_n 0, 1) := by decide +kernel
theorem dX6_sorts_39 : decode cX6_sorts 39 = .ok (.getfield 7, 3) := by decide +kernel
theorem dX6_sorts_42 : decode cX6_sorts 42 = .ok (.iload_n 3, 1) := by decide +kernel
theorem dX6_sorts_43 : decode cX6_sorts 43 = .ok (.iaload, 1) := by decide +kernel
theorem dX6_sorts_44 : decode cX6_sorts 44 = .ok (.aload_n 0, 1) := by decide +kernel
theorem dX6_sorts_45 : decode cX6_sorts 45 = .ok (.getfield 7, 3) := by decide +kernel
theorem dX6_sorts_48 : decode cX6_sorts 48 = .ok (.iload_n 1, 1) := by decide +kernel
theorem dX6_sorts_49 : decode cX6_sorts 49 = .ok (.iaload, 1) := by decide +kernel
theorem dX6_sorts_50 : decode cX6_sorts 50 = .ok (.if_icmp .ne 12, 3) := by decide +kernel
theorem dX6_sorts_53 : decode cX6_sorts 53 = .ok (.iload_n 3, 1) := by decide +kernel
theorem dX6_sorts_54 : decode cX6_sorts 54 = .ok (.iload_n 1, 1) := by decide +kernel
theorem dX6_sorts_55 : decode cX6_sorts 55 = .ok (.if_icmp .ge 7, 3) := by decide +kernel
theorem dX6_sorts_58 : decode cX6_sorts 58 = .ok (.iconst 1, 1) := by decide +kernel
theorem dX6_sorts_59 : decode cX6_sorts 59 = .ok (.goto 4, 3) := by decide +kernel
theorem dX6_sorts_62 : decode cX6_sorts 62 = .ok (.iconst 0, 1) := by decide +kernel
theorem dX6_sorts_63 : decode cX6_sorts 63 = .ok (.iadd, 1) := by decide +kernel
theorem dX6_sorts_64 : decode cX6_sorts 64 = .ok (.istore_n 2, 1) := by decide +kernel
theorem dX6_sorts_65 : decode cX6_sorts 65 = .ok (.iinc 3 1, 3) := by decide +kernel
theorem dX6_sorts_68 : decode cX6_sorts 68 = .ok (.goto (-54), 3) := by decide +kernel
theorem dX6_sorts_71 : decode cX6_sorts 71 = .ok (.aload_n 0, 1) := by decide +kernel
theorem dX6_sorts_72 : decode cX6_sorts 72 = .ok (.getfield 53, 3) := by decide +kernel
theorem dX6_sorts_75 : decode cX6_sorts 75 = .ok (.iload_n 2, 1) := by decide +kernel
theorem dX6_sorts_76 : decode cX6_sorts 76 = .ok (.iload_n 1, 1) := by decide +kernel
theorem dX6_sorts_77 : decode cX6_sorts 77 = .ok (.iastore, 1) := by decide +kernel
theorem dX6_sorts_78 : decode cX6_sorts 78 = .ok (.aload_n 0, 1) := by decide +kernel
theorem dX6_sorts_79 : decode cX6_sorts 79 = .ok (.getfield 56, 3) := by decide +kernel
theorem dX6_sorts_82 : decode cX6_sorts 82 = .ok (.iload_n 1, 1) := by decide +kernel
theorem dX6_sorts_83 : decode cX6_sorts 83 = .ok (.iconst (-1), 1) := by decide +kernel
theorem dX6_sorts_84 : decode cX6_sorts 84 = .ok (.iastore, 1) := by decide +kernel
theorem dX6_sorts_85 : decode cX6_sorts 85 = .ok (.iinc 1 1, 3) := by decide +kernel
theorem dX6_sorts_88 : decode cX6_sorts 88 = .ok (.goto (-86), 3) := by decide +kernel
theorem dX6_sorts_91 : decode cX6_sorts 91 = .ok (.return_, 1) := by decide +kernel
theorem dX6_pairs_0 : decode cX6_pairs 0 = .ok (.aload_n 0, 1) := by decide +kernel
theorem dX6_pairs_1 : decode cX6_pairs 1 = .ok (.invokevirtual 144, 3) := by decide +kernel
theorem dX6_pairs_4 : decode cX6_pairs 4 = .ok (.iconst 0, 1) := by decide +kernel
theorem dX6_pairs_5 : decode cX6_pairs 5 = .ok (.istore_n 1, 1) := by decide +kernel
theorem dX6_pairs_6 : decode cX6_pairs 6 = .ok (.iload_n 1, 1) := by decide +kernel
theorem dX6_pairs_7 : decode cX6_pairs 7 = .ok (.aload_n 0, 1) := by decide +kernel
theorem dX6_pairs_8 : decode cX6_pairs 8 = .ok (.getfield 67, 3) := by decide +kernel
theorem dX6_pairs_11 : decode cX6_pairs 11 = .ok (.if_icmp .ge 161, 3) := by decide +kernel
theorem dX6_pairs_14 : decode cX6_pairs 14 = .ok (.aload_n 0, 1) := by decide +kernel
theorem dX6_pairs_15 : decode cX6_pairs 15 = .ok (.getfield 53, 3) := by decide +kernel
theorem dX6_pairs_18 : decode cX6_pairs 18 = .ok (.iload_n 1, 1) := by decide +kernel
theorem dX6_pairs_19 : decode cX6_pairs 19 = .ok (.iaload, 1) := by decide +kernel
theorem dX6_pairs_20 : decode cX6_pairs 20 = .ok (.istore_n 2, 1) := by decide +kernel
theorem dX6_pairs_21 : decode cX6_pairs 21 = .ok (.iconst (-1), 1) := by decide +kernel
theorem dX6_pairs_22 : decode cX6_pairs 22 = .ok (.istore_n 3, 1) := by decide +kernel
theorem dX6_pairs_23 : decode cX6_pairs 23 = .ok (.iconst (-1), 1) := by decide +kernel
theorem dX6_pairs_24 : decode cX6_pairs 24 = .ok (.istore 4, 2) := by decide +kernel
theorem dX6_pairs_26 : decode cX6_pairs 26 = .ok (.aload_n 0, 1) := by decide +kernel
theorem dX6_pairs_27 : decode cX6_pairs 27 = .ok (.getfield 67, 3) := by decide +kernel
theorem dX6_pairs_30 : decode cX6_pairs 30 = .ok (.iconst 1, 1) := by decide +kernel
theorem dX6_pairs_31 : decode cX6_pairs 31 = .ok (.isub, 1) := by decide +kernel
theorem dX6_pairs_32 : decode cX6_pairs 32 = .ok (.istore 5, 2) := by decide +kernel
theorem dX6_pairs_34 : decode cX6_pairs 34 = .ok (.iload 5, 2) := by decide +kernel
theorem dX6_pairs_36 : decode cX6_pairs 36 = .ok (.iload_n 1, 1) := by decide +kernel
theorem dX6_pairs_37 : decode cX6_pairs 37 = .ok (.if_icmp .le 83, 3) := by decide +kernel
theorem dX6_pairs_40 : decode cX6_pairs 40 = .ok (.aload_n 0, 1) := by decide +kernel
theorem dX6_pairs_41 : decode cX6_pairs 41 = .ok (.getfield 56, 3) := by decide +kernel
theorem dX6_pairs_44 : decode cX6_pairs 44 = .ok (.aload_n 0, 1) := by decide +kernel
theorem dX6_pairs_45 : decode cX6_pairs 45 = .ok (.getfield 53, 3) := by decide +kernel
theorem dX6_pairs_48 : decode cX6_pairs 48 = .ok (.iload 5, 2) := by decide +kernel
theorem dX6_pairs_50 : decode cX6_pairs 50 = .ok (.iaload, 1) := by decide +kernel
theorem dX6_pairs_51 : decode cX6_pairs 51 = .ok (.iaload, 1) := by decide +kernel
theorem dX6_pairs_52 : decode cX6_pairs 52 = .ok (.iconst (-1), 1) := by decide +kernel
theorem dX6_pairs_53 : decode cX6_pairs 53 = .ok (.if_icmp .ne 7, 3) := by decide +kernel
theorem dX6_pairs_56 : decode cX6_pairs 56 = .ok (.iconst 1, 1) := by decide +kernel
theorem dX6_pairs_57 : decode cX6_pairs 57 = .ok (.goto 4, 3) := by decide +kernel
theorem dX6_pairs_60 : decode cX6_pairs 60 = .ok (.iconst 0, 1) := by decide +kernel
theorem dX6_pairs_61 : decode cX6_pairs 61 = .ok (.istore 6, 2) := by decide +kernel
theorem dX6_pairs_63 : decode cX6_pairs 63 = .ok (.iload 6, 2) := by decide +kernel
theorem dX6_pairs_65 : decode cX6_pairs 65 = .ok (.ifCond .eq 13, 3) := by decide +kernel
theorem dX6_pairs_68 : decode cX6_pairs 68 = .ok (.aload_n 0, 1) := by decide +kernel
theorem dX6_pairs_69 : decode cX6_pairs 69 = .ok (.getfield 53, 3) := by decide +kernel
theorem dX6_pairs_72 : decode cX6_pairs 72 = .ok (.iload 5, 2) := by decide +kernel
theorem dX6_pairs_74 : decode cX6_pairs 74 = .ok (.iaload, 1) := by decide +kernel
