theorem dX5_move_36 : decode cX5_move 36 = .ok (.invokespecial 60, 3) := by decide +kernel
theorem dX5_move_39 : decode cX5_move 39 = .ok (.athrow, 1) := by decide +kernel
theorem dX5_move_40 : decode cX5_move 40 = .ok (.aload_n 2, 1) := by decide +kernel
theorem dX5_move_41 : decode cX5_move 41 = .ok (.getfield 96, 3) := by decide +kernel
theorem dX5_move_44 : decode cX5_move 44 = .ok (.iload_n 1, 1) := by decide +kernel
theorem dX5_move_45 : decode cX5_move 45 = .ok (.invokestatic 99, 3) := by decide +kernel
theorem dX5_move_48 : decode cX5_move 48 = .ok (.istore_n 3, 1) := by decide +kernel
theorem dX5_move_49 : decode cX5_move 49 = .ok (.aload_n 2, 1) := by decide +kernel
theorem dX5_move_50 : decode cX5_move 50 = .ok (.iload_n 1, 1) := by decide +kernel
theorem dX5_move_51 : decode cX5_move 51 = .ok (.invokevirtual 103, 3) := by decide +kernel
theorem dX5_move_54 : decode cX5_move 54 = .ok (.iload_n 3, 1) := by decide +kernel
theorem dX5_move_55 : decode cX5_move 55 = .ok (.ireturn, 1) := by decide +kernel
theorem dX5_end_0 : decode cX5_end 0 = .ok (.iload_n 1, 1) := by decide +kernel
theorem dX5_end_1 : decode cX5_end 1 = .ok (.ifCond .lt 8, 3) := by decide +kernel
theorem dX5_end_4 : decode cX5_end 4 = .ok (.iload_n 1, 1) := by decide +kernel
theorem dX5_end_5 : decode cX5_end 5 = .ok (.iconst 2, 1) := by decide +kernel
theorem dX5_end_6 : decode cX5_end 6 = .ok (.if_icmp .le 13, 3) := by decide +kernel
theorem dX5_end_9 : decode cX5_end 9 = .ok (.new 69, 3) := by decide +kernel
theorem dX5_end_12 : decode cX5_end 12 = .ok (.dup, 1) := by decide +kernel
theorem dX5_end_13 : decode cX5_end 13 = .ok (.ldc 106, 2) := by decide +kernel
theorem dX5_end_15 : decode cX5_end 15 = .ok (.invokespecial 73, 3) := by decide +kernel
theorem dX5_end_18 : decode cX5_end 18 = .ok (.athrow, 1) := by decide +kernel
theorem dX5_end_19 : decode cX5_end 19 = .ok (.aload_n 0, 1) := by decide +kernel
theorem dX5_end_20 : decode cX5_end 20 = .ok (.getfield 74, 3) := by decide +kernel
theorem dX5_end_23 : decode cX5_end 23 = .ok (.astore_n 2, 1) := by decide +kernel
theorem dX5_end_24 : decode cX5_end 24 = .ok (.aload_n 2, 1) := by decide +kernel
theorem dX5_end_25 : decode cX5_end 25 = .ok (.ifnonnull 13, 3) := by decide +kernel
theorem dX5_end_28 : decode cX5_end 28 = .ok (.new 56, 3) := by decide +kernel
theorem dX5_end_31 : decode cX5_end 31 = .ok (.dup, 1) := by decide +kernel
theorem dX5_end_32 : decode cX5_end 32 = .ok (.ldc 88, 2) := by decide +kernel
theorem dX5_end_34 : decode cX5_end 34 = .ok (.invokespecial 60, 3) := by decide +kernel
theorem dX5_end_37 : decode cX5_end 37 = .ok (.athrow, 1) := by decide +kernel
theorem dX5_end_38 : decode cX5_end 38 = .ok (.aload_n 2, 1) := by decide +kernel
theorem dX5_end_39 : decode cX5_end 39 = .ok (.iload_n 1, 1) := by decide +kernel
theorem dX5_end_40 : decode cX5_end 40 = .ok (.putfield 108, 3) := by decide +kernel
theorem dX5_end_43 : decode cX5_end 43 = .ok (.aload_n 0, 1) := by decide +kernel
theorem dX5_end_44 : decode cX5_end 44 = .ok (.aconst_null, 1) := by decide +kernel
theorem dX5_end_45 : decode cX5_end 45 = .ok (.putfield 74, 3) := by decide +kernel
theorem dX5_end_48 : decode cX5_end 48 = .ok (.aload_n 2, 1) := by decide +kernel
theorem dX5_end_49 : decode cX5_end 49 = .ok (.getfield 111, 3) := by decide +kernel
theorem dX5_end_52 : decode cX5_end 52 = .ok (.aload_n 2, 1) := by decide +kernel
theorem dX5_end_53 : decode cX5_end 53 = .ok (.getfield 115, 3) := by decide +kernel
theorem dX5_end_56 : decode cX5_end 56 = .ok (.iload_n 1, 1) := by decide +kernel
theorem dX5_end_57 : decode cX5_end 57 = .ok (.invokevirtual 118, 3) := by decide +kernel
theorem dX5_end_60 : decode cX5_end 60 = .ok (.aload_n 2, 1) := by decide +kernel
theorem dX5_end_61 : decode cX5_end 61 = .ok (.getfield 115, 3) := by decide +kernel
theorem dX5_end_64 : decode cX5_end 64 = .ok (.aload_n 2, 1) := by decide +kernel
theorem dX5_end_65 : decode cX5_end 65 = .ok (.getfield 111, 3) := by decide +kernel
theorem dX5_end_68 : decode cX5_end 68 = .ok (.iconst 2, 1) := by decide +kernel
theorem dX5_end_69 : decode cX5_end 69 = .ok (.iload_n 1, 1) := by decide +kernel
theorem dX5_end_70 : decode cX5_end 70 = .ok (.isub, 1) := by decide +kernel
theorem dX5_end_71 : decode cX5_end 71 = .ok (.invokevirtual 122, 3) := by decide +kernel
theorem dX5_end_74 : decode cX5_end 74 = .ok (.aload_n 0, 1) := by decide +kernel
theorem dX5_end_75 : decode cX5_end 75 = .ok (.getfield 30, 3) := by decide +kernel
theorem dX5_end_78 : decode cX5_end 78 = .ok (.aload_n 2, 1) := by decide +kernel
theorem dX5_end_79 : decode cX5_end 79 = .ok (.invokevirtual 125, 3) := by decide +kernel
theorem dX5_end_82 : decode cX5_end 82 = .ok (.aload_n 0, 1) := by decide +kernel
theorem dX5_end_83 : decode cX5_end 83 = .ok (.aload_n 2, 1) := by decide +kernel
theorem dX5_end_84 : decode cX5_end 84 = .ok (.aload_n 0, 1) := by decide +kernel
theorem dX5_end_85 : decode cX5_end 85 = .ok (.getfield 80, 3) := by decide +kernel
theorem dX5_end_88 : decode cX5_end 88 = .ok (.iconst 1, 1) := by decide +kernel
theorem dX5_end_89 : decode cX5_end 89 = .ok (.isub, 1) := by decide +kernel
theorem dX5_end_90 : decode cX5_end 90 = .ok (.invokevirtual 129, 3) := by decide +kernel
theorem dX5_end_93 : decode cX5_end 93 = .ok (.ireturn, 1) := by decide +kernel
theorem dX5_position_0 : decode cX5_position 0 = .ok (.aload_n 0, 1) := by decide +kernel
theorem dX5_position_1 : decode cX5_position 1 = .ok (.getfield 74, 3) := by decide +kernel
theorem dX5_position_4 : decode cX5_position 4 = .ok (.astore_n 1, 1) := by decide +kernel
theorem dX5_position_5 : decode cX5_position 5 = .ok (.aload_n 1, 1) := by decide +kernel
theorem dX5_position_6 : decode cX5_position 6 = .ok (.ifnonnull 7, 3) := by decide +kernel
theorem dX5_position_9 : decode cX5_position 9 = .ok (.iconst (-1), 1) := by decide +kernel
theorem dX5_position_10 : decode cX5_position 10 = .ok (.goto 7, 3) := by decide +kernel
theorem dX5_position_13 : decode cX5_position 13 = .ok (.aload_n 1, 1) := by decide +kernel
theorem dX5_position_14 : decode cX5_position 14 = .ok (.getfield 96, 3) := by decide +kernel
theorem dX5_position_17 : decode cX5_position 17 = .ok (.ireturn, 1) := by decide +kernel
theorem dX5_games_0 : decode cX5_games 0 = .ok (.aload_n 0, 1) := by decide +kernel
theorem dX5_games_1 : decode cX5_games 1 = .ok (.getfield 74, 3) := by decide +kernel
theorem dX5_games_4 : decode cX5_games 4 = .ok (.ifnonnull 10, 3) := by decide +kernel
theorem dX5_games_7 : decode cX5_games 7 = .ok (.aload_n 0, 1) := by decide +kernel
theorem dX5_games_8 : decode cX5_games 8 = .ok (.getfield 80, 3) := by decide +kernel
theorem dX5_games_11 : decode cX5_games 11 = .ok (.goto 9, 3) := by decide +kernel
theorem dX5_games_14 : decode cX5_games 14 = .ok (.aload_n 0, 1) := by decide +kernel
theorem dX5_games_15 : decode cX5_games 15 = .ok (.getfield 80, 3) := by decide +kernel
theorem dX5_games_18 : decode cX5_games 18 = .ok (.iconst 1, 1) := by decide +kernel
theorem dX5_games_19 : decode cX5_games 19 = .ok (.isub, 1) := by decide +kernel
theorem dX5_games_20 : decode cX5_games 20 = .ok (.ireturn, 1) := by decide +kernel
theorem dX5_score_0 : decode cX5_score 0 = .ok (.aload_n 0, 1) := by decide +kernel
theorem dX5_score_1 : decode cX5_score 1 = .ok (.iload_n 1, 1) := by decide +kernel
theorem dX5_score_2 : decode cX5_score 2 = .ok (.invokevirtual 65, 3) := by decide +kernel
theorem dX5_score_5 : decode cX5_score 5 = .ok (.getfield 133, 3) := by decide +kernel
theorem dX5_score_8 : decode cX5_score 8 = .ok (.ireturn, 1) := by decide +kernel
theorem dX5_puzzles_0 : decode cX5_puzzles 0 = .ok (.aload_n 0, 1) := by decide +kernel
theorem dX5_puzzles_1 : decode cX5_puzzles 1 = .ok (.getfield 136, 3) := by decide +kernel
theorem dX5_puzzles_4 : decode cX5_puzzles 4 = .ok (.ireturn, 1) := by decide +kernel
theorem dX5_puzzle_0 : decode cX5_puzzle 0 = .ok (.aload_n 0, 1) := by decide +kernel
theorem dX5_puzzle_1 : decode cX5_puzzle 1 = .ok (.iload_n 1, 1) := by decide +kernel
theorem dX5_puzzle_2 : decode cX5_puzzle 2 = .ok (.invokevirtual 139, 3) := by decide +kernel
theorem dX5_puzzle_5 : decode cX5_puzzle 5 = .ok (.getfield 143, 3) := by decide +kernel
theorem dX5_puzzle_8 : decode cX5_puzzle 8 = .ok (.ireturn, 1) := by decide +kernel
theorem dX5_source_0 : decode cX5_source 0 = .ok (.aload_n 0, 1) := by decide +kernel
theorem dX5_source_1 : decode cX5_source 1 = .ok (.iload_n 1, 1) := by decide +kernel
theorem dX5_source_2 : decode cX5_source 2 = .ok (.invokevirtual 139, 3) := by decide +kernel
theorem dX5_source_5 : decode cX5_source 5 = .ok (.getfield 146, 3) := by decide +kernel
theorem dX5_source_8 : decode cX5_source 8 = .ok (.ireturn, 1) := by decide +kernel
theorem dX5_solve_0 : decode cX5_solve 0 = .ok (.aload_n 0, 1) := by decide +kernel
theorem dX5_solve_1 : decode cX5_solve 1 = .ok (.iload_n 1, 1) := by decide +kernel
theorem dX5_solve_2 : decode cX5_solve 2 = .ok (.invokevirtual 65, 3) := by decide +kernel
theorem dX5_solve_5 : decode cX5_solve 5 = .ok (.astore 4, 2) := by decide +kernel
theorem dX5_solve_7 : decode cX5_solve 7 = .ok (.aload_n 0, 1) := by decide +kernel
theorem dX5_solve_8 : decode cX5_solve 8 = .ok (.iload_n 2, 1) := by decide +kernel
theorem dX5_solve_9 : decode cX5_solve 9 = .ok (.invokevirtual 139, 3) := by decide +kernel
theorem dX5_solve_12 : decode cX5_solve 12 = .ok (.astore 5, 2) := by decide +kernel
theorem dX5_solve_14 : decode cX5_solve 14 = .ok (.iload_n 3, 1) := by decide +kernel
theorem dX5_solve_15 : decode cX5_solve 15 = .ok (.invokestatic 38, 3) := by decide +kernel
theorem dX5_solve_18 : decode cX5_solve 18 = .ok (.aload 4, 2) := by decide +kernel
theorem dX5_solve_20 : decode cX5_solve 20 = .ok (.iload_n 2, 1) := by decide +kernel
theorem dX5_solve_21 : decode cX5_solve 21 = .ok (.invokevirtual 149, 3) := by decide +kernel
theorem dX5_solve_24 : decode cX5_solve 24 = .ok (.ifCond .eq 13, 3) := by decide +kernel
theorem dX5_solve_27 : decode cX5_solve 27 = .ok (.new 56, 3) := by decide +kernel
theorem dX5_solve_30 : decode cX5_solve 30 = .ok (.dup, 1) := by decide +kernel
theorem dX5_solve_31 : decode cX5_solve 31 = .ok (.ldc 153, 2) := by decide +kernel
theorem dX5_solve_33 : decode cX5_solve 33 = .ok (.invokespecial 60, 3) := by decide +kernel
theorem dX5_solve_36 : decode cX5_solve 36 = .ok (.athrow, 1) := by decide +kernel
theorem dX5_solve_37 : decode cX5_solve 37 = .ok (.iload_n 3, 1) := by decide +kernel
theorem dX5_solve_38 : decode cX5_solve 38 = .ok (.aload 5, 2) := by decide +kernel
theorem dX5_solve_40 : decode cX5_solve 40 = .ok (.getfield 143, 3) := by decide +kernel
theorem dX5_solve_43 : decode cX5_solve 43 = .ok (.invokestatic 49, 3) := by decide +kernel
theorem dX5_solve_46 : decode cX5_solve 46 = .ok (.if_icmp .ne 7, 3) := by decide +kernel
theorem dX5_solve_49 : decode cX5_solve 49 = .ok (.iconst 1, 1) := by decide +kernel
theorem dX5_solve_50 : decode cX5_solve 50 = .ok (.goto 4, 3) := by decide +kernel
theorem dX5_solve_53 : decode cX5_solve 53 = .ok (.iconst 0, 1) := by decide +kernel
theorem dX5_solve_54 : decode cX5_solve 54 = .ok (.istore 6, 2) := by decide +kernel
theorem dX5_solve_56 : decode cX5_solve 56 = .ok (.aload 4, 2) := by decide +kernel
theorem dX5_solve_58 : decode cX5_solve 58 = .ok (.iload_n 2, 1) := by decide +kernel
theorem dX5_solve_59 : decode cX5_solve 59 = .ok (.invokevirtual 155, 3) := by decide +kernel
theorem dX5_solve_62 : decode cX5_solve 62 = .ok (.aload 4, 2) := by decide +kernel
theorem dX5_solve_64 : decode cX5_solve 64 = .ok (.aload 5, 2) := by decide +kernel
theorem dX5_solve_66 : decode cX5_solve 66 = .ok (.getfield 158, 3) := by decide +kernel
theorem dX5_solve_69 : decode cX5_solve 69 = .ok (.iload 6, 2) := by decide +kernel
theorem dX5_solve_71 : decode cX5_solve 71 = .ok (.invokevirtual 161, 3) := by decide +kernel
theorem dX5_solve_74 : decode cX5_solve 74 = .ok (.iload 6, 2) := by decide +kernel
theorem dX5_solve_76 : decode cX5_solve 76 = .ok (.ireturn, 1) := by decide +kernel
theorem dX5_offered_0 : decode cX5_offered 0 = .ok (.aload_n 0, 1) := by decide +kernel
theorem dX5_offered_1 : decode cX5_offered 1 = .ok (.iload_n 1, 1) := by decide +kernel
theorem dX5_offered_2 : decode cX5_offered 2 = .ok (.invokevirtual 65, 3) := by decide +kernel
theorem dX5_offered_5 : decode cX5_offered 5 = .ok (.astore_n 2, 1) := by decide +kernel
theorem dX5_offered_6 : decode cX5_offered 6 = .ok (.iconst (-1), 1) := by decide +kernel
theorem dX5_offered_7 : decode cX5_offered 7 = .ok (.istore_n 3, 1) := by decide +kernel
theorem dX5_offered_8 : decode cX5_offered 8 = .ok (.iconst 0, 1) := by decide +kernel
theorem dX5_offered_9 : decode cX5_offered 9 = .ok (.istore 4, 2) := by decide +kernel
theorem dX5_offered_11 : decode cX5_offered 11 = .ok (.iconst 0, 1) := by decide +kernel
theorem dX5_offered_12 : decode cX5_offered 12 = .ok (.istore 5, 2) := by decide +kernel
theorem dX5_offered_14 : decode cX5_offered 14 = .ok (.iload 5, 2) := by decide +kernel
theorem dX5_offered_16 : decode cX5_offered 16 = .ok (.aload_n 0, 1) := by decide +kernel
theorem dX5_offered_17 : decode cX5_offered 17 = .ok (.getfield 23, 3) := by decide +kernel
theorem dX5_offered_20 : decode cX5_offered 20 = .ok (.arraylength, 1) := by decide +kernel
theorem dX5_offered_21 : decode cX5_offered 21 = .ok (.if_icmp .ge 63, 3) := by decide +kernel
theorem dX5_offered_24 : decode cX5_offered 24 = .ok (.aload_n 0, 1) := by decide +kernel
theorem dX5_offered_25 : decode cX5_offered 25 = .ok (.getfield 23, 3) := by decide +kernel
theorem dX5_offered_28 : decode cX5_offered 28 = .ok (.iload 5, 2) := by decide +kernel
theorem dX5_offered_30 : decode cX5_offered 30 = .ok (.aaload, 1) := by decide +kernel
theorem dX5_offered_31 : decode cX5_offered 31 = .ok (.astore 6, 2) := by decide +kernel
theorem dX5_offered_33 : decode cX5_offered 33 = .ok (.aload 6, 2) := by decide +kernel
theorem dX5_offered_35 : decode cX5_offered 35 = .ok (.ifnull 43, 3) := by decide +kernel
theorem dX5_offered_38 : decode cX5_offered 38 = .ok (.aload_n 2, 1) := by decide +kernel
theorem dX5_offered_39 : decode cX5_offered 39 = .ok (.iload 5, 2) := by decide +kernel
theorem dX5_offered_41 : decode cX5_offered 41 = .ok (.invokevirtual 149, 3) := by decide +kernel
theorem dX5_offered_44 : decode cX5_offered 44 = .ok (.ifCond .eq 6, 3) := by decide +kernel
theorem dX5_offered_47 : decode cX5_offered 47 = .ok (.goto 31, 3) := by decide +kernel
theorem dX5_offered_50 : decode cX5_offered 50 = .ok (.iload_n 3, 1) := by decide +kernel
theorem dX5_offered_51 : decode cX5_offered 51 = .ok (.ifCond .lt 17, 3) := by decide +kernel
theorem dX5_offered_54 : decode cX5_offered 54 = .ok (.aload_n 2, 1) := by decide +kernel
theorem dX5_offered_55 : decode cX5_offered 55 = .ok (.aload 6, 2) := by decide +kernel
theorem dX5_offered_57 : decode cX5_offered 57 = .ok (.getfield 158, 3) := by decide +kernel
theorem dX5_offered_60 : decode cX5_offered 60 = .ok (.iload 4, 2) := by decide +kernel
theorem dX5_offered_62 : decode cX5_offered 62 = .ok (.invokevirtual 165, 3) := by decide +kernel
theorem dX5_offered_65 : decode cX5_offered 65 = .ok (.ifCond .eq 13, 3) := by decide +kernel
theorem dX5_offered_68 : decode cX5_offered 68 = .ok (.iload 5, 2) := by decide +kernel
theorem dX5_offered_70 : decode cX5_offered 70 = .ok (.istore_n 3, 1) := by decide +kernel
theorem dX5_offered_71 : decode cX5_offered 71 = .ok (.aload 6, 2) := by decide +kernel
theorem dX5_offered_73 : decode cX5_offered 73 = .ok (.getfield 158, 3) := by decide +kernel
theorem dX5_offered_76 : decode cX5_offered 76 = .ok (.istore 4, 2) := by decide +kernel
theorem dX5_offered_78 : decode cX5_offered 78 = .ok (.iinc 5 1, 3) := by decide +kernel
theorem dX5_offered_81 : decode cX5_offered 81 = .ok (.goto (-67), 3) := by decide +kernel
theorem dX5_offered_84 : decode cX5_offered 84 = .ok (.iload_n 3, 1) := by decide +kernel
theorem dX5_offered_85 : decode cX5_offered 85 = .ok (.ireturn, 1) := by decide +kernel
theorem dX5_rating_0 : decode cX5_rating 0 = .ok (.aload_n 0, 1) := by decide +kernel
theorem dX5_rating_1 : decode cX5_rating 1 = .ok (.iload_n 1, 1) := by decide +kernel
theorem dX5_rating_2 : decode cX5_rating 2 = .ok (.invokevirtual 65, 3) := by decide +kernel
theorem dX5_rating_5 : decode cX5_rating 5 = .ok (.astore_n 3, 1) := by decide +kernel
theorem dX5_rating_6 : decode cX5_rating 6 = .ok (.iload_n 2, 1) := by decide +kernel
theorem dX5_rating_7 : decode cX5_rating 7 = .ok (.ifCond .lt 8, 3) := by decide +kernel
theorem dX5_rating_10 : decode cX5_rating 10 = .ok (.iload_n 2, 1) := by decide +kernel
theorem dX5_rating_11 : decode cX5_rating 11 = .ok (.iconst 5, 1) := by decide +kernel
theorem dX5_rating_12 : decode cX5_rating 12 = .ok (.if_icmp .lt 13, 3) := by decide +kernel
theorem dX5_rating_15 : decode cX5_rating 15 = .ok (.new 69, 3) := by decide +kernel
theorem dX5_rating_18 : decode cX5_rating 18 = .ok (.dup, 1) := by decide +kernel
theorem dX5_rating_19 : decode cX5_rating 19 = .ok (.ldc 168, 2) := by decide +kernel
theorem dX5_rating_21 : decode cX5_rating 21 = .ok (.invokespecial 73, 3) := by decide +kernel
theorem dX5_rating_24 : decode cX5_rating 24 = .ok (.athrow, 1) := by decide +kernel
theorem dX5_rating_25 : decode cX5_rating 25 = .ok (.aload_n 3, 1) := by decide +kernel
theorem dX5_rating_26 : decode cX5_rating 26 = .ok (.iload_n 2, 1) := by decide +kernel
theorem dX5_rating_27 : decode cX5_rating 27 = .ok (.invokevirtual 170, 3) := by decide +kernel
theorem dX5_rating_30 : decode cX5_rating 30 = .ok (.ireturn, 1) := by decide +kernel
theorem dX5_results_0 : decode cX5_results 0 = .ok (.iload_n 1, 1) := by decide +kernel
theorem dX5_results_1 : decode cX5_results 1 = .ok (.iload_n 2, 1) := by decide +kernel
theorem dX5_results_2 : decode cX5_results 2 = .ok (.invokestatic 173, 3) := by decide +kernel
theorem dX5_results_5 : decode cX5_results 5 = .ok (.aload_n 0, 1) := by decide +kernel
theorem dX5_results_6 : decode cX5_results 6 = .ok (.getfield 30, 3) := by decide +kernel
theorem dX5_results_9 : decode cX5_results 9 = .ok (.iload_n 1, 1) := by decide +kernel
theorem dX5_results_10 : decode cX5_results 10 = .ok (.iload_n 2, 1) := by decide +kernel
theorem dX5_results_11 : decode cX5_results 11 = .ok (.invokevirtual 177, 3) := by decide +kernel
theorem dX5_results_14 : decode cX5_results 14 = .ok (.astore_n 3, 1) := by decide +kernel
theorem dX5_results_15 : decode cX5_results 15 = .ok (.aload_n 3, 1) := by decide +kernel
theorem dX5_results_16 : decode cX5_results 16 = .ok (.ifnonnull 7, 3) := by decide +kernel
theorem dX5_results_19 : decode cX5_results 19 = .ok (.iconst 0, 1) := by decide +kernel
theorem dX5_results_20 : decode cX5_results 20 = .ok (.goto 7, 3) := by decide +kernel
theorem dX5_results_23 : decode cX5_results 23 = .ok (.aload_n 3, 1) := by decide +kernel
theorem dX5_results_24 : decode cX5_results 24 = .ok (.getfield 181, 3) := by decide +kernel
theorem dX5_results_27 : decode cX5_results 27 = .ok (.ireturn, 1) := by decide +kernel
theorem dX5_points_0 : decode cX5_points 0 = .ok (.iload_n 1, 1) := by decide +kernel
theorem dX5_points_1 : decode cX5_points 1 = .ok (.iload_n 2, 1) := by decide +kernel
theorem dX5_points_2 : decode cX5_points 2 = .ok (.invokestatic 173, 3) := by decide +kernel
theorem dX5_points_5 : decode cX5_points 5 = .ok (.aload_n 0, 1) := by decide +kernel
theorem dX5_points_6 : decode cX5_points 6 = .ok (.getfield 30, 3) := by decide +kernel
theorem dX5_points_9 : decode cX5_points 9 = .ok (.iload_n 1, 1) := by decide +kernel
theorem dX5_points_10 : decode cX5_points 10 = .ok (.iload_n 2, 1) := by decide +kernel
theorem dX5_points_11 : decode cX5_points 11 = .ok (.invokevirtual 177, 3) := by decide +kernel
theorem dX5_points_14 : decode cX5_points 14 = .ok (.astore_n 3, 1) := by decide +kernel
theorem dX5_points_15 : decode cX5_points 15 = .ok (.aload_n 3, 1) := by decide +kernel
theorem dX5_points_16 : decode cX5_points 16 = .ok (.ifnonnull 7, 3) := by decide +kernel
theorem dX5_points_19 : decode cX5_points 19 = .ok (.iconst 0, 1) := by decide +kernel
theorem dX5_points_20 : decode cX5_points 20 = .ok (.goto 7, 3) := by decide +kernel
theorem dX5_points_23 : decode cX5_points 23 = .ok (.aload_n 3, 1) := by decide +kernel
theorem dX5_points_24 : decode cX5_points 24 = .ok (.getfield 186, 3) := by decide +kernel
theorem dX5_points_27 : decode cX5_points 27 = .ok (.ireturn, 1) := by decide +kernel
theorem dX5_isDropped_0 : decode cX5_isDropped 0 = .ok (.iload_n 1, 1) := by decide +kernel
theorem dX5_isDropped_1 : decode cX5_isDropped 1 = .ok (.iload_n 2, 1) := by decide +kernel
theorem dX5_isDropped_2 : decode cX5_isDropped 2 = .ok (.invokestatic 173, 3) := by decide +kernel
theorem dX5_isDropped_5 : decode cX5_isDropped 5 = .ok (.aload_n 0, 1) := by decide +kernel
theorem dX5_isDropped_6 : decode cX5_isDropped 6 = .ok (.getfield 30, 3) := by decide +kernel
theorem dX5_isDropped_9 : decode cX5_isDropped 9 = .ok (.iload_n 1, 1) := by decide +kernel
theorem dX5_isDropped_10 : decode cX5_isDropped 10 = .ok (.iload_n 2, 1) := by decide +kernel
theorem dX5_isDropped_11 : decode cX5_isDropped 11 = .ok (.invokevirtual 189, 3) := by decide +kernel
theorem dX5_isDropped_14 : decode cX5_isDropped 14 = .ok (.ireturn, 1) := by decide +kernel
theorem dX5_pointsOfGames_0 : decode cX5_pointsOfGames 0 = .ok (.iload_n 1, 1) := by decide +kernel
theorem dX5_pointsOfGames_1 : decode cX5_pointsOfGames 1 = .ok (.iload_n 2, 1) := by decide +kernel
theorem dX5_pointsOfGames_2 : decode cX5_pointsOfGames 2 = .ok (.invokestatic 173, 3) := by decide +kernel
theorem dX5_pointsOfGames_5 : decode cX5_pointsOfGames 5 = .ok (.iconst 0, 1) := by decide +kernel
theorem dX5_pointsOfGames_6 : decode cX5_pointsOfGames 6 = .ok (.istore_n 3, 1) := by decide +kernel
theorem dX5_pointsOfGames_7 : decode cX5_pointsOfGames 7 = .ok (.aload_n 0, 1) := by decide +kernel
theorem dX5_pointsOfGames_8 : decode cX5_pointsOfGames 8 = .ok (.getfield 17, 3) := by decide +kernel
theorem dX5_pointsOfGames_11 : decode cX5_pointsOfGames 11 = .ok (.astore 4, 2) := by decide +kernel
theorem dX5_pointsOfGames_13 : decode cX5_pointsOfGames 13 = .ok (.aload 4, 2) := by decide +kernel
theorem dX5_pointsOfGames_15 : decode cX5_pointsOfGames 15 = .ok (.arraylength, 1) := by decide +kernel
theorem dX5_pointsOfGames_16 : decode cX5_pointsOfGames 16 = .ok (.istore 5, 2) := by decide +kernel
theorem dX5_pointsOfGames_18 : decode cX5_pointsOfGames 18 = .ok (.iconst 0, 1) := by decide +kernel
theorem dX5_pointsOfGames_19 : decode cX5_pointsOfGames 19 = .ok (.istore 6, 2) := by decide +kernel
theorem dX5_pointsOfGames_21 : decode cX5_pointsOfGames 21 = .ok (.iload 6, 2) := by decide +kernel
theorem dX5_pointsOfGames_23 : decode cX5_pointsOfGames 23 = .ok (.iload 5, 2) := by decide +kernel
theorem dX5_pointsOfGames_25 : decode cX5_pointsOfGames 25 = .ok (.if_icmp .ge 48, 3) := by decide +kernel
theorem dX5_pointsOfGames_28 : decode cX5_pointsOfGames 28 = .ok (.aload 4, 2) := by decide +kernel
theorem dX5_pointsOfGames_30 : decode cX5_pointsOfGames 30 = .ok (.iload 6, 2) := by decide +kernel
theorem dX5_pointsOfGames_32 : decode cX5_pointsOfGames 32 = .ok (.aaload, 1) := by decide +kernel
theorem dX5_pointsOfGames_33 : decode cX5_pointsOfGames 33 = .ok (.astore 7, 2) := by decide +kernel
theorem dX5_pointsOfGames_35 : decode cX5_pointsOfGames 35 = .ok (.aload 7, 2) := by decide +kernel
theorem dX5_pointsOfGames_37 : decode cX5_pointsOfGames 37 = .ok (.ifnull 30, 3) := by decide +kernel
theorem dX5_pointsOfGames_40 : decode cX5_pointsOfGames 40 = .ok (.aload 7, 2) := by decide +kernel
theorem dX5_pointsOfGames_42 : decode cX5_pointsOfGames 42 = .ok (.aload_n 0, 1) := by decide +kernel
theorem dX5_pointsOfGames_43 : decode cX5_pointsOfGames 43 = .ok (.getfield 74, 3) := by decide +kernel
theorem dX5_pointsOfGames_46 : decode cX5_pointsOfGames 46 = .ok (.if_acmp .eq 21, 3) := by decide +kernel
theorem dX5_pointsOfGames_49 : decode cX5_pointsOfGames 49 = .ok (.aload 7, 2) := by decide +kernel
theorem dX5_pointsOfGames_51 : decode cX5_pointsOfGames 51 = .ok (.iload_n 1, 1) := by decide +kernel
theorem dX5_pointsOfGames_52 : decode cX5_pointsOfGames 52 = .ok (.iload_n 2, 1) := by decide +kernel
theorem dX5_pointsOfGames_53 : decode cX5_pointsOfGames 53 = .ok (.invokevirtual 192, 3) := by decide +kernel
theorem dX5_pointsOfGames_56 : decode cX5_pointsOfGames 56 = .ok (.ifCond .eq 11, 3) := by decide +kernel
theorem dX5_pointsOfGames_59 : decode cX5_pointsOfGames 59 = .ok (.iload_n 3, 1) := by decide +kernel
theorem dX5_pointsOfGames_60 : decode cX5_pointsOfGames 60 = .ok (.aload 7, 2) := by decide +kernel
theorem dX5_pointsOfGames_62 : decode cX5_pointsOfGames 62 = .ok (.getfield 108, 3) := by decide +kernel
theorem dX5_pointsOfGames_65 : decode cX5_pointsOfGames 65 = .ok (.iadd, 1) := by decide +kernel
theorem dX5_pointsOfGames_66 : decode cX5_pointsOfGames 66 = .ok (.istore_n 3, 1) := by decide +kernel
theorem dX5_pointsOfGames_67 : decode cX5_pointsOfGames 67 = .ok (.iinc 6 1, 3) := by decide +kernel
theorem dX5_pointsOfGames_70 : decode cX5_pointsOfGames 70 = .ok (.goto (-49), 3) := by decide +kernel
theorem dX5_pointsOfGames_73 : decode cX5_pointsOfGames 73 = .ok (.iload_n 3, 1) := by decide +kernel
theorem dX5_pointsOfGames_74 : decode cX5_pointsOfGames 74 = .ok (.ireturn, 1) := by decide +kernel
theorem dX5_mean_0 : decode cX5_mean 0 = .ok (.iload_n 1, 1) := by decide +kernel
theorem dX5_mean_1 : decode cX5_mean 1 = .ok (.iload_n 2, 1) := by decide +kernel
theorem dX5_mean_2 : decode cX5_mean 2 = .ok (.invokestatic 173, 3) := by decide +kernel
theorem dX5_mean_5 : decode cX5_mean 5 = .ok (.aload_n 0, 1) := by decide +kernel
theorem dX5_mean_6 : decode cX5_mean 6 = .ok (.getfield 30, 3) := by decide +kernel
theorem dX5_mean_9 : decode cX5_mean 9 = .ok (.iload_n 1, 1) := by decide +kernel
theorem dX5_mean_10 : decode cX5_mean 10 = .ok (.iload_n 2, 1) := by decide +kernel
theorem dX5_mean_11 : decode cX5_mean 11 = .ok (.invokevirtual 177, 3) := by decide +kernel
theorem dX5_mean_14 : decode cX5_mean 14 = .ok (.astore_n 3, 1) := by decide +kernel
theorem dX5_mean_15 : decode cX5_mean 15 = .ok (.aload_n 3, 1) := by decide +kernel
theorem dX5_mean_16 : decode cX5_mean 16 = .ok (.ifnull 10, 3) := by decide +kernel
theorem dX5_mean_19 : decode cX5_mean 19 = .ok (.aload_n 3, 1) := by decide +kernel
theorem dX5_mean_20 : decode cX5_mean 20 = .ok (.getfield 181, 3) := by decide +kernel
theorem dX5_mean_23 : decode cX5_mean 23 = .ok (.ifCond .ne 5, 3) := by decide +kernel
theorem dX5_mean_26 : decode cX5_mean 26 = .ok (.fconst 0, 1) := by decide +kernel
theorem dX5_mean_27 : decode cX5_mean 27 = .ok (.freturn, 1) := by decide +kernel
theorem dX5_mean_28 : decode cX5_mean 28 = .ok (.aload_n 3, 1) := by decide +kernel
theorem dX5_mean_29 : decode cX5_mean 29 = .ok (.getfield 186, 3) := by decide +kernel
theorem dX5_mean_32 : decode cX5_mean 32 = .ok (.i2f, 1) := by decide +kernel
theorem dX5_mean_33 : decode cX5_mean 33 = .ok (.aload_n 3, 1) := by decide +kernel
theorem dX5_mean_34 : decode cX5_mean 34 = .ok (.getfield 181, 3) := by decide +kernel
theorem dX5_mean_37 : decode cX5_mean 37 = .ok (.i2f, 1) := by decide +kernel
theorem dX5_mean_38 : decode cX5_mean 38 = .ok (.fdiv, 1) := by decide +kernel
theorem dX5_mean_39 : decode cX5_mean 39 = .ok (.freturn, 1) := by decide +kernel
theorem dX5_opponent_0 : decode cX5_opponent 0 = .ok (.aload_n 0, 1) := by decide +kernel
theorem dX5_opponent_1 : decode cX5_opponent 1 = .ok (.iload_n 1, 1) := by decide +kernel
theorem dX5_opponent_2 : decode cX5_opponent 2 = .ok (.invokevirtual 65, 3) := by decide +kernel
theorem dX5_opponent_5 : decode cX5_opponent 5 = .ok (.astore_n 2, 1) := by decide +kernel
theorem dX5_opponent_6 : decode cX5_opponent 6 = .ok (.aload_n 0, 1) := by decide +kernel
theorem dX5_opponent_7 : decode cX5_opponent 7 = .ok (.invokevirtual 195, 3) := by decide +kernel
theorem dX5_opponent_10 : decode cX5_opponent 10 = .ok (.aload_n 2, 1) := by decide +kernel
theorem dX5_opponent_11 : decode cX5_opponent 11 = .ok (.getfield 198, 3) := by decide +kernel
theorem dX5_opponent_14 : decode cX5_opponent 14 = .ok (.astore_n 3, 1) := by decide +kernel
theorem dX5_opponent_15 : decode cX5_opponent 15 = .ok (.aload_n 3, 1) := by decide +kernel
theorem dX5_opponent_16 : decode cX5_opponent 16 = .ok (.ifnonnull 7, 3) := by decide +kernel
theorem dX5_opponent_19 : decode cX5_opponent 19 = .ok (.iconst (-1), 1) := by decide +kernel
theorem dX5_opponent_20 : decode cX5_opponent 20 = .ok (.goto 7, 3) := by decide +kernel
theorem dX5_opponent_23 : decode cX5_opponent 23 = .ok (.aload_n 3, 1) := by decide +kernel
theorem dX5_opponent_24 : decode cX5_opponent 24 = .ok (.getfield 201, 3) := by decide +kernel
theorem dX5_opponent_27 : decode cX5_opponent 27 = .ok (.ireturn, 1) := by decide +kernel
theorem dX5_hasWhite_0 : decode cX5_hasWhite 0 = .ok (.aload_n 0, 1) := by decide +kernel
theorem dX5_hasWhite_1 : decode cX5_hasWhite 1 = .ok (.iload_n 1, 1) := by decide +kernel
theorem dX5_hasWhite_2 : decode cX5_hasWhite 2 = .ok (.invokevirtual 65, 3) := by decide +kernel
theorem dX5_hasWhite_5 : decode cX5_hasWhite 5 = .ok (.astore_n 2, 1) := by decide +kernel
theorem dX5_hasWhite_6 : decode cX5_hasWhite 6 = .ok (.aload_n 0, 1) := by decide +kernel
theorem dX5_hasWhite_7 : decode cX5_hasWhite 7 = .ok (.invokevirtual 195, 3) := by decide +kernel
theorem dX5_hasWhite_10 : decode cX5_hasWhite 10 = .ok (.aload_n 2, 1) := by decide +kernel
theorem dX5_hasWhite_11 : decode cX5_hasWhite 11 = .ok (.getfield 198, 3) := by decide +kernel
theorem dX5_hasWhite_14 : decode cX5_hasWhite 14 = .ok (.astore_n 3, 1) := by decide +kernel
theorem dX5_hasWhite_15 : decode cX5_hasWhite 15 = .ok (.aload_n 3, 1) := by decide +kernel
theorem dX5_hasWhite_16 : decode cX5_hasWhite 16 = .ok (.ifnonnull 13, 3) := by decide +kernel
theorem dX5_hasWhite_19 : decode cX5_hasWhite 19 = .ok (.new 56, 3) := by decide +kernel
theorem dX5_hasWhite_22 : decode cX5_hasWhite 22 = .ok (.dup, 1) := by decide +kernel
theorem dX5_hasWhite_23 : decode cX5_hasWhite 23 = .ok (.ldc 204, 2) := by decide +kernel
theorem dX5_hasWhite_25 : decode cX5_hasWhite 25 = .ok (.invokespecial 60, 3) := by decide +kernel
theorem dX5_hasWhite_28 : decode cX5_hasWhite 28 = .ok (.athrow, 1) := by decide +kernel
theorem dX5_hasWhite_29 : decode cX5_hasWhite 29 = .ok (.aload_n 2, 1) := by decide +kernel
theorem dX5_hasWhite_30 : decode cX5_hasWhite 30 = .ok (.invokevirtual 206, 3) := by decide +kernel
theorem dX5_hasWhite_33 : decode cX5_hasWhite 33 = .ok (.aload_n 3, 1) := by decide +kernel
theorem dX5_hasWhite_34 : decode cX5_hasWhite 34 = .ok (.invokevirtual 206, 3) := by decide +kernel
theorem dX5_hasWhite_37 : decode cX5_hasWhite 37 = .ok (.if_icmp .eq 20, 3) := by decide +kernel
theorem dX5_hasWhite_40 : decode cX5_hasWhite 40 = .ok (.aload_n 2, 1) := by decide +kernel
theorem dX5_hasWhite_41 : decode cX5_hasWhite 41 = .ok (.invokevirtual 206, 3) := by decide +kernel
theorem dX5_hasWhite_44 : decode cX5_hasWhite 44 = .ok (.aload_n 3, 1) := by decide +kernel
theorem dX5_hasWhite_45 : decode cX5_hasWhite 45 = .ok (.invokevirtual 206, 3) := by decide +kernel
theorem dX5_hasWhite_48 : decode cX5_hasWhite 48 = .ok (.if_icmp .ge 7, 3) := by decide +kernel
theorem dX5_hasWhite_51 : decode cX5_hasWhite 51 = .ok (.iconst 1, 1) := by decide +kernel
theorem dX5_hasWhite_52 : decode cX5_hasWhite 52 = .ok (.goto 4, 3) := by decide +kernel
theorem dX5_hasWhite_55 : decode cX5_hasWhite 55 = .ok (.iconst 0, 1) := by decide +kernel
theorem dX5_hasWhite_56 : decode cX5_hasWhite 56 = .ok (.ireturn, 1) := by decide +kernel
theorem dX5_hasWhite_57 : decode cX5_hasWhite 57 = .ok (.aload_n 2, 1) := by decide +kernel
theorem dX5_hasWhite_58 : decode cX5_hasWhite 58 = .ok (.getfield 201, 3) := by decide +kernel
theorem dX5_hasWhite_61 : decode cX5_hasWhite 61 = .ok (.aload_n 3, 1) := by decide +kernel
theorem dX5_hasWhite_62 : decode cX5_hasWhite 62 = .ok (.getfield 201, 3) := by decide +kernel
theorem dX5_hasWhite_65 : decode cX5_hasWhite 65 = .ok (.if_icmp .ge 7, 3) := by decide +kernel
theorem dX5_hasWhite_68 : decode cX5_hasWhite 68 = .ok (.iconst 1, 1) := by decide +kernel
theorem dX5_hasWhite_69 : decode cX5_hasWhite 69 = .ok (.goto 4, 3) := by decide +kernel
theorem dX5_hasWhite_72 : decode cX5_hasWhite 72 = .ok (.iconst 0, 1) := by decide +kernel
theorem dX5_hasWhite_73 : decode cX5_hasWhite 73 = .ok (.ireturn, 1) := by decide +kernel
theorem dX5_checkPosition_0 : decode cX5_checkPosition 0 = .ok (.iload_n 0, 1) := by decide +kernel
theorem dX5_checkPosition_1 : decode cX5_checkPosition 1 = .ok (.ifCond .lt 10, 3) := by decide +kernel
theorem dX5_checkPosition_4 : decode cX5_checkPosition 4 = .ok (.iload_n 0, 1) := by decide +kernel
theorem dX5_checkPosition_5 : decode cX5_checkPosition 5 = .ok (.sipush 1000, 3) := by decide +kernel
theorem dX5_checkPosition_8 : decode cX5_checkPosition 8 = .ok (.if_icmp .lt 13, 3) := by decide +kernel
theorem dX5_checkPosition_11 : decode cX5_checkPosition 11 = .ok (.new 69, 3) := by decide +kernel
theorem dX5_checkPosition_14 : decode cX5_checkPosition 14 = .ok (.dup, 1) := by decide +kernel
theorem dX5_checkPosition_15 : decode cX5_checkPosition 15 = .ok (.ldc 210, 2) := by decide +kernel
theorem dX5_checkPosition_17 : decode cX5_checkPosition 17 = .ok (.invokespecial 73, 3) := by decide +kernel
theorem dX5_checkPosition_20 : decode cX5_checkPosition 20 = .ok (.athrow, 1) := by decide +kernel
theorem dX5_checkPosition_21 : decode cX5_checkPosition 21 = .ok (.return_, 1) := by decide +kernel
theorem dX5_checkMove_0 : decode cX5_checkMove 0 = .ok (.iload_n 0, 1) := by decide +kernel
theorem dX5_checkMove_1 : decode cX5_checkMove 1 = .ok (.ifCond .lt 8, 3) := by decide +kernel
theorem dX5_checkMove_4 : decode cX5_checkMove 4 = .ok (.iload_n 0, 1) := by decide +kernel
theorem dX5_checkMove_5 : decode cX5_checkMove 5 = .ok (.iconst 4, 1) := by decide +kernel
theorem dX5_checkMove_6 : decode cX5_checkMove 6 = .ok (.if_icmp .lt 13, 3) := by decide +kernel
theorem dX5_checkMove_9 : decode cX5_checkMove 9 = .ok (.new 69, 3) := by decide +kernel
theorem dX5_checkMove_12 : decode cX5_checkMove 12 = .ok (.dup, 1) := by decide +kernel
theorem dX5_checkMove_13 : decode cX5_checkMove 13 = .ok (.ldc 212, 2) := by decide +kernel
theorem dX5_checkMove_15 : decode cX5_checkMove 15 = .ok (.invokespecial 73, 3) := by decide +kernel
theorem dX5_checkMove_18 : decode cX5_checkMove 18 = .ok (.athrow, 1) := by decide +kernel
theorem dX5_checkMove_19 : decode cX5_checkMove 19 = .ok (.return_, 1) := by decide +kernel
theorem dX5_checkLine_0 : decode cX5_checkLine 0 = .ok (.iload_n 1, 1) := by decide +kernel
theorem dX5_checkLine_1 : decode cX5_checkLine 1 = .ok (.iconst 1, 1) := by decide +kernel
theorem dX5_checkLine_2 : decode cX5_checkLine 2 = .ok (.if_icmp .lt 9, 3) := by decide +kernel
theorem dX5_checkLine_5 : decode cX5_checkLine 5 = .ok (.iload_n 1, 1) := by decide +kernel
theorem dX5_checkLine_6 : decode cX5_checkLine 6 = .ok (.bipush 6, 2) := by decide +kernel
theorem dX5_checkLine_8 : decode cX5_checkLine 8 = .ok (.if_icmp .le 13, 3) := by decide +kernel
theorem dX5_checkLine_11 : decode cX5_checkLine 11 = .ok (.new 69, 3) := by decide +kernel
theorem dX5_checkLine_14 : decode cX5_checkLine 14 = .ok (.dup, 1) := by decide +kernel
theorem dX5_checkLine_15 : decode cX5_checkLine 15 = .ok (.ldc 214, 2) := by decide +kernel
theorem dX5_checkLine_17 : decode cX5_checkLine 17 = .ok (.invokespecial 73, 3) := by decide +kernel
theorem dX5_checkLine_20 : decode cX5_checkLine 20 = .ok (.athrow, 1) := by decide +kernel
theorem dX5_checkLine_21 : decode cX5_checkLine 21 = .ok (.iload_n 0, 1) := by decide +kernel
theorem dX5_checkLine_22 : decode cX5_checkLine 22 = .ok (.ifCond .lt 12, 3) := by decide +kernel
theorem dX5_checkLine_25 : decode cX5_checkLine 25 = .ok (.iload_n 0, 1) := by decide +kernel
theorem dX5_checkLine_26 : decode cX5_checkLine 26 = .ok (.iconst 1, 1) := by decide +kernel
theorem dX5_checkLine_27 : decode cX5_checkLine 27 = .ok (.iconst 2, 1) := by decide +kernel
theorem dX5_checkLine_28 : decode cX5_checkLine 28 = .ok (.iload_n 1, 1) := by decide +kernel
theorem dX5_checkLine_29 : decode cX5_checkLine 29 = .ok (.imul, 1) := by decide +kernel
theorem dX5_checkLine_30 : decode cX5_checkLine 30 = .ok (.ishl, 1) := by decide +kernel
theorem dX5_checkLine_31 : decode cX5_checkLine 31 = .ok (.if_icmp .lt 13, 3) := by decide +kernel
theorem dX5_checkLine_34 : decode cX5_checkLine 34 = .ok (.new 69, 3) := by decide +kernel
theorem dX5_checkLine_37 : decode cX5_checkLine 37 = .ok (.dup, 1) := by decide +kernel
theorem dX5_checkLine_38 : decode cX5_checkLine 38 = .ok (.ldc 216, 2) := by decide +kernel
theorem dX5_checkLine_40 : decode cX5_checkLine 40 = .ok (.invokespecial 73, 3) := by decide +kernel
theorem dX5_checkLine_43 : decode cX5_checkLine 43 = .ok (.athrow, 1) := by decide +kernel
theorem dX5_checkLine_44 : decode cX5_checkLine 44 = .ok (.return_, 1) := by decide +kernel
theorem dX5_knownPlayer_0 : decode cX5_knownPlayer 0 = .ok (.iload_n 1, 1) := by decide +kernel
theorem dX5_knownPlayer_1 : decode cX5_knownPlayer 1 = .ok (.ifCond .lt 21, 3) := by decide +kernel
theorem dX5_knownPlayer_4 : decode cX5_knownPlayer 4 = .ok (.iload_n 1, 1) := by decide +kernel
theorem dX5_knownPlayer_5 : decode cX5_knownPlayer 5 = .ok (.aload_n 0, 1) := by decide +kernel
theorem dX5_knownPlayer_6 : decode cX5_knownPlayer 6 = .ok (.getfield 11, 3) := by decide +kernel
theorem dX5_knownPlayer_9 : decode cX5_knownPlayer 9 = .ok (.arraylength, 1) := by decide +kernel
theorem dX5_knownPlayer_10 : decode cX5_knownPlayer 10 = .ok (.if_icmp .ge 12, 3) := by decide +kernel
theorem dX5_knownPlayer_13 : decode cX5_knownPlayer 13 = .ok (.aload_n 0, 1) := by decide +kernel
theorem dX5_knownPlayer_14 : decode cX5_knownPlayer 14 = .ok (.getfield 11, 3) := by decide +kernel
theorem dX5_knownPlayer_17 : decode cX5_knownPlayer 17 = .ok (.iload_n 1, 1) := by decide +kernel
theorem dX5_knownPlayer_18 : decode cX5_knownPlayer 18 = .ok (.aaload, 1) := by decide +kernel
theorem dX5_knownPlayer_19 : decode cX5_knownPlayer 19 = .ok (.goto 4, 3) := by decide +kernel
theorem dX5_knownPlayer_22 : decode cX5_knownPlayer 22 = .ok (.aconst_null, 1) := by decide +kernel
theorem dX5_knownPlayer_23 : decode cX5_knownPlayer 23 = .ok (.astore_n 2, 1) := by decide +kernel
theorem dX5_knownPlayer_24 : decode cX5_knownPlayer 24 = .ok (.aload_n 2, 1) := by decide +kernel
theorem dX5_knownPlayer_25 : decode cX5_knownPlayer 25 = .ok (.ifnonnull 13, 3) := by decide +kernel
theorem dX5_knownPlayer_28 : decode cX5_knownPlayer 28 = .ok (.new 218, 3) := by decide +kernel
theorem dX5_knownPlayer_31 : decode cX5_knownPlayer 31 = .ok (.dup, 1) := by decide +kernel
theorem dX5_knownPlayer_32 : decode cX5_knownPlayer 32 = .ok (.ldc 220, 2) := by decide +kernel
theorem dX5_knownPlayer_34 : decode cX5_knownPlayer 34 = .ok (.invokespecial 222, 3) := by decide +kernel
theorem dX5_knownPlayer_37 : decode cX5_knownPlayer 37 = .ok (.athrow, 1) := by decide +kernel
theorem dX5_knownPlayer_38 : decode cX5_knownPlayer 38 = .ok (.aload_n 2, 1) := by decide +kernel
theorem dX5_knownPlayer_39 : decode cX5_knownPlayer 39 = .ok (.areturn, 1) := by decide +kernel
theorem dX5_knownPuzzle_0 : decode cX5_knownPuzzle 0 = .ok (.iload_n 1, 1) := by decide +kernel
theorem dX5_knownPuzzle_1 : decode cX5_knownPuzzle 1 = .ok (.ifCond .lt 21, 3) := by decide +kernel
theorem dX5_knownPuzzle_4 : decode cX5_knownPuzzle 4 = .ok (.iload_n 1, 1) := by decide +kernel
theorem dX5_knownPuzzle_5 : decode cX5_knownPuzzle 5 = .ok (.aload_n 0, 1) := by decide +kernel
theorem dX5_knownPuzzle_6 : decode cX5_knownPuzzle 6 = .ok (.getfield 23, 3) := by decide +kernel
theorem dX5_knownPuzzle_9 : decode cX5_knownPuzzle 9 = .ok (.arraylength, 1) := by decide +kernel
theorem dX5_knownPuzzle_10 : decode cX5_knownPuzzle 10 = .ok (.if_icmp .ge 12, 3) := by decide +kernel
theorem dX5_knownPuzzle_13 : decode cX5_knownPuzzle 13 = .ok (.aload_n 0, 1) := by decide +kernel
theorem dX5_knownPuzzle_14 : decode cX5_knownPuzzle 14 = .ok (.getfield 23, 3) := by decide +kernel
theorem dX5_knownPuzzle_17 : decode cX5_knownPuzzle 17 = .ok (.iload_n 1, 1) := by decide +kernel
theorem dX5_knownPuzzle_18 : decode cX5_knownPuzzle 18 = .ok (.aaload, 1) := by decide +kernel
theorem dX5_knownPuzzle_19 : decode cX5_knownPuzzle 19 = .ok (.goto 4, 3) := by decide +kernel
theorem dX5_knownPuzzle_22 : decode cX5_knownPuzzle 22 = .ok (.aconst_null, 1) := by decide +kernel
theorem dX5_knownPuzzle_23 : decode cX5_knownPuzzle 23 = .ok (.astore_n 2, 1) := by decide +kernel
theorem dX5_knownPuzzle_24 : decode cX5_knownPuzzle 24 = .ok (.aload_n 2, 1) := by decide +kernel
theorem dX5_knownPuzzle_25 : decode cX5_knownPuzzle 25 = .ok (.ifnonnull 13, 3) := by decide +kernel
theorem dX5_knownPuzzle_28 : decode cX5_knownPuzzle 28 = .ok (.new 218, 3) := by decide +kernel
theorem dX5_knownPuzzle_31 : decode cX5_knownPuzzle 31 = .ok (.dup, 1) := by decide +kernel
theorem dX5_knownPuzzle_32 : decode cX5_knownPuzzle 32 = .ok (.ldc 223, 2) := by decide +kernel
theorem dX5_knownPuzzle_34 : decode cX5_knownPuzzle 34 = .ok (.invokespecial 222, 3) := by decide +kernel
theorem dX5_knownPuzzle_37 : decode cX5_knownPuzzle 37 = .ok (.athrow, 1) := by decide +kernel
theorem dX5_knownPuzzle_38 : decode cX5_knownPuzzle 38 = .ok (.aload_n 2, 1) := by decide +kernel
theorem dX5_knownPuzzle_39 : decode cX5_knownPuzzle 39 = .ok (.areturn, 1) := by decide +kernel
theorem dX5_positionAfter_0 : decode cX5_positionAfter 0 = .ok (.bipush 7, 2) := by decide +kernel
theorem dX5_positionAfter_2 : decode cX5_positionAfter 2 = .ok (.iload_n 0, 1) := by decide +kernel
theorem dX5_positionAfter_3 : decode cX5_positionAfter 3 = .ok (.imul, 1) := by decide +kernel
theorem dX5_positionAfter_4 : decode cX5_positionAfter 4 = .ok (.bipush 13, 2) := by decide +kernel
theorem dX5_positionAfter_6 : decode cX5_positionAfter 6 = .ok (.iload_n 1, 1) := by decide +kernel
theorem dX5_positionAfter_7 : decode cX5_positionAfter 7 = .ok (.imul, 1) := by decide +kernel
theorem dX5_positionAfter_8 : decode cX5_positionAfter 8 = .ok (.iadd, 1) := by decide +kernel
theorem dX5_positionAfter_9 : decode cX5_positionAfter 9 = .ok (.iconst 5, 1) := by decide +kernel
theorem dX5_positionAfter_10 : decode cX5_positionAfter 10 = .ok (.iadd, 1) := by decide +kernel
theorem dX5_positionAfter_11 : decode cX5_positionAfter 11 = .ok (.sipush 1000, 3) := by decide +kernel
theorem dX5_positionAfter_14 : decode cX5_positionAfter 14 = .ok (.irem, 1) := by decide +kernel
theorem dX5_positionAfter_15 : decode cX5_positionAfter 15 = .ok (.ireturn, 1) := by decide +kernel
theorem dX5_worthOf_0 : decode cX5_worthOf 0 = .ok (.iload_n 0, 1) := by decide +kernel
theorem dX5_worthOf_1 : decode cX5_worthOf 1 = .ok (.bipush 37, 2) := by decide +kernel
theorem dX5_worthOf_3 : decode cX5_worthOf 3 = .ok (.imul, 1) := by decide +kernel
theorem dX5_worthOf_4 : decode cX5_worthOf 4 = .ok (.bipush 101, 2) := by decide +kernel
theorem dX5_worthOf_6 : decode cX5_worthOf 6 = .ok (.irem, 1) := by decide +kernel
theorem dX5_worthOf_7 : decode cX5_worthOf 7 = .ok (.bipush 50, 2) := by decide +kernel
theorem dX5_worthOf_9 : decode cX5_worthOf 9 = .ok (.isub, 1) := by decide +kernel
theorem dX5_worthOf_10 : decode cX5_worthOf 10 = .ok (.ireturn, 1) := by decide +kernel
theorem dX5_worthAfter_0 : decode cX5_worthAfter 0 = .ok (.iload_n 0, 1) := by decide +kernel
theorem dX5_worthAfter_1 : decode cX5_worthAfter 1 = .ok (.iload_n 1, 1) := by decide +kernel
theorem dX5_worthAfter_2 : decode cX5_worthAfter 2 = .ok (.invokestatic 41, 3) := by decide +kernel
theorem dX5_worthAfter_5 : decode cX5_worthAfter 5 = .ok (.invokestatic 45, 3) := by decide +kernel
theorem dX5_worthAfter_8 : decode cX5_worthAfter 8 = .ok (.ireturn, 1) := by decide +kernel
theorem dX5_bestMove_0 : decode cX5_bestMove 0 = .ok (.iconst 0, 1) := by decide +kernel
theorem dX5_bestMove_1 : decode cX5_bestMove 1 = .ok (.istore_n 1, 1) := by decide +kernel
theorem dX5_bestMove_2 : decode cX5_bestMove 2 = .ok (.iconst 1, 1) := by decide +kernel
theorem dX5_bestMove_3 : decode cX5_bestMove 3 = .ok (.istore_n 2, 1) := by decide +kernel
theorem dX5_bestMove_4 : decode cX5_bestMove 4 = .ok (.iload_n 2, 1) := by decide +kernel
theorem dX5_bestMove_5 : decode cX5_bestMove 5 = .ok (.iconst 4, 1) := by decide +kernel
theorem dX5_bestMove_6 : decode cX5_bestMove 6 = .ok (.if_icmp .ge 24, 3) := by decide +kernel
theorem dX5_bestMove_9 : decode cX5_bestMove 9 = .ok (.iload_n 0, 1) := by decide +kernel
theorem dX5_bestMove_10 : decode cX5_bestMove 10 = .ok (.iload_n 2, 1) := by decide +kernel
theorem dX5_bestMove_11 : decode cX5_bestMove 11 = .ok (.invokestatic 225, 3) := by decide +kernel
theorem dX5_bestMove_14 : decode cX5_bestMove 14 = .ok (.iload_n 0, 1) := by decide +kernel
theorem dX5_bestMove_15 : decode cX5_bestMove 15 = .ok (.iload_n 1, 1) := by decide +kernel
theorem dX5_bestMove_16 : decode cX5_bestMove 16 = .ok (.invokestatic 225, 3) := by decide +kernel
theorem dX5_bestMove_19 : decode cX5_bestMove 19 = .ok (.if_icmp .le 5, 3) := by decide +kernel
theorem dX5_bestMove_22 : decode cX5_bestMove 22 = .ok (.iload_n 2, 1) := by decide +kernel
theorem dX5_bestMove_23 : decode cX5_bestMove 23 = .ok (.istore_n 1, 1) := by decide +kernel
theorem dX5_bestMove_24 : decode cX5_bestMove 24 = .ok (.iinc 2 1, 3) := by decide +kernel
theorem dX5_bestMove_27 : decode cX5_bestMove 27 = .ok (.goto (-23), 3) := by decide +kernel
theorem dX5_bestMove_30 : decode cX5_bestMove 30 = .ok (.iload_n 1, 1) := by decide +kernel
theorem dX5_bestMove_31 : decode cX5_bestMove 31 = .ok (.ireturn, 1) := by decide +kernel
theorem dX5_isBlunder_0 : decode cX5_isBlunder 0 = .ok (.iload_n 0, 1) := by decide +kernel
theorem dX5_isBlunder_1 : decode cX5_isBlunder 1 = .ok (.iload_n 0, 1) := by decide +kernel
theorem dX5_isBlunder_2 : decode cX5_isBlunder 2 = .ok (.invokestatic 49, 3) := by decide +kernel
theorem dX5_isBlunder_5 : decode cX5_isBlunder 5 = .ok (.invokestatic 225, 3) := by decide +kernel
theorem dX5_isBlunder_8 : decode cX5_isBlunder 8 = .ok (.iload_n 0, 1) := by decide +kernel
theorem dX5_isBlunder_9 : decode cX5_isBlunder 9 = .ok (.iload_n 1, 1) := by decide +kernel
theorem dX5_isBlunder_10 : decode cX5_isBlunder 10 = .ok (.invokestatic 225, 3) := by decide +kernel
theorem dX5_isBlunder_13 : decode cX5_isBlunder 13 = .ok (.isub, 1) := by decide +kernel
theorem dX5_isBlunder_14 : decode cX5_isBlunder 14 = .ok (.bipush 40, 2) := by decide +kernel
theorem dX5_isBlunder_16 : decode cX5_isBlunder 16 = .ok (.if_icmp .lt 7, 3) := by decide +kernel
theorem dX5_isBlunder_19 : decode cX5_isBlunder 19 = .ok (.iconst 1, 1) := by decide +kernel
theorem dX5_isBlunder_20 : decode cX5_isBlunder 20 = .ok (.goto 4, 3) := by decide +kernel
theorem dX5_isBlunder_23 : decode cX5_isBlunder 23 = .ok (.iconst 0, 1) := by decide +kernel
theorem dX5_isBlunder_24 : decode cX5_isBlunder 24 = .ok (.ireturn, 1) := by decide +kernel
theorem dX5_moveOfLine_0 : decode cX5_moveOfLine 0 = .ok (.iload_n 0, 1) := by decide +kernel
theorem dX5_moveOfLine_1 : decode cX5_moveOfLine 1 = .ok (.iconst 2, 1) := by decide +kernel
theorem dX5_moveOfLine_2 : decode cX5_moveOfLine 2 = .ok (.iload_n 1, 1) := by decide +kernel
theorem dX5_moveOfLine_3 : decode cX5_moveOfLine 3 = .ok (.imul, 1) := by decide +kernel
theorem dX5_moveOfLine_4 : decode cX5_moveOfLine 4 = .ok (.ishr, 1) := by decide +kernel
theorem dX5_moveOfLine_5 : decode cX5_moveOfLine 5 = .ok (.iconst 3, 1) := by decide +kernel
theorem dX5_moveOfLine_6 : decode cX5_moveOfLine 6 = .ok (.iand, 1) := by decide +kernel
theorem dX5_moveOfLine_7 : decode cX5_moveOfLine 7 = .ok (.ireturn, 1) := by decide +kernel
theorem dX5_makePuzzles_0 : decode cX5_makePuzzles 0 = .ok (.iconst 0, 1) := by decide +kernel
theorem dX5_makePuzzles_1 : decode cX5_makePuzzles 1 = .ok (.istore_n 3, 1) := by decide +kernel
theorem dX5_makePuzzles_2 : decode cX5_makePuzzles 2 = .ok (.iconst 1, 1) := by decide +kernel
theorem dX5_makePuzzles_3 : decode cX5_makePuzzles 3 = .ok (.istore 4, 2) := by decide +kernel
theorem dX5_makePuzzles_5 : decode cX5_makePuzzles 5 = .ok (.iconst 0, 1) := by decide +kernel
theorem dX5_makePuzzles_6 : decode cX5_makePuzzles 6 = .ok (.istore 5, 2) := by decide +kernel
theorem dX5_makePuzzles_8 : decode cX5_makePuzzles 8 = .ok (.iload 5, 2) := by decide +kernel
theorem dX5_makePuzzles_10 : decode cX5_makePuzzles 10 = .ok (.aload_n 1, 1) := by decide +kernel
theorem dX5_makePuzzles_11 : decode cX5_makePuzzles 11 = .ok (.getfield 228, 3) := by decide +kernel
theorem dX5_makePuzzles_14 : decode cX5_makePuzzles 14 = .ok (.if_icmp .ge 49, 3) := by decide +kernel
theorem dX5_makePuzzles_17 : decode cX5_makePuzzles 17 = .ok (.aload_n 1, 1) := by decide +kernel
theorem dX5_makePuzzles_18 : decode cX5_makePuzzles 18 = .ok (.iload 5, 2) := by decide +kernel
theorem dX5_makePuzzles_20 : decode cX5_makePuzzles 20 = .ok (.invokevirtual 231, 3) := by decide +kernel
theorem dX5_makePuzzles_23 : decode cX5_makePuzzles 23 = .ok (.istore 6, 2) := by decide +kernel
theorem dX5_makePuzzles_25 : decode cX5_makePuzzles 25 = .ok (.iload 4, 2) := by decide +kernel
theorem dX5_makePuzzles_27 : decode cX5_makePuzzles 27 = .ok (.iload 6, 2) := by decide +kernel
theorem dX5_makePuzzles_29 : decode cX5_makePuzzles 29 = .ok (.invokestatic 99, 3) := by decide +kernel
theorem dX5_makePuzzles_32 : decode cX5_makePuzzles 32 = .ok (.ifCond .eq 16, 3) := by decide +kernel
theorem dX5_makePuzzles_35 : decode cX5_makePuzzles 35 = .ok (.aload_n 0, 1) := by decide +kernel
theorem dX5_makePuzzles_36 : decode cX5_makePuzzles 36 = .ok (.iload 4, 2) := by decide +kernel
theorem dX5_makePuzzles_38 : decode cX5_makePuzzles 38 = .ok (.iload_n 2, 1) := by decide +kernel
theorem dX5_makePuzzles_39 : decode cX5_makePuzzles 39 = .ok (.invokevirtual 234, 3) := by decide +kernel
theorem dX5_makePuzzles_42 : decode cX5_makePuzzles 42 = .ok (.ifCond .eq 6, 3) := by decide +kernel
theorem dX5_makePuzzles_45 : decode cX5_makePuzzles 45 = .ok (.iinc 3 1, 3) := by decide +kernel
theorem dX5_makePuzzles_48 : decode cX5_makePuzzles 48 = .ok (.iload 4, 2) := by decide +kernel
theorem dX5_makePuzzles_50 : decode cX5_makePuzzles 50 = .ok (.iload 6, 2) := by decide +kernel
theorem dX5_makePuzzles_52 : decode cX5_makePuzzles 52 = .ok (.invokestatic 41, 3) := by decide +kernel
theorem dX5_makePuzzles_55 : decode cX5_makePuzzles 55 = .ok (.istore 4, 2) := by decide +kernel
theorem dX5_makePuzzles_57 : decode cX5_makePuzzles 57 = .ok (.iinc 5 1, 3) := by decide +kernel
theorem dX5_makePuzzles_60 : decode cX5_makePuzzles 60 = .ok (.goto (-52), 3) := by decide +kernel
theorem dX5_makePuzzles_63 : decode cX5_makePuzzles 63 = .ok (.iload_n 3, 1) := by decide +kernel
theorem dX5_makePuzzles_64 : decode cX5_makePuzzles 64 = .ok (.ireturn, 1) := by decide +kernel
theorem dX5_addPuzzle_0 : decode cX5_addPuzzle 0 = .ok (.aload_n 0, 1) := by decide +kernel
theorem dX5_addPuzzle_1 : decode cX5_addPuzzle 1 = .ok (.getfield 136, 3) := by decide +kernel
theorem dX5_addPuzzle_4 : decode cX5_addPuzzle 4 = .ok (.istore_n 3, 1) := by decide +kernel
theorem dX5_addPuzzle_5 : decode cX5_addPuzzle 5 = .ok (.iload_n 3, 1) := by decide +kernel
theorem dX5_addPuzzle_6 : decode cX5_addPuzzle 6 = .ok (.ifCond .lt 20, 3) := by decide +kernel
theorem dX5_addPuzzle_9 : decode cX5_addPuzzle 9 = .ok (.iload_n 3, 1) := by decide +kernel
theorem dX5_addPuzzle_10 : decode cX5_addPuzzle 10 = .ok (.aload_n 0, 1) := by decide +kernel
theorem dX5_addPuzzle_11 : decode cX5_addPuzzle 11 = .ok (.getfield 23, 3) := by decide +kernel
theorem dX5_addPuzzle_14 : decode cX5_addPuzzle 14 = .ok (.arraylength, 1) := by decide +kernel
theorem dX5_addPuzzle_15 : decode cX5_addPuzzle 15 = .ok (.if_icmp .ge 11, 3) := by decide +kernel
theorem dX5_addPuzzle_18 : decode cX5_addPuzzle 18 = .ok (.aload_n 0, 1) := by decide +kernel
theorem dX5_addPuzzle_19 : decode cX5_addPuzzle 19 = .ok (.iload_n 1, 1) := by decide +kernel
theorem dX5_addPuzzle_20 : decode cX5_addPuzzle 20 = .ok (.invokevirtual 237, 3) := by decide +kernel
theorem dX5_addPuzzle_23 : decode cX5_addPuzzle 23 = .ok (.ifCond .eq 5, 3) := by decide +kernel
theorem dX5_addPuzzle_26 : decode cX5_addPuzzle 26 = .ok (.iconst 0, 1) := by decide +kernel
theorem dX5_addPuzzle_27 : decode cX5_addPuzzle 27 = .ok (.ireturn, 1) := by decide +kernel
theorem dX5_addPuzzle_28 : decode cX5_addPuzzle 28 = .ok (.aload_n 0, 1) := by decide +kernel
theorem dX5_addPuzzle_29 : decode cX5_addPuzzle 29 = .ok (.getfield 23, 3) := by decide +kernel
theorem dX5_addPuzzle_32 : decode cX5_addPuzzle 32 = .ok (.iload_n 3, 1) := by decide +kernel
theorem dX5_addPuzzle_33 : decode cX5_addPuzzle 33 = .ok (.new 21, 3) := by decide +kernel
theorem dX5_addPuzzle_36 : decode cX5_addPuzzle 36 = .ok (.dup, 1) := by decide +kernel
theorem dX5_addPuzzle_37 : decode cX5_addPuzzle 37 = .ok (.iload_n 1, 1) := by decide +kernel
theorem dX5_addPuzzle_38 : decode cX5_addPuzzle 38 = .ok (.iload_n 2, 1) := by decide +kernel
theorem dX5_addPuzzle_39 : decode cX5_addPuzzle 39 = .ok (.invokespecial 240, 3) := by decide +kernel
theorem dX5_addPuzzle_42 : decode cX5_addPuzzle 42 = .ok (.aastore, 1) := by decide +kernel
theorem dX5_addPuzzle_43 : decode cX5_addPuzzle 43 = .ok (.aload_n 0, 1) := by decide +kernel
theorem dX5_addPuzzle_44 : decode cX5_addPuzzle 44 = .ok (.iload_n 3, 1) := by decide +kernel
theorem dX5_addPuzzle_45 : decode cX5_addPuzzle 45 = .ok (.iconst 1, 1) := by decide +kernel
theorem dX5_addPuzzle_46 : decode cX5_addPuzzle 46 = .ok (.iadd, 1) := by decide +kernel
theorem dX5_addPuzzle_47 : decode cX5_addPuzzle 47 = .ok (.putfield 136, 3) := by decide +kernel
theorem dX5_addPuzzle_50 : decode cX5_addPuzzle 50 = .ok (.iconst 1, 1) := by decide +kernel
theorem dX5_addPuzzle_51 : decode cX5_addPuzzle 51 = .ok (.ireturn, 1) := by decide +kernel
theorem dX5_hasPuzzleFor_0 : decode cX5_hasPuzzleFor 0 = .ok (.aload_n 0, 1) := by decide +kernel
theorem dX5_hasPuzzleFor_1 : decode cX5_hasPuzzleFor 1 = .ok (.getfield 23, 3) := by decide +kernel
theorem dX5_hasPuzzleFor_4 : decode cX5_hasPuzzleFor 4 = .ok (.astore_n 2, 1) := by decide +kernel
theorem dX5_hasPuzzleFor_5 : decode cX5_hasPuzzleFor 5 = .ok (.aload_n 2, 1) := by decide +kernel
theorem dX5_hasPuzzleFor_6 : decode cX5_hasPuzzleFor 6 = .ok (.arraylength, 1) := by decide +kernel
theorem dX5_hasPuzzleFor_7 : decode cX5_hasPuzzleFor 7 = .ok (.istore_n 3, 1) := by decide +kernel
theorem dX5_hasPuzzleFor_8 : decode cX5_hasPuzzleFor 8 = .ok (.iconst 0, 1) := by decide +kernel
theorem dX5_hasPuzzleFor_9 : decode cX5_hasPuzzleFor 9 = .ok (.istore 4, 2) := by decide +kernel
theorem dX5_hasPuzzleFor_11 : decode cX5_hasPuzzleFor 11 = .ok (.iload 4, 2) := by decide +kernel
theorem dX5_hasPuzzleFor_13 : decode cX5_hasPuzzleFor 13 = .ok (.iload_n 3, 1) := by decide +kernel
theorem dX5_hasPuzzleFor_14 : decode cX5_hasPuzzleFor 14 = .ok (.if_icmp .ge 31, 3) := by decide +kernel
theorem dX5_hasPuzzleFor_17 : decode cX5_hasPuzzleFor 17 = .ok (.aload_n 2, 1) := by decide +kernel
theorem dX5_hasPuzzleFor_18 : decode cX5_hasPuzzleFor 18 = .ok (.iload 4, 2) := by decide +kernel
theorem dX5_hasPuzzleFor_20 : decode cX5_hasPuzzleFor 20 = .ok (.aaload, 1) := by decide +kernel
theorem dX5_hasPuzzleFor_21 : decode cX5_hasPuzzleFor 21 = .ok (.astore 5, 2) := by decide +kernel
theorem dX5_hasPuzzleFor_23 : decode cX5_hasPuzzleFor 23 = .ok (.aload 5, 2) := by decide +kernel
theorem dX5_hasPuzzleFor_25 : decode cX5_hasPuzzleFor 25 = .ok (.ifnull 14, 3) := by decide +kernel
theorem dX5_hasPuzzleFor_28 : decode cX5_hasPuzzleFor 28 = .ok (.aload 5, 2) := by decide +kernel
theorem dX5_hasPuzzleFor_30 : decode cX5_hasPuzzleFor 30 = .ok (.getfield 143, 3) := by decide +kernel
theorem dX5_hasPuzzleFor_33 : decode cX5_hasPuzzleFor 33 = .ok (.iload_n 1, 1) := by decide +kernel
theorem dX5_hasPuzzleFor_34 : decode cX5_hasPuzzleFor 34 = .ok (.if_icmp .ne 5, 3) := by decide +kernel
theorem dX5_hasPuzzleFor_37 : decode cX5_hasPuzzleFor 37 = .ok (.iconst 1, 1) := by decide +kernel
theorem dX5_hasPuzzleFor_38 : decode cX5_hasPuzzleFor 38 = .ok (.ireturn, 1) := by decide +kernel
theorem dX5_hasPuzzleFor_39 : decode cX5_hasPuzzleFor 39 = .ok (.iinc 4 1, 3) := by decide +kernel
theorem dX5_hasPuzzleFor_42 : decode cX5_hasPuzzleFor 42 = .ok (.goto (-31), 3) := by decide +kernel
theorem dX5_hasPuzzleFor_45 : decode cX5_hasPuzzleFor 45 = .ok (.iconst 0, 1) := by decide +kernel
theorem dX5_hasPuzzleFor_46 : decode cX5_hasPuzzleFor 46 = .ok (.ireturn, 1) := by decide +kernel
theorem dX5_pairPlayers_0 : decode cX5_pairPlayers 0 = .ok (.aload_n 0, 1) := by decide +kernel
theorem dX5_pairPlayers_1 : decode cX5_pairPlayers 1 = .ok (.getfield 11, 3) := by decide +kernel
theorem dX5_pairPlayers_4 : decode cX5_pairPlayers 4 = .ok (.astore_n 1, 1) := by decide +kernel
theorem dX5_pairPlayers_5 : decode cX5_pairPlayers 5 = .ok (.aload_n 1, 1) := by decide +kernel
theorem dX5_pairPlayers_6 : decode cX5_pairPlayers 6 = .ok (.arraylength, 1) := by decide +kernel
theorem dX5_pairPlayers_7 : decode cX5_pairPlayers 7 = .ok (.istore_n 2, 1) := by decide +kernel
theorem dX5_pairPlayers_8 : decode cX5_pairPlayers 8 = .ok (.iconst 0, 1) := by decide +kernel
theorem dX5_pairPlayers_9 : decode cX5_pairPlayers 9 = .ok (.istore_n 3, 1) := by decide +kernel
theorem dX5_pairPlayers_10 : decode cX5_pairPlayers 10 = .ok (.iload_n 3, 1) := by decide +kernel
theorem dX5_pairPlayers_11 : decode cX5_pairPlayers 11 = .ok (.iload_n 2, 1) := by decide +kernel
theorem dX5_pairPlayers_12 : decode cX5_pairPlayers 12 = .ok (.if_icmp .ge 25, 3) := by decide +kernel
theorem dX5_pairPlayers_15 : decode cX5_pairPlayers 15 = .ok (.aload_n 1, 1) := by decide +kernel
theorem dX5_pairPlayers_16 : decode cX5_pairPlayers 16 = .ok (.iload_n 3, 1) := by decide +kernel
theorem dX5_pairPlayers_17 : decode cX5_pairPlayers 17 = .ok (.aaload, 1) := by decide +kernel
theorem dX5_pairPlayers_18 : decode cX5_pairPlayers 18 = .ok (.astore 4, 2) := by decide +kernel
theorem dX5_pairPlayers_20 : decode cX5_pairPlayers 20 = .ok (.aload 4, 2) := by decide +kernel
theorem dX5_pairPlayers_22 : decode cX5_pairPlayers 22 = .ok (.ifnull 9, 3) := by decide +kernel
theorem dX5_pairPlayers_25 : decode cX5_pairPlayers 25 = .ok (.aload 4, 2) := by decide +kernel
theorem dX5_pairPlayers_27 : decode cX5_pairPlayers 27 = .ok (.aconst_null, 1) := by decide +kernel
theorem dX5_pairPlayers_28 : decode cX5_pairPlayers 28 = .ok (.putfield 198, 3) := by decide +kernel
theorem dX5_pairPlayers_31 : decode cX5_pairPlayers 31 = .ok (.iinc 3 1, 3) := by decide +kernel
theorem dX5_pairPlayers_34 : decode cX5_pairPlayers 34 = .ok (.goto (-24), 3) := by decide +kernel
theorem dX5_pairPlayers_37 : decode cX5_pairPlayers 37 = .ok (.iconst 0, 1) := by decide +kernel
theorem dX5_pairPlayers_38 : decode cX5_pairPlayers 38 = .ok (.istore_n 1, 1) := by decide +kernel
theorem dX5_pairPlayers_39 : decode cX5_pairPlayers 39 = .ok (.iload_n 1, 1) := by decide +kernel
theorem dX5_pairPlayers_40 : decode cX5_pairPlayers 40 = .ok (.iconst 4, 1) := by decide +kernel
theorem dX5_pairPlayers_41 : decode cX5_pairPlayers 41 = .ok (.if_icmp .ge 47, 3) := by decide +kernel
theorem dX5_pairPlayers_44 : decode cX5_pairPlayers 44 = .ok (.aload_n 0, 1) := by decide +kernel
theorem dX5_pairPlayers_45 : decode cX5_pairPlayers 45 = .ok (.invokevirtual 242, 3) := by decide +kernel
theorem dX5_pairPlayers_48 : decode cX5_pairPlayers 48 = .ok (.astore_n 2, 1) := by decide +kernel
theorem dX5_pairPlayers_49 : decode cX5_pairPlayers 49 = .ok (.aload_n 2, 1) := by decide +kernel
theorem dX5_pairPlayers_50 : decode cX5_pairPlayers 50 = .ok (.ifnonnull 7, 3) := by decide +kernel
theorem dX5_pairPlayers_53 : decode cX5_pairPlayers 53 = .ok (.aconst_null, 1) := by decide +kernel
theorem dX5_pairPlayers_54 : decode cX5_pairPlayers 54 = .ok (.goto 8, 3) := by decide +kernel
theorem dX5_pairPlayers_57 : decode cX5_pairPlayers 57 = .ok (.aload_n 0, 1) := by decide +kernel
theorem dX5_pairPlayers_58 : decode cX5_pairPlayers 58 = .ok (.aload_n 2, 1) := by decide +kernel
theorem dX5_pairPlayers_59 : decode cX5_pairPlayers 59 = .ok (.invokevirtual 246, 3) := by decide +kernel
theorem dX5_pairPlayers_62 : decode cX5_pairPlayers 62 = .ok (.astore_n 3, 1) := by decide +kernel
theorem dX5_pairPlayers_63 : decode cX5_pairPlayers 63 = .ok (.aload_n 2, 1) := by decide +kernel
theorem dX5_pairPlayers_64 : decode cX5_pairPlayers 64 = .ok (.ifnull 7, 3) := by decide +kernel
theorem dX5_pairPlayers_67 : decode cX5_pairPlayers 67 = .ok (.aload_n 3, 1) := by decide +kernel
theorem dX5_pairPlayers_68 : decode cX5_pairPlayers 68 = .ok (.ifnonnull 4, 3) := by decide +kernel
theorem dX5_pairPlayers_71 : decode cX5_pairPlayers 71 = .ok (.return_, 1) := by decide +kernel
theorem dX5_pairPlayers_72 : decode cX5_pairPlayers 72 = .ok (.aload_n 2, 1) := by decide +kernel
theorem dX5_pairPlayers_73 : decode cX5_pairPlayers 73 = .ok (.aload_n 3, 1) := by decide +kernel
theorem dX5_pairPlayers_74 : decode cX5_pairPlayers 74 = .ok (.putfield 198, 3) := by decide +kernel
theorem dX5_pairPlayers_77 : decode cX5_pairPlayers 77 = .ok (.aload_n 3, 1) := by decide +kernel
theorem dX5_pairPlayers_78 : decode cX5_pairPlayers 78 = .ok (.aload_n 2, 1) := by decide +kernel
theorem dX5_pairPlayers_79 : decode cX5_pairPlayers 79 = .ok (.putfield 198, 3) := by decide +kernel
theorem dX5_pairPlayers_82 : decode cX5_pairPlayers 82 = .ok (.iinc 1 1, 3) := by decide +kernel
theorem dX5_pairPlayers_85 : decode cX5_pairPlayers 85 = .ok (.goto (-46), 3) := by decide +kernel
theorem dX5_pairPlayers_88 : decode cX5_pairPlayers 88 = .ok (.return_, 1) := by decide +kernel
theorem dX5_firstUnpaired_0 : decode cX5_firstUnpaired 0 = .ok (.aconst_null, 1) := by decide +kernel
theorem dX5_firstUnpaired_1 : decode cX5_firstUnpaired 1 = .ok (.astore_n 1, 1) := by decide +kernel
theorem dX5_firstUnpaired_2 : decode cX5_firstUnpaired 2 = .ok (.aload_n 0, 1) := by decide +kernel
theorem dX5_firstUnpaired_3 : decode cX5_firstUnpaired 3 = .ok (.getfield 11, 3) := by decide +kernel
theorem dX5_firstUnpaired_6 : decode cX5_firstUnpaired 6 = .ok (.astore_n 2, 1) := by decide +kernel
theorem dX5_firstUnpaired_7 : decode cX5_firstUnpaired 7 = .ok (.aload_n 2, 1) := by decide +kernel
theorem dX5_firstUnpaired_8 : decode cX5_firstUnpaired 8 = .ok (.arraylength, 1) := by decide +kernel
theorem dX5_firstUnpaired_9 : decode cX5_firstUnpaired 9 = .ok (.istore_n 3, 1) := by decide +kernel
theorem dX5_firstUnpaired_10 : decode cX5_firstUnpaired 10 = .ok (.iconst 0, 1) := by decide +kernel
theorem dX5_firstUnpaired_11 : decode cX5_firstUnpaired 11 = .ok (.istore 4, 2) := by decide +kernel
theorem dX5_firstUnpaired_13 : decode cX5_firstUnpaired 13 = .ok (.iload 4, 2) := by decide +kernel
theorem dX5_firstUnpaired_15 : decode cX5_firstUnpaired 15 = .ok (.iload_n 3, 1) := by decide +kernel
theorem dX5_firstUnpaired_16 : decode cX5_firstUnpaired 16 = .ok (.if_icmp .ge 40, 3) := by decide +kernel
theorem dX5_firstUnpaired_19 : decode cX5_firstUnpaired 19 = .ok (.aload_n 2, 1) := by decide +kernel
theorem dX5_firstUnpaired_20 : decode cX5_firstUnpaired 20 = .ok (.iload 4, 2) := by decide +kernel
theorem dX5_firstUnpaired_22 : decode cX5_firstUnpaired 22 = .ok (.aaload, 1) := by decide +kernel
theorem dX5_firstUnpaired_23 : decode cX5_firstUnpaired 23 = .ok (.astore 5, 2) := by decide +kernel
theorem dX5_firstUnpaired_25 : decode cX5_firstUnpaired 25 = .ok (.aload 5, 2) := by decide +kernel
theorem dX5_firstUnpaired_27 : decode cX5_firstUnpaired 27 = .ok (.ifnull 23, 3) := by decide +kernel
theorem dX5_firstUnpaired_30 : decode cX5_firstUnpaired 30 = .ok (.aload 5, 2) := by decide +kernel
theorem dX5_firstUnpaired_32 : decode cX5_firstUnpaired 32 = .ok (.getfield 198, 3) := by decide +kernel
theorem dX5_firstUnpaired_35 : decode cX5_firstUnpaired 35 = .ok (.ifnonnull 15, 3) := by decide +kernel
theorem dX5_firstUnpaired_38 : decode cX5_firstUnpaired 38 = .ok (.aload 5, 2) := by decide +kernel
theorem dX5_firstUnpaired_40 : decode cX5_firstUnpaired 40 = .ok (.aload_n 1, 1) := by decide +kernel
theorem dX5_firstUnpaired_41 : decode cX5_firstUnpaired 41 = .ok (.invokevirtual 250, 3) := by decide +kernel
theorem dX5_firstUnpaired_44 : decode cX5_firstUnpaired 44 = .ok (.ifCond .eq 6, 3) := by decide +kernel
theorem dX5_firstUnpaired_47 : decode cX5_firstUnpaired 47 = .ok (.aload 5, 2) := by decide +kernel
theorem dX5_firstUnpaired_49 : decode cX5_firstUnpaired 49 = .ok (.astore_n 1, 1) := by decide +kernel
theorem dX5_firstUnpaired_50 : decode cX5_firstUnpaired 50 = .ok (.iinc 4 1, 3) := by decide +kernel
theorem dX5_firstUnpaired_53 : decode cX5_firstUnpaired 53 = .ok (.goto (-40), 3) := by decide +kernel
theorem dX5_firstUnpaired_56 : decode cX5_firstUnpaired 56 = .ok (.aload_n 1, 1) := by decide +kernel
theorem dX5_firstUnpaired_57 : decode cX5_firstUnpaired 57 = .ok (.areturn, 1) := by decide +kernel
theorem dX5_partnerFor_0 : decode cX5_partnerFor 0 = .ok (.aconst_null, 1) := by decide +kernel
