theorem dX5_partnerFor_1 : decode cX5_partnerFor 1 = .ok (.astore_n 2, 1) := by decide +kernel
theorem dX5_partnerFor_2 : decode cX5_partnerFor 2 = .ok (.aconst_null, 1) := by decide +kernel
theorem dX5_partnerFor_3 : decode cX5_partnerFor 3 = .ok (.astore_n 3, 1) := by decide +kernel
theorem dX5_partnerFor_4 : decode cX5_partnerFor 4 = .ok (.aload_n 0, 1) := by decide +kernel
theorem dX5_partnerFor_5 : decode cX5_partnerFor 5 = .ok (.getfield 11, 3) := by decide +kernel
theorem dX5_partnerFor_8 : decode cX5_partnerFor 8 = .ok (.astore 4, 2) := by decide +kernel
theorem dX5_partnerFor_10 : decode cX5_partnerFor 10 = .ok (.aload 4, 2) := by decide +kernel
theorem dX5_partnerFor_12 : decode cX5_partnerFor 12 = .ok (.arraylength, 1) := by decide +kernel
theorem dX5_partnerFor_13 : decode cX5_partnerFor 13 = .ok (.istore 5, 2) := by decide +kernel
theorem dX5_partnerFor_15 : decode cX5_partnerFor 15 = .ok (.iconst 0, 1) := by decide +kernel
theorem dX5_partnerFor_16 : decode cX5_partnerFor 16 = .ok (.istore 6, 2) := by decide +kernel
theorem dX5_partnerFor_18 : decode cX5_partnerFor 18 = .ok (.iload 6, 2) := by decide +kernel
theorem dX5_partnerFor_20 : decode cX5_partnerFor 20 = .ok (.iload 5, 2) := by decide +kernel
theorem dX5_partnerFor_22 : decode cX5_partnerFor 22 = .ok (.if_icmp .ge 71, 3) := by decide +kernel
theorem dX5_partnerFor_25 : decode cX5_partnerFor 25 = .ok (.aload 4, 2) := by decide +kernel
theorem dX5_partnerFor_27 : decode cX5_partnerFor 27 = .ok (.iload 6, 2) := by decide +kernel
theorem dX5_partnerFor_29 : decode cX5_partnerFor 29 = .ok (.aaload, 1) := by decide +kernel
theorem dX5_partnerFor_30 : decode cX5_partnerFor 30 = .ok (.astore 7, 2) := by decide +kernel
theorem dX5_partnerFor_32 : decode cX5_partnerFor 32 = .ok (.aload 7, 2) := by decide +kernel
theorem dX5_partnerFor_34 : decode cX5_partnerFor 34 = .ok (.ifnull 53, 3) := by decide +kernel
theorem dX5_partnerFor_37 : decode cX5_partnerFor 37 = .ok (.aload 7, 2) := by decide +kernel
theorem dX5_partnerFor_39 : decode cX5_partnerFor 39 = .ok (.aload_n 1, 1) := by decide +kernel
theorem dX5_partnerFor_40 : decode cX5_partnerFor 40 = .ok (.if_acmp .eq 47, 3) := by decide +kernel
theorem dX5_partnerFor_43 : decode cX5_partnerFor 43 = .ok (.aload 7, 2) := by decide +kernel
theorem dX5_partnerFor_45 : decode cX5_partnerFor 45 = .ok (.getfield 198, 3) := by decide +kernel
theorem dX5_partnerFor_48 : decode cX5_partnerFor 48 = .ok (.ifnull 6, 3) := by decide +kernel
theorem dX5_partnerFor_51 : decode cX5_partnerFor 51 = .ok (.goto 36, 3) := by decide +kernel
theorem dX5_partnerFor_54 : decode cX5_partnerFor 54 = .ok (.aload 7, 2) := by decide +kernel
theorem dX5_partnerFor_56 : decode cX5_partnerFor 56 = .ok (.aload_n 2, 1) := by decide +kernel
theorem dX5_partnerFor_57 : decode cX5_partnerFor 57 = .ok (.invokevirtual 250, 3) := by decide +kernel
theorem dX5_partnerFor_60 : decode cX5_partnerFor 60 = .ok (.ifCond .eq 6, 3) := by decide +kernel
theorem dX5_partnerFor_63 : decode cX5_partnerFor 63 = .ok (.aload 7, 2) := by decide +kernel
theorem dX5_partnerFor_65 : decode cX5_partnerFor 65 = .ok (.astore_n 2, 1) := by decide +kernel
theorem dX5_partnerFor_66 : decode cX5_partnerFor 66 = .ok (.aload_n 1, 1) := by decide +kernel
theorem dX5_partnerFor_67 : decode cX5_partnerFor 67 = .ok (.aload 7, 2) := by decide +kernel
theorem dX5_partnerFor_69 : decode cX5_partnerFor 69 = .ok (.invokevirtual 254, 3) := by decide +kernel
theorem dX5_partnerFor_72 : decode cX5_partnerFor 72 = .ok (.ifCond .ne 15, 3) := by decide +kernel
theorem dX5_partnerFor_75 : decode cX5_partnerFor 75 = .ok (.aload 7, 2) := by decide +kernel
theorem dX5_partnerFor_77 : decode cX5_partnerFor 77 = .ok (.aload_n 3, 1) := by decide +kernel
theorem dX5_partnerFor_78 : decode cX5_partnerFor 78 = .ok (.invokevirtual 250, 3) := by decide +kernel
theorem dX5_partnerFor_81 : decode cX5_partnerFor 81 = .ok (.ifCond .eq 6, 3) := by decide +kernel
theorem dX5_partnerFor_84 : decode cX5_partnerFor 84 = .ok (.aload 7, 2) := by decide +kernel
theorem dX5_partnerFor_86 : decode cX5_partnerFor 86 = .ok (.astore_n 3, 1) := by decide +kernel
theorem dX5_partnerFor_87 : decode cX5_partnerFor 87 = .ok (.iinc 6 1, 3) := by decide +kernel
theorem dX5_partnerFor_90 : decode cX5_partnerFor 90 = .ok (.goto (-72), 3) := by decide +kernel
theorem dX5_partnerFor_93 : decode cX5_partnerFor 93 = .ok (.aload_n 3, 1) := by decide +kernel
theorem dX5_partnerFor_94 : decode cX5_partnerFor 94 = .ok (.ifnonnull 7, 3) := by decide +kernel
theorem dX5_partnerFor_97 : decode cX5_partnerFor 97 = .ok (.aload_n 2, 1) := by decide +kernel
theorem dX5_partnerFor_98 : decode cX5_partnerFor 98 = .ok (.goto 4, 3) := by decide +kernel
theorem dX5_partnerFor_101 : decode cX5_partnerFor 101 = .ok (.aload_n 3, 1) := by decide +kernel
theorem dX5_partnerFor_102 : decode cX5_partnerFor 102 = .ok (.areturn, 1) := by decide +kernel
theorem dL_at_0 : decode cL_at 0 = .ok (.iload_n 1, 1) := by decide +kernel
theorem dL_at_1 : decode cL_at 1 = .ok (.aload_n 0, 1) := by decide +kernel
theorem dL_at_2 : decode cL_at 2 = .ok (.arraylength, 1) := by decide +kernel
theorem dL_at_3 : decode cL_at 3 = .ok (.if_icmp .ge 9, 3) := by decide +kernel
theorem dL_at_6 : decode cL_at 6 = .ok (.aload_n 0, 1) := by decide +kernel
theorem dL_at_7 : decode cL_at 7 = .ok (.iload_n 1, 1) := by decide +kernel
theorem dL_at_8 : decode cL_at 8 = .ok (.iaload, 1) := by decide +kernel
theorem dL_at_9 : decode cL_at 9 = .ok (.goto 12, 3) := by decide +kernel
theorem dL_at_12 : decode cL_at 12 = .ok (.ldc 7, 2) := by decide +kernel
theorem dL_at_14 : decode cL_at 14 = .ok (.iload_n 1, 1) := by decide +kernel
theorem dL_at_15 : decode cL_at 15 = .ok (.iconst 1, 1) := by decide +kernel
theorem dL_at_16 : decode cL_at 16 = .ok (.iadd, 1) := by decide +kernel
theorem dL_at_17 : decode cL_at 17 = .ok (.imul, 1) := by decide +kernel
theorem dL_at_18 : decode cL_at 18 = .ok (.ldc 8, 2) := by decide +kernel
theorem dL_at_20 : decode cL_at 20 = .ok (.iadd, 1) := by decide +kernel
theorem dL_at_21 : decode cL_at 21 = .ok (.ireturn, 1) := by decide +kernel
theorem dL_low_0 : decode cL_low 0 = .ok (.iload_n 0, 1) := by decide +kernel
theorem dL_low_1 : decode cL_low 1 = .ok (.ldc 9, 2) := by decide +kernel
theorem dL_low_3 : decode cL_low 3 = .ok (.iand, 1) := by decide +kernel
theorem dL_low_4 : decode cL_low 4 = .ok (.iload_n 1, 1) := by decide +kernel
theorem dL_low_5 : decode cL_low 5 = .ok (.irem, 1) := by decide +kernel
theorem dL_low_6 : decode cL_low 6 = .ok (.ireturn, 1) := by decide +kernel
theorem dL_after_0 : decode cL_after 0 = .ok (.aload_n 0, 1) := by decide +kernel
theorem dL_after_1 : decode cL_after 1 = .ok (.iload_n 1, 1) := by decide +kernel
theorem dL_after_2 : decode cL_after 2 = .ok (.iload_n 2, 1) := by decide +kernel
theorem dL_after_3 : decode cL_after 3 = .ok (.invokevirtual 10, 3) := by decide +kernel
theorem dL_after_6 : decode cL_after 6 = .ok (.ireturn, 1) := by decide +kernel
theorem dL_after_7 : decode cL_after 7 = .ok (.astore_n 3, 1) := by decide +kernel
theorem dL_after_8 : decode cL_after 8 = .ok (.ldc 18, 2) := by decide +kernel
theorem dL_after_10 : decode cL_after 10 = .ok (.ireturn, 1) := by decide +kernel
theorem dL_worth_0 : decode cL_worth 0 = .ok (.aload_n 0, 1) := by decide +kernel
theorem dL_worth_1 : decode cL_worth 1 = .ok (.iload_n 1, 1) := by decide +kernel
theorem dL_worth_2 : decode cL_worth 2 = .ok (.invokevirtual 19, 3) := by decide +kernel
theorem dL_worth_5 : decode cL_worth 5 = .ok (.ireturn, 1) := by decide +kernel
theorem dL_worth_6 : decode cL_worth 6 = .ok (.astore_n 2, 1) := by decide +kernel
theorem dL_worth_7 : decode cL_worth 7 = .ok (.ldc 18, 2) := by decide +kernel
theorem dL_worth_9 : decode cL_worth 9 = .ok (.ireturn, 1) := by decide +kernel
theorem dL_best_0 : decode cL_best 0 = .ok (.aload_n 0, 1) := by decide +kernel
theorem dL_best_1 : decode cL_best 1 = .ok (.iload_n 1, 1) := by decide +kernel
theorem dL_best_2 : decode cL_best 2 = .ok (.invokevirtual 23, 3) := by decide +kernel
theorem dL_best_5 : decode cL_best 5 = .ok (.ireturn, 1) := by decide +kernel
theorem dL_best_6 : decode cL_best 6 = .ok (.astore_n 2, 1) := by decide +kernel
theorem dL_best_7 : decode cL_best 7 = .ok (.ldc 18, 2) := by decide +kernel
theorem dL_best_9 : decode cL_best 9 = .ok (.ireturn, 1) := by decide +kernel
theorem dL_enter_0 : decode cL_enter 0 = .ok (.aload_n 0, 1) := by decide +kernel
theorem dL_enter_1 : decode cL_enter 1 = .ok (.invokevirtual 26, 3) := by decide +kernel
theorem dL_enter_4 : decode cL_enter 4 = .ok (.ireturn, 1) := by decide +kernel
theorem dL_enter_5 : decode cL_enter 5 = .ok (.astore_n 1, 1) := by decide +kernel
theorem dL_enter_6 : decode cL_enter 6 = .ok (.ldc 32, 2) := by decide +kernel
theorem dL_enter_8 : decode cL_enter 8 = .ok (.ireturn, 1) := by decide +kernel
theorem dL_begin_0 : decode cL_begin 0 = .ok (.aload_n 0, 1) := by decide +kernel
theorem dL_begin_1 : decode cL_begin 1 = .ok (.iload_n 1, 1) := by decide +kernel
theorem dL_begin_2 : decode cL_begin 2 = .ok (.iload_n 2, 1) := by decide +kernel
theorem dL_begin_3 : decode cL_begin 3 = .ok (.invokevirtual 33, 3) := by decide +kernel
theorem dL_begin_6 : decode cL_begin 6 = .ok (.ireturn, 1) := by decide +kernel
theorem dL_begin_7 : decode cL_begin 7 = .ok (.astore_n 3, 1) := by decide +kernel
theorem dL_begin_8 : decode cL_begin 8 = .ok (.ldc 38, 2) := by decide +kernel
theorem dL_begin_10 : decode cL_begin 10 = .ok (.ireturn, 1) := by decide +kernel
theorem dL_begin_11 : decode cL_begin 11 = .ok (.astore_n 3, 1) := by decide +kernel
theorem dL_begin_12 : decode cL_begin 12 = .ok (.ldc 18, 2) := by decide +kernel
theorem dL_begin_14 : decode cL_begin 14 = .ok (.ireturn, 1) := by decide +kernel
theorem dL_begin_15 : decode cL_begin 15 = .ok (.astore_n 3, 1) := by decide +kernel
theorem dL_begin_16 : decode cL_begin 16 = .ok (.ldc 32, 2) := by decide +kernel
theorem dL_begin_18 : decode cL_begin 18 = .ok (.ireturn, 1) := by decide +kernel
theorem dL_move_0 : decode cL_move 0 = .ok (.aload_n 0, 1) := by decide +kernel
theorem dL_move_1 : decode cL_move 1 = .ok (.iload_n 1, 1) := by decide +kernel
theorem dL_move_2 : decode cL_move 2 = .ok (.invokevirtual 39, 3) := by decide +kernel
theorem dL_move_5 : decode cL_move 5 = .ok (.ifCond .eq 7, 3) := by decide +kernel
theorem dL_move_8 : decode cL_move 8 = .ok (.iconst 1, 1) := by decide +kernel
theorem dL_move_9 : decode cL_move 9 = .ok (.goto 4, 3) := by decide +kernel
theorem dL_move_12 : decode cL_move 12 = .ok (.iconst 0, 1) := by decide +kernel
theorem dL_move_13 : decode cL_move 13 = .ok (.ireturn, 1) := by decide +kernel
theorem dL_move_14 : decode cL_move 14 = .ok (.astore_n 2, 1) := by decide +kernel
theorem dL_move_15 : decode cL_move 15 = .ok (.ldc 18, 2) := by decide +kernel
theorem dL_move_17 : decode cL_move 17 = .ok (.ireturn, 1) := by decide +kernel
theorem dL_move_18 : decode cL_move 18 = .ok (.astore_n 2, 1) := by decide +kernel
theorem dL_move_19 : decode cL_move 19 = .ok (.ldc 32, 2) := by decide +kernel
theorem dL_move_21 : decode cL_move 21 = .ok (.ireturn, 1) := by decide +kernel
theorem dL_end_0 : decode cL_end 0 = .ok (.aload_n 0, 1) := by decide +kernel
theorem dL_end_1 : decode cL_end 1 = .ok (.iload_n 1, 1) := by decide +kernel
theorem dL_end_2 : decode cL_end 2 = .ok (.invokevirtual 43, 3) := by decide +kernel
theorem dL_end_5 : decode cL_end 5 = .ok (.ireturn, 1) := by decide +kernel
theorem dL_end_6 : decode cL_end 6 = .ok (.astore_n 2, 1) := by decide +kernel
theorem dL_end_7 : decode cL_end 7 = .ok (.ldc 18, 2) := by decide +kernel
theorem dL_end_9 : decode cL_end 9 = .ok (.ireturn, 1) := by decide +kernel
theorem dL_end_10 : decode cL_end 10 = .ok (.astore_n 2, 1) := by decide +kernel
theorem dL_end_11 : decode cL_end 11 = .ok (.ldc 32, 2) := by decide +kernel
theorem dL_end_13 : decode cL_end 13 = .ok (.ireturn, 1) := by decide +kernel
theorem dL_score_0 : decode cL_score 0 = .ok (.aload_n 0, 1) := by decide +kernel
theorem dL_score_1 : decode cL_score 1 = .ok (.iload_n 1, 1) := by decide +kernel
theorem dL_score_2 : decode cL_score 2 = .ok (.invokevirtual 46, 3) := by decide +kernel
theorem dL_score_5 : decode cL_score 5 = .ok (.ireturn, 1) := by decide +kernel
theorem dL_score_6 : decode cL_score 6 = .ok (.astore_n 2, 1) := by decide +kernel
theorem dL_score_7 : decode cL_score 7 = .ok (.ldc 38, 2) := by decide +kernel
theorem dL_score_9 : decode cL_score 9 = .ok (.ireturn, 1) := by decide +kernel
theorem dL_puzzle_0 : decode cL_puzzle 0 = .ok (.aload_n 0, 1) := by decide +kernel
theorem dL_puzzle_1 : decode cL_puzzle 1 = .ok (.iload_n 1, 1) := by decide +kernel
theorem dL_puzzle_2 : decode cL_puzzle 2 = .ok (.invokevirtual 49, 3) := by decide +kernel
theorem dL_puzzle_5 : decode cL_puzzle 5 = .ok (.ireturn, 1) := by decide +kernel
theorem dL_puzzle_6 : decode cL_puzzle 6 = .ok (.astore_n 2, 1) := by decide +kernel
theorem dL_puzzle_7 : decode cL_puzzle 7 = .ok (.ldc 38, 2) := by decide +kernel
theorem dL_puzzle_9 : decode cL_puzzle 9 = .ok (.ireturn, 1) := by decide +kernel
theorem dL_source_0 : decode cL_source 0 = .ok (.aload_n 0, 1) := by decide +kernel
theorem dL_source_1 : decode cL_source 1 = .ok (.iload_n 1, 1) := by decide +kernel
theorem dL_source_2 : decode cL_source 2 = .ok (.invokevirtual 52, 3) := by decide +kernel
theorem dL_source_5 : decode cL_source 5 = .ok (.ireturn, 1) := by decide +kernel
theorem dL_source_6 : decode cL_source 6 = .ok (.astore_n 2, 1) := by decide +kernel
theorem dL_source_7 : decode cL_source 7 = .ok (.ldc 38, 2) := by decide +kernel
theorem dL_source_9 : decode cL_source 9 = .ok (.ireturn, 1) := by decide +kernel
theorem dL_solve_0 : decode cL_solve 0 = .ok (.aload_n 0, 1) := by decide +kernel
theorem dL_solve_1 : decode cL_solve 1 = .ok (.iload_n 1, 1) := by decide +kernel
theorem dL_solve_2 : decode cL_solve 2 = .ok (.iload_n 2, 1) := by decide +kernel
theorem dL_solve_3 : decode cL_solve 3 = .ok (.iload_n 3, 1) := by decide +kernel
theorem dL_solve_4 : decode cL_solve 4 = .ok (.invokevirtual 55, 3) := by decide +kernel
theorem dL_solve_7 : decode cL_solve 7 = .ok (.ifCond .eq 7, 3) := by decide +kernel
theorem dL_solve_10 : decode cL_solve 10 = .ok (.iconst 1, 1) := by decide +kernel
theorem dL_solve_11 : decode cL_solve 11 = .ok (.goto 4, 3) := by decide +kernel
theorem dL_solve_14 : decode cL_solve 14 = .ok (.iconst 0, 1) := by decide +kernel
theorem dL_solve_15 : decode cL_solve 15 = .ok (.ireturn, 1) := by decide +kernel
theorem dL_solve_16 : decode cL_solve 16 = .ok (.astore 4, 2) := by decide +kernel
theorem dL_solve_18 : decode cL_solve 18 = .ok (.ldc 38, 2) := by decide +kernel
theorem dL_solve_20 : decode cL_solve 20 = .ok (.ireturn, 1) := by decide +kernel
theorem dL_solve_21 : decode cL_solve 21 = .ok (.astore 4, 2) := by decide +kernel
theorem dL_solve_23 : decode cL_solve 23 = .ok (.ldc 18, 2) := by decide +kernel
theorem dL_solve_25 : decode cL_solve 25 = .ok (.ireturn, 1) := by decide +kernel
theorem dL_solve_26 : decode cL_solve 26 = .ok (.astore 4, 2) := by decide +kernel
theorem dL_solve_28 : decode cL_solve 28 = .ok (.ldc 32, 2) := by decide +kernel
theorem dL_solve_30 : decode cL_solve 30 = .ok (.ireturn, 1) := by decide +kernel
theorem dL_offered_0 : decode cL_offered 0 = .ok (.aload_n 0, 1) := by decide +kernel
theorem dL_offered_1 : decode cL_offered 1 = .ok (.iload_n 1, 1) := by decide +kernel
theorem dL_offered_2 : decode cL_offered 2 = .ok (.invokevirtual 59, 3) := by decide +kernel
theorem dL_offered_5 : decode cL_offered 5 = .ok (.ireturn, 1) := by decide +kernel
theorem dL_offered_6 : decode cL_offered 6 = .ok (.astore_n 2, 1) := by decide +kernel
theorem dL_offered_7 : decode cL_offered 7 = .ok (.ldc 38, 2) := by decide +kernel
theorem dL_offered_9 : decode cL_offered 9 = .ok (.ireturn, 1) := by decide +kernel
theorem dL_rating_0 : decode cL_rating 0 = .ok (.aload_n 0, 1) := by decide +kernel
theorem dL_rating_1 : decode cL_rating 1 = .ok (.iload_n 1, 1) := by decide +kernel
theorem dL_rating_2 : decode cL_rating 2 = .ok (.iload_n 2, 1) := by decide +kernel
theorem dL_rating_3 : decode cL_rating 3 = .ok (.invokevirtual 62, 3) := by decide +kernel
theorem dL_rating_6 : decode cL_rating 6 = .ok (.ireturn, 1) := by decide +kernel
theorem dL_rating_7 : decode cL_rating 7 = .ok (.astore_n 3, 1) := by decide +kernel
theorem dL_rating_8 : decode cL_rating 8 = .ok (.ldc 38, 2) := by decide +kernel
theorem dL_rating_10 : decode cL_rating 10 = .ok (.ireturn, 1) := by decide +kernel
theorem dL_rating_11 : decode cL_rating 11 = .ok (.astore_n 3, 1) := by decide +kernel
theorem dL_rating_12 : decode cL_rating 12 = .ok (.ldc 18, 2) := by decide +kernel
theorem dL_rating_14 : decode cL_rating 14 = .ok (.ireturn, 1) := by decide +kernel
theorem dL_results_0 : decode cL_results 0 = .ok (.aload_n 0, 1) := by decide +kernel
theorem dL_results_1 : decode cL_results 1 = .ok (.iload_n 1, 1) := by decide +kernel
theorem dL_results_2 : decode cL_results 2 = .ok (.iload_n 2, 1) := by decide +kernel
theorem dL_results_3 : decode cL_results 3 = .ok (.invokevirtual 65, 3) := by decide +kernel
theorem dL_results_6 : decode cL_results 6 = .ok (.ireturn, 1) := by decide +kernel
theorem dL_results_7 : decode cL_results 7 = .ok (.astore_n 3, 1) := by decide +kernel
theorem dL_results_8 : decode cL_results 8 = .ok (.ldc 18, 2) := by decide +kernel
theorem dL_results_10 : decode cL_results 10 = .ok (.ireturn, 1) := by decide +kernel
theorem dL_points_0 : decode cL_points 0 = .ok (.aload_n 0, 1) := by decide +kernel
theorem dL_points_1 : decode cL_points 1 = .ok (.iload_n 1, 1) := by decide +kernel
theorem dL_points_2 : decode cL_points 2 = .ok (.iload_n 2, 1) := by decide +kernel
theorem dL_points_3 : decode cL_points 3 = .ok (.invokevirtual 68, 3) := by decide +kernel
theorem dL_points_6 : decode cL_points 6 = .ok (.ireturn, 1) := by decide +kernel
theorem dL_points_7 : decode cL_points 7 = .ok (.astore_n 3, 1) := by decide +kernel
theorem dL_points_8 : decode cL_points 8 = .ok (.ldc 18, 2) := by decide +kernel
theorem dL_points_10 : decode cL_points 10 = .ok (.ireturn, 1) := by decide +kernel
theorem dL_isDropped_0 : decode cL_isDropped 0 = .ok (.aload_n 0, 1) := by decide +kernel
theorem dL_isDropped_1 : decode cL_isDropped 1 = .ok (.iload_n 1, 1) := by decide +kernel
theorem dL_isDropped_2 : decode cL_isDropped 2 = .ok (.iload_n 2, 1) := by decide +kernel
theorem dL_isDropped_3 : decode cL_isDropped 3 = .ok (.invokevirtual 71, 3) := by decide +kernel
theorem dL_isDropped_6 : decode cL_isDropped 6 = .ok (.ifCond .eq 7, 3) := by decide +kernel
theorem dL_isDropped_9 : decode cL_isDropped 9 = .ok (.iconst 1, 1) := by decide +kernel
theorem dL_isDropped_10 : decode cL_isDropped 10 = .ok (.goto 4, 3) := by decide +kernel
theorem dL_isDropped_13 : decode cL_isDropped 13 = .ok (.iconst 0, 1) := by decide +kernel
theorem dL_isDropped_14 : decode cL_isDropped 14 = .ok (.ireturn, 1) := by decide +kernel
theorem dL_isDropped_15 : decode cL_isDropped 15 = .ok (.astore_n 3, 1) := by decide +kernel
theorem dL_isDropped_16 : decode cL_isDropped 16 = .ok (.ldc 18, 2) := by decide +kernel
theorem dL_isDropped_18 : decode cL_isDropped 18 = .ok (.ireturn, 1) := by decide +kernel
theorem dL_pointsOfGames_0 : decode cL_pointsOfGames 0 = .ok (.aload_n 0, 1) := by decide +kernel
theorem dL_pointsOfGames_1 : decode cL_pointsOfGames 1 = .ok (.iload_n 1, 1) := by decide +kernel
theorem dL_pointsOfGames_2 : decode cL_pointsOfGames 2 = .ok (.iload_n 2, 1) := by decide +kernel
theorem dL_pointsOfGames_3 : decode cL_pointsOfGames 3 = .ok (.invokevirtual 75, 3) := by decide +kernel
theorem dL_pointsOfGames_6 : decode cL_pointsOfGames 6 = .ok (.ireturn, 1) := by decide +kernel
theorem dL_pointsOfGames_7 : decode cL_pointsOfGames 7 = .ok (.astore_n 3, 1) := by decide +kernel
theorem dL_pointsOfGames_8 : decode cL_pointsOfGames 8 = .ok (.ldc 18, 2) := by decide +kernel
theorem dL_pointsOfGames_10 : decode cL_pointsOfGames 10 = .ok (.ireturn, 1) := by decide +kernel
theorem dL_mean_0 : decode cL_mean 0 = .ok (.aload_n 0, 1) := by decide +kernel
theorem dL_mean_1 : decode cL_mean 1 = .ok (.iload_n 1, 1) := by decide +kernel
theorem dL_mean_2 : decode cL_mean 2 = .ok (.iload_n 2, 1) := by decide +kernel
theorem dL_mean_3 : decode cL_mean 3 = .ok (.invokevirtual 78, 3) := by decide +kernel
theorem dL_mean_6 : decode cL_mean 6 = .ok (.freturn, 1) := by decide +kernel
theorem dL_mean_7 : decode cL_mean 7 = .ok (.astore_n 3, 1) := by decide +kernel
theorem dL_mean_8 : decode cL_mean 8 = .ok (.ldc 82, 2) := by decide +kernel
theorem dL_mean_10 : decode cL_mean 10 = .ok (.freturn, 1) := by decide +kernel
theorem dL_opponent_0 : decode cL_opponent 0 = .ok (.aload_n 0, 1) := by decide +kernel
theorem dL_opponent_1 : decode cL_opponent 1 = .ok (.iload_n 1, 1) := by decide +kernel
theorem dL_opponent_2 : decode cL_opponent 2 = .ok (.invokevirtual 83, 3) := by decide +kernel
theorem dL_opponent_5 : decode cL_opponent 5 = .ok (.ireturn, 1) := by decide +kernel
theorem dL_opponent_6 : decode cL_opponent 6 = .ok (.astore_n 2, 1) := by decide +kernel
theorem dL_opponent_7 : decode cL_opponent 7 = .ok (.ldc 38, 2) := by decide +kernel
theorem dL_opponent_9 : decode cL_opponent 9 = .ok (.ireturn, 1) := by decide +kernel
theorem dL_hasWhite_0 : decode cL_hasWhite 0 = .ok (.aload_n 0, 1) := by decide +kernel
theorem dL_hasWhite_1 : decode cL_hasWhite 1 = .ok (.iload_n 1, 1) := by decide +kernel
theorem dL_hasWhite_2 : decode cL_hasWhite 2 = .ok (.invokevirtual 86, 3) := by decide +kernel
theorem dL_hasWhite_5 : decode cL_hasWhite 5 = .ok (.ifCond .eq 7, 3) := by decide +kernel
theorem dL_hasWhite_8 : decode cL_hasWhite 8 = .ok (.iconst 1, 1) := by decide +kernel
theorem dL_hasWhite_9 : decode cL_hasWhite 9 = .ok (.goto 4, 3) := by decide +kernel
theorem dL_hasWhite_12 : decode cL_hasWhite 12 = .ok (.iconst 0, 1) := by decide +kernel
theorem dL_hasWhite_13 : decode cL_hasWhite 13 = .ok (.ireturn, 1) := by decide +kernel
theorem dL_hasWhite_14 : decode cL_hasWhite 14 = .ok (.astore_n 2, 1) := by decide +kernel
theorem dL_hasWhite_15 : decode cL_hasWhite 15 = .ok (.ldc 38, 2) := by decide +kernel
theorem dL_hasWhite_17 : decode cL_hasWhite 17 = .ok (.ireturn, 1) := by decide +kernel
theorem dL_hasWhite_18 : decode cL_hasWhite 18 = .ok (.astore_n 2, 1) := by decide +kernel
theorem dL_hasWhite_19 : decode cL_hasWhite 19 = .ok (.ldc 32, 2) := by decide +kernel
theorem dL_hasWhite_21 : decode cL_hasWhite 21 = .ok (.ireturn, 1) := by decide +kernel
