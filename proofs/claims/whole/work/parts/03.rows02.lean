theorem dX5_partnerFor_1 : decode cX5_partnerFor 1 = .ok (.astore_n 2, 1) := by decide +kernel
theorem dX5_partnerFor_2 : decode cX5_partnerFor 2 = .ok (.aconst_null, 1) := by decide +kernel
theorem dX5_partnerFor_3 : decode cX5_partnerFor 3 = .ok (.astore_n 3, 1) := by decide +kernel
theorem dX5_partnerFor_4 : decode cX5_partnerFor 4 = .ok (.aload_n 0, 1) := by decide +kernel
theorem dX5_partnerFor_5 : decode cX5_partnerFor 5 = .ok (.getfield 11, 3) := by decide +kernel
theorem dX5_partnerFor_8 : decode cX5_partnerFor 8 = .ok (.astore 4, 2) := by decide +kernel
theorem dX5_partnerFor_10 : decode cX5_partnerFor 10 = .ok (.aload 4, 2) := by decide +kernel
theorem dX5_partnerFor_12 : decode cX5_partnerFor 12 = .ok (.arraylength, 1) := by decide +kernel
theorem dX5_partnerFor_13 : decode cX5_partnerFor 13 = .ok (.istore 5, 2) := by decide +kernel
theorem dX5_partnerFor_15 : decode cX5_partnerFor 15 = .ok (.iconst 0, 1) := by decide +kernel
theorem dX5_partnerFor_16 : decode cX5_partnerFor 16 = .ok (.istore 6, 2) := by decide +kernel
theorem dX5_partnerFor_18 : decode cX5_partnerFor 18 = .ok (.iload 6, 2) := by decide +kernel
theorem dX5_partnerFor_20 : decode cX5_partnerFor 20 = .ok (.iload 5, 2) := by decide +kernel
theorem dX5_partnerFor_22 : decode cX5_partnerFor 22 = .ok (.if_icmp .ge 71, 3) := by decide +kernel
theorem dX5_partnerFor_25 : decode cX5_partnerFor 25 = .ok (.aload 4, 2) := by decide +kernel
theorem dX5_partnerFor_27 : decode cX5_partnerFor 27 = .ok (.iload 6, 2) := by decide +kernel
theorem dX5_partnerFor_29 : decode cX5_partnerFor 29 = .ok (.aaload, 1) := by decide +kernel
theorem dX5_partnerFor_30 : decode cX5_partnerFor 30 = .ok (.astore 7, 2) := by decide +kernel
theorem dX5_partnerFor_32 : decode cX5_partnerFor 32 = .ok (.aload 7, 2) := by decide +kernel
theorem dX5_partnerFor_34 : decode cX5_partnerFor 34 = .ok (.ifnull 53, 3) := by decide +kernel
theorem dX5_partnerFor_37 : decode cX5_partnerFor 37 = .ok (.aload 7, 2) := by decide +kernel
theorem dX5_partnerFor_39 : decode cX5_partnerFor 39 = .ok (.aload_n 1, 1) := by decide +kernel
theorem dX5_partnerFor_40 : decode cX5_partnerFor 40 = .ok (.if_acmp .eq 47, 3) := by decide +kernel
theorem dX5_partnerFor_43 : decode cX5_partnerFor 43 = .ok (.aload 7, 2) := by decide +kernel
theorem dX5_partnerFor_45 : decode cX5_partnerFor 45 = .ok (.getfield 198, 3) := by decide +kernel
theorem dX5_partnerFor_48 : decode cX5_partnerFor 48 = .ok (.ifnull 6, 3) := by decide +kernel
theorem dX5_partnerFor_51 : decode cX5_partnerFor 51 = .ok (.goto 36, 3) := by decide +kernel
theorem dX5_partnerFor_54 : decode cX5_partnerFor 54 = .ok (.aload 7, 2) := by decide +kernel
theorem dX5_partnerFor_56 : decode cX5_partnerFor 56 = .ok (.aload_n 2, 1) := by decide +kernel
theorem dX5_partnerFor_57 : decode cX5_partnerFor 57 = .ok (.invokevirtual 250, 3) := by decide +kernel
theorem dX5_partnerFor_60 : decode cX5_partnerFor 60 = .ok (.ifCond .eq 6, 3) := by decide +kernel
theorem dX5_partnerFor_63 : decode cX5_partnerFor 63 = .ok (.aload 7, 2) := by decide +kernel
theorem dX5_partnerFor_65 : decode cX5_partnerFor 65 = .ok (.astore_n 2, 1) := by decide +kernel
theorem dX5_partnerFor_66 : decode cX5_partnerFor 66 = .ok (.aload_n 1, 1) := by decide +kernel
theorem dX5_partnerFor_67 : decode cX5_partnerFor 67 = .ok (.aload 7, 2) := by decide +kernel
theorem dX5_partnerFor_69 : decode cX5_partnerFor 69 = .ok (.invokevirtual 254, 3) := by decide +kernel
theorem dX5_partnerFor_72 : decode cX5_partnerFor 72 = .ok (.ifCond .ne 15, 3) := by decide +kernel
theorem dX5_partnerFor_75 : decode cX5_partnerFor 75 = .ok (.aload 7, 2) := by decide +kernel
theorem dX5_partnerFor_77 : decode cX5_partnerFor 77 = .ok (.aload_n 3, 1) := by decide +kernel
theorem dX5_partnerFor_78 : decode cX5_partnerFor 78 = .ok (.invokevirtual 250, 3) := by decide +kernel
theorem dX5_partnerFor_81 : decode cX5_partnerFor 81 = .ok (.ifCond .eq 6, 3) := by decide +kernel
theorem dX5_partnerFor_84 : decode cX5_partnerFor 84 = .ok (.aload 7, 2) := by decide +kernel
theorem dX5_partnerFor_86 : decode cX5_partnerFor 86 = .ok (.astore_n 3, 1) := by decide +kernel
theorem dX5_partnerFor_87 : decode cX5_partnerFor 87 = .ok (.iinc 6 1, 3) := by decide +kernel
theorem dX5_partnerFor_90 : decode cX5_partnerFor 90 = .ok (.goto (-72), 3) := by decide +kernel
theorem dX5_partnerFor_93 : decode cX5_partnerFor 93 = .ok (.aload_n 3, 1) := by decide +kernel
theorem dX5_partnerFor_94 : decode cX5_partnerFor 94 = .ok (.ifnonnull 7, 3) := by decide +kernel
theorem dX5_partnerFor_97 : decode cX5_partnerFor 97 = .ok (.aload_n 2, 1) := by decide +kernel
theorem dX5_partnerFor_98 : decode cX5_partnerFor 98 = .ok (.goto 4, 3) := by decide +kernel
theorem dX5_partnerFor_101 : decode cX5_partnerFor 101 = .ok (.aload_n 3, 1) := by decide +kernel
theorem dX5_partnerFor_102 : decode cX5_partnerFor 102 = .ok (.areturn, 1) := by decide +kernel
theorem dX6_init_0 : decode cX6_init 0 = .ok (.aload_n 0, 1) := by decide +kernel
theorem dX6_init_1 : decode cX6_init 1 = .ok (.invokespecial 1, 3) := by decide +kernel
theorem dX6_init_4 : decode cX6_init 4 = .ok (.aload_n 0, 1) := by decide +kernel
theorem dX6_init_5 : decode cX6_init 5 = .ok (.bipush 8, 2) := by decide +kernel
theorem dX6_init_7 : decode cX6_init 7 = .ok (.newarray .int, 2) := by decide +kernel
theorem dX6_init_9 : decode cX6_init 9 = .ok (.putfield 7, 3) := by decide +kernel
theorem dX6_init_12 : decode cX6_init 12 = .ok (.aload_n 0, 1) := by decide +kernel
theorem dX6_init_13 : decode cX6_init 13 = .ok (.bipush 8, 2) := by decide +kernel
theorem dX6_init_15 : decode cX6_init 15 = .ok (.newarray .int, 2) := by decide +kernel
theorem dX6_init_17 : decode cX6_init 17 = .ok (.putfield 13, 3) := by decide +kernel
theorem dX6_init_20 : decode cX6_init 20 = .ok (.aload_n 0, 1) := by decide +kernel
theorem dX6_init_21 : decode cX6_init 21 = .ok (.bipush 40, 2) := by decide +kernel
theorem dX6_init_23 : decode cX6_init 23 = .ok (.newarray .int, 2) := by decide +kernel
theorem dX6_init_25 : decode cX6_init 25 = .ok (.putfield 16, 3) := by decide +kernel
theorem dX6_init_28 : decode cX6_init 28 = .ok (.aload_n 0, 1) := by decide +kernel
theorem dX6_init_29 : decode cX6_init 29 = .ok (.sipush 320, 3) := by decide +kernel
theorem dX6_init_32 : decode cX6_init 32 = .ok (.newarray .boolean, 2) := by decide +kernel
theorem dX6_init_34 : decode cX6_init 34 = .ok (.putfield 19, 3) := by decide +kernel
theorem dX6_init_37 : decode cX6_init 37 = .ok (.aload_n 0, 1) := by decide +kernel
theorem dX6_init_38 : decode cX6_init 38 = .ok (.bipush 60, 2) := by decide +kernel
theorem dX6_init_40 : decode cX6_init 40 = .ok (.newarray .int, 2) := by decide +kernel
theorem dX6_init_42 : decode cX6_init 42 = .ok (.putfield 23, 3) := by decide +kernel
theorem dX6_init_45 : decode cX6_init 45 = .ok (.aload_n 0, 1) := by decide +kernel
theorem dX6_init_46 : decode cX6_init 46 = .ok (.bipush 60, 2) := by decide +kernel
theorem dX6_init_48 : decode cX6_init 48 = .ok (.newarray .int, 2) := by decide +kernel
theorem dX6_init_50 : decode cX6_init 50 = .ok (.putfield 26, 3) := by decide +kernel
theorem dX6_init_53 : decode cX6_init 53 = .ok (.aload_n 0, 1) := by decide +kernel
theorem dX6_init_54 : decode cX6_init 54 = .ok (.bipush 60, 2) := by decide +kernel
theorem dX6_init_56 : decode cX6_init 56 = .ok (.newarray .int, 2) := by decide +kernel
theorem dX6_init_58 : decode cX6_init 58 = .ok (.putfield 29, 3) := by decide +kernel
theorem dX6_init_61 : decode cX6_init 61 = .ok (.aload_n 0, 1) := by decide +kernel
theorem dX6_init_62 : decode cX6_init 62 = .ok (.bipush 60, 2) := by decide +kernel
theorem dX6_init_64 : decode cX6_init 64 = .ok (.newarray .int, 2) := by decide +kernel
theorem dX6_init_66 : decode cX6_init 66 = .ok (.putfield 32, 3) := by decide +kernel
theorem dX6_init_69 : decode cX6_init 69 = .ok (.aload_n 0, 1) := by decide +kernel
theorem dX6_init_70 : decode cX6_init 70 = .ok (.sipush 720, 3) := by decide +kernel
theorem dX6_init_73 : decode cX6_init 73 = .ok (.newarray .int, 2) := by decide +kernel
theorem dX6_init_75 : decode cX6_init 75 = .ok (.putfield 35, 3) := by decide +kernel
theorem dX6_init_78 : decode cX6_init 78 = .ok (.aload_n 0, 1) := by decide +kernel
theorem dX6_init_79 : decode cX6_init 79 = .ok (.bipush 40, 2) := by decide +kernel
theorem dX6_init_81 : decode cX6_init 81 = .ok (.newarray .int, 2) := by decide +kernel
theorem dX6_init_83 : decode cX6_init 83 = .ok (.putfield 38, 3) := by decide +kernel
theorem dX6_init_86 : decode cX6_init 86 = .ok (.aload_n 0, 1) := by decide +kernel
theorem dX6_init_87 : decode cX6_init 87 = .ok (.bipush 40, 2) := by decide +kernel
theorem dX6_init_89 : decode cX6_init 89 = .ok (.newarray .int, 2) := by decide +kernel
theorem dX6_init_91 : decode cX6_init 91 = .ok (.putfield 41, 3) := by decide +kernel
theorem dX6_init_94 : decode cX6_init 94 = .ok (.aload_n 0, 1) := by decide +kernel
theorem dX6_init_95 : decode cX6_init 95 = .ok (.sipush 5460, 3) := by decide +kernel
theorem dX6_init_98 : decode cX6_init 98 = .ok (.newarray .int, 2) := by decide +kernel
theorem dX6_init_100 : decode cX6_init 100 = .ok (.putfield 44, 3) := by decide +kernel
theorem dX6_init_103 : decode cX6_init 103 = .ok (.aload_n 0, 1) := by decide +kernel
theorem dX6_init_104 : decode cX6_init 104 = .ok (.sipush 5460, 3) := by decide +kernel
theorem dX6_init_107 : decode cX6_init 107 = .ok (.newarray .int, 2) := by decide +kernel
theorem dX6_init_109 : decode cX6_init 109 = .ok (.putfield 47, 3) := by decide +kernel
theorem dX6_init_112 : decode cX6_init 112 = .ok (.aload_n 0, 1) := by decide +kernel
theorem dX6_init_113 : decode cX6_init 113 = .ok (.sipush 5460, 3) := by decide +kernel
theorem dX6_init_116 : decode cX6_init 116 = .ok (.newarray .boolean, 2) := by decide +kernel
theorem dX6_init_118 : decode cX6_init 118 = .ok (.putfield 50, 3) := by decide +kernel
theorem dX6_init_121 : decode cX6_init 121 = .ok (.aload_n 0, 1) := by decide +kernel
theorem dX6_init_122 : decode cX6_init 122 = .ok (.bipush 8, 2) := by decide +kernel
theorem dX6_init_124 : decode cX6_init 124 = .ok (.newarray .int, 2) := by decide +kernel
theorem dX6_init_126 : decode cX6_init 126 = .ok (.putfield 53, 3) := by decide +kernel
theorem dX6_init_129 : decode cX6_init 129 = .ok (.aload_n 0, 1) := by decide +kernel
theorem dX6_init_130 : decode cX6_init 130 = .ok (.bipush 8, 2) := by decide +kernel
theorem dX6_init_132 : decode cX6_init 132 = .ok (.newarray .int, 2) := by decide +kernel
theorem dX6_init_134 : decode cX6_init 134 = .ok (.putfield 56, 3) := by decide +kernel
theorem dX6_init_137 : decode cX6_init 137 = .ok (.return_, 1) := by decide +kernel
theorem dX6_thrown_0 : decode cX6_thrown 0 = .ok (.aload_n 0, 1) := by decide +kernel
theorem dX6_thrown_1 : decode cX6_thrown 1 = .ok (.getfield 59, 3) := by decide +kernel
theorem dX6_thrown_4 : decode cX6_thrown 4 = .ok (.ireturn, 1) := by decide +kernel
theorem dX6_in_0 : decode cX6_in 0 = .ok (.iload_n 0, 1) := by decide +kernel
theorem dX6_in_1 : decode cX6_in 1 = .ok (.iload_n 1, 1) := by decide +kernel
theorem dX6_in_2 : decode cX6_in 2 = .ok (.if_icmp .lt 12, 3) := by decide +kernel
theorem dX6_in_5 : decode cX6_in 5 = .ok (.iload_n 0, 1) := by decide +kernel
theorem dX6_in_6 : decode cX6_in 6 = .ok (.iload_n 2, 1) := by decide +kernel
theorem dX6_in_7 : decode cX6_in 7 = .ok (.if_icmp .gt 7, 3) := by decide +kernel
theorem dX6_in_10 : decode cX6_in 10 = .ok (.iconst 1, 1) := by decide +kernel
theorem dX6_in_11 : decode cX6_in 11 = .ok (.goto 4, 3) := by decide +kernel
theorem dX6_in_14 : decode cX6_in 14 = .ok (.iconst 0, 1) := by decide +kernel
theorem dX6_in_15 : decode cX6_in 15 = .ok (.ireturn, 1) := by decide +kernel
theorem dX6_goes_0 : decode cX6_goes 0 = .ok (.aload_n 0, 1) := by decide +kernel
theorem dX6_goes_1 : decode cX6_goes 1 = .ok (.iload_n 1, 1) := by decide +kernel
theorem dX6_goes_2 : decode cX6_goes 2 = .ok (.ifCond .ne 7, 3) := by decide +kernel
theorem dX6_goes_5 : decode cX6_goes 5 = .ok (.iconst 1, 1) := by decide +kernel
theorem dX6_goes_6 : decode cX6_goes 6 = .ok (.goto 20, 3) := by decide +kernel
theorem dX6_goes_9 : decode cX6_goes 9 = .ok (.iload_n 2, 1) := by decide +kernel
theorem dX6_goes_10 : decode cX6_goes 10 = .ok (.ifCond .ne 7, 3) := by decide +kernel
theorem dX6_goes_13 : decode cX6_goes 13 = .ok (.iconst 2, 1) := by decide +kernel
theorem dX6_goes_14 : decode cX6_goes 14 = .ok (.goto 12, 3) := by decide +kernel
theorem dX6_goes_17 : decode cX6_goes 17 = .ok (.iload_n 3, 1) := by decide +kernel
theorem dX6_goes_18 : decode cX6_goes 18 = .ok (.ifCond .ne 7, 3) := by decide +kernel
theorem dX6_goes_21 : decode cX6_goes 21 = .ok (.iconst 3, 1) := by decide +kernel
theorem dX6_goes_22 : decode cX6_goes 22 = .ok (.goto 4, 3) := by decide +kernel
theorem dX6_goes_25 : decode cX6_goes 25 = .ok (.iconst 0, 1) := by decide +kernel
theorem dX6_goes_26 : decode cX6_goes 26 = .ok (.putfield 59, 3) := by decide +kernel
theorem dX6_goes_29 : decode cX6_goes 29 = .ok (.aload_n 0, 1) := by decide +kernel
theorem dX6_goes_30 : decode cX6_goes 30 = .ok (.getfield 59, 3) := by decide +kernel
theorem dX6_goes_33 : decode cX6_goes 33 = .ok (.ifCond .ne 7, 3) := by decide +kernel
theorem dX6_goes_36 : decode cX6_goes 36 = .ok (.iconst 1, 1) := by decide +kernel
theorem dX6_goes_37 : decode cX6_goes 37 = .ok (.goto 4, 3) := by decide +kernel
theorem dX6_goes_40 : decode cX6_goes 40 = .ok (.iconst 0, 1) := by decide +kernel
theorem dX6_goes_41 : decode cX6_goes 41 = .ok (.ireturn, 1) := by decide +kernel
theorem dX6_told_0 : decode cX6_told 0 = .ok (.aload_n 0, 1) := by decide +kernel
theorem dX6_told_1 : decode cX6_told 1 = .ok (.iconst 0, 1) := by decide +kernel
theorem dX6_told_2 : decode cX6_told 2 = .ok (.putfield 59, 3) := by decide +kernel
theorem dX6_told_5 : decode cX6_told 5 = .ok (.iload_n 1, 1) := by decide +kernel
theorem dX6_told_6 : decode cX6_told 6 = .ok (.ireturn, 1) := by decide +kernel
theorem dX6_isPosition_0 : decode cX6_isPosition 0 = .ok (.iload_n 0, 1) := by decide +kernel
theorem dX6_isPosition_1 : decode cX6_isPosition 1 = .ok (.iconst 0, 1) := by decide +kernel
theorem dX6_isPosition_2 : decode cX6_isPosition 2 = .ok (.sipush 999, 3) := by decide +kernel
theorem dX6_isPosition_5 : decode cX6_isPosition 5 = .ok (.invokestatic 63, 3) := by decide +kernel
theorem dX6_isPosition_8 : decode cX6_isPosition 8 = .ok (.ireturn, 1) := by decide +kernel
theorem dX6_isMove_0 : decode cX6_isMove 0 = .ok (.iload_n 0, 1) := by decide +kernel
theorem dX6_isMove_1 : decode cX6_isMove 1 = .ok (.iconst 0, 1) := by decide +kernel
theorem dX6_isMove_2 : decode cX6_isMove 2 = .ok (.iconst 3, 1) := by decide +kernel
theorem dX6_isMove_3 : decode cX6_isMove 3 = .ok (.invokestatic 63, 3) := by decide +kernel
theorem dX6_isMove_6 : decode cX6_isMove 6 = .ok (.ireturn, 1) := by decide +kernel
theorem dX6_isPlayer_0 : decode cX6_isPlayer 0 = .ok (.iload_n 1, 1) := by decide +kernel
theorem dX6_isPlayer_1 : decode cX6_isPlayer 1 = .ok (.iconst 0, 1) := by decide +kernel
theorem dX6_isPlayer_2 : decode cX6_isPlayer 2 = .ok (.aload_n 0, 1) := by decide +kernel
theorem dX6_isPlayer_3 : decode cX6_isPlayer 3 = .ok (.getfield 67, 3) := by decide +kernel
theorem dX6_isPlayer_6 : decode cX6_isPlayer 6 = .ok (.iconst 1, 1) := by decide +kernel
theorem dX6_isPlayer_7 : decode cX6_isPlayer 7 = .ok (.isub, 1) := by decide +kernel
theorem dX6_isPlayer_8 : decode cX6_isPlayer 8 = .ok (.invokestatic 63, 3) := by decide +kernel
theorem dX6_isPlayer_11 : decode cX6_isPlayer 11 = .ok (.ireturn, 1) := by decide +kernel
theorem dX6_isPuzzle_0 : decode cX6_isPuzzle 0 = .ok (.iload_n 1, 1) := by decide +kernel
theorem dX6_isPuzzle_1 : decode cX6_isPuzzle 1 = .ok (.iconst 0, 1) := by decide +kernel
theorem dX6_isPuzzle_2 : decode cX6_isPuzzle 2 = .ok (.aload_n 0, 1) := by decide +kernel
theorem dX6_isPuzzle_3 : decode cX6_isPuzzle 3 = .ok (.getfield 70, 3) := by decide +kernel
theorem dX6_isPuzzle_6 : decode cX6_isPuzzle 6 = .ok (.iconst 1, 1) := by decide +kernel
theorem dX6_isPuzzle_7 : decode cX6_isPuzzle 7 = .ok (.isub, 1) := by decide +kernel
theorem dX6_isPuzzle_8 : decode cX6_isPuzzle 8 = .ok (.invokestatic 63, 3) := by decide +kernel
theorem dX6_isPuzzle_11 : decode cX6_isPuzzle 11 = .ok (.ireturn, 1) := by decide +kernel
theorem dX6_next_0 : decode cX6_next 0 = .ok (.bipush 7, 2) := by decide +kernel
theorem dX6_next_2 : decode cX6_next 2 = .ok (.iload_n 0, 1) := by decide +kernel
theorem dX6_next_3 : decode cX6_next 3 = .ok (.imul, 1) := by decide +kernel
theorem dX6_next_4 : decode cX6_next 4 = .ok (.bipush 13, 2) := by decide +kernel
theorem dX6_next_6 : decode cX6_next 6 = .ok (.iload_n 1, 1) := by decide +kernel
theorem dX6_next_7 : decode cX6_next 7 = .ok (.imul, 1) := by decide +kernel
theorem dX6_next_8 : decode cX6_next 8 = .ok (.iadd, 1) := by decide +kernel
theorem dX6_next_9 : decode cX6_next 9 = .ok (.iconst 5, 1) := by decide +kernel
theorem dX6_next_10 : decode cX6_next 10 = .ok (.iadd, 1) := by decide +kernel
theorem dX6_next_11 : decode cX6_next 11 = .ok (.sipush 1000, 3) := by decide +kernel
theorem dX6_next_14 : decode cX6_next 14 = .ok (.irem, 1) := by decide +kernel
theorem dX6_next_15 : decode cX6_next 15 = .ok (.ireturn, 1) := by decide +kernel
theorem dX6_worthOf_0 : decode cX6_worthOf 0 = .ok (.iload_n 0, 1) := by decide +kernel
theorem dX6_worthOf_1 : decode cX6_worthOf 1 = .ok (.bipush 37, 2) := by decide +kernel
theorem dX6_worthOf_3 : decode cX6_worthOf 3 = .ok (.imul, 1) := by decide +kernel
theorem dX6_worthOf_4 : decode cX6_worthOf 4 = .ok (.bipush 101, 2) := by decide +kernel
theorem dX6_worthOf_6 : decode cX6_worthOf 6 = .ok (.irem, 1) := by decide +kernel
theorem dX6_worthOf_7 : decode cX6_worthOf 7 = .ok (.bipush 50, 2) := by decide +kernel
theorem dX6_worthOf_9 : decode cX6_worthOf 9 = .ok (.isub, 1) := by decide +kernel
theorem dX6_worthOf_10 : decode cX6_worthOf 10 = .ok (.ireturn, 1) := by decide +kernel
theorem dX6_bestIn_0 : decode cX6_bestIn 0 = .ok (.iconst 0, 1) := by decide +kernel
theorem dX6_bestIn_1 : decode cX6_bestIn 1 = .ok (.istore_n 1, 1) := by decide +kernel
theorem dX6_bestIn_2 : decode cX6_bestIn 2 = .ok (.iconst 1, 1) := by decide +kernel
theorem dX6_bestIn_3 : decode cX6_bestIn 3 = .ok (.istore_n 2, 1) := by decide +kernel
theorem dX6_bestIn_4 : decode cX6_bestIn 4 = .ok (.iload_n 2, 1) := by decide +kernel
theorem dX6_bestIn_5 : decode cX6_bestIn 5 = .ok (.iconst 4, 1) := by decide +kernel
theorem dX6_bestIn_6 : decode cX6_bestIn 6 = .ok (.if_icmp .ge 34, 3) := by decide +kernel
theorem dX6_bestIn_9 : decode cX6_bestIn 9 = .ok (.iload_n 0, 1) := by decide +kernel
theorem dX6_bestIn_10 : decode cX6_bestIn 10 = .ok (.iload_n 2, 1) := by decide +kernel
theorem dX6_bestIn_11 : decode cX6_bestIn 11 = .ok (.invokestatic 73, 3) := by decide +kernel
theorem dX6_bestIn_14 : decode cX6_bestIn 14 = .ok (.invokestatic 77, 3) := by decide +kernel
theorem dX6_bestIn_17 : decode cX6_bestIn 17 = .ok (.iload_n 0, 1) := by decide +kernel
theorem dX6_bestIn_18 : decode cX6_bestIn 18 = .ok (.iload_n 1, 1) := by decide +kernel
theorem dX6_bestIn_19 : decode cX6_bestIn 19 = .ok (.invokestatic 73, 3) := by decide +kernel
theorem dX6_bestIn_22 : decode cX6_bestIn 22 = .ok (.invokestatic 77, 3) := by decide +kernel
theorem dX6_bestIn_25 : decode cX6_bestIn 25 = .ok (.if_icmp .le 7, 3) := by decide +kernel
theorem dX6_bestIn_28 : decode cX6_bestIn 28 = .ok (.iload_n 2, 1) := by decide +kernel
theorem dX6_bestIn_29 : decode cX6_bestIn 29 = .ok (.goto 4, 3) := by decide +kernel
theorem dX6_bestIn_32 : decode cX6_bestIn 32 = .ok (.iload_n 1, 1) := by decide +kernel
theorem dX6_bestIn_33 : decode cX6_bestIn 33 = .ok (.istore_n 1, 1) := by decide +kernel
theorem dX6_bestIn_34 : decode cX6_bestIn 34 = .ok (.iinc 2 1, 3) := by decide +kernel
theorem dX6_bestIn_37 : decode cX6_bestIn 37 = .ok (.goto (-33), 3) := by decide +kernel
theorem dX6_bestIn_40 : decode cX6_bestIn 40 = .ok (.iload_n 1, 1) := by decide +kernel
theorem dX6_bestIn_41 : decode cX6_bestIn 41 = .ok (.ireturn, 1) := by decide +kernel
theorem dX6_isBlunder_0 : decode cX6_isBlunder 0 = .ok (.iload_n 0, 1) := by decide +kernel
theorem dX6_isBlunder_1 : decode cX6_isBlunder 1 = .ok (.iload_n 1, 1) := by decide +kernel
theorem dX6_isBlunder_2 : decode cX6_isBlunder 2 = .ok (.invokestatic 73, 3) := by decide +kernel
theorem dX6_isBlunder_5 : decode cX6_isBlunder 5 = .ok (.invokestatic 77, 3) := by decide +kernel
theorem dX6_isBlunder_8 : decode cX6_isBlunder 8 = .ok (.iload_n 0, 1) := by decide +kernel
theorem dX6_isBlunder_9 : decode cX6_isBlunder 9 = .ok (.iload_n 0, 1) := by decide +kernel
theorem dX6_isBlunder_10 : decode cX6_isBlunder 10 = .ok (.invokestatic 81, 3) := by decide +kernel
theorem dX6_isBlunder_13 : decode cX6_isBlunder 13 = .ok (.invokestatic 73, 3) := by decide +kernel
theorem dX6_isBlunder_16 : decode cX6_isBlunder 16 = .ok (.invokestatic 77, 3) := by decide +kernel
theorem dX6_isBlunder_19 : decode cX6_isBlunder 19 = .ok (.bipush 40, 2) := by decide +kernel
theorem dX6_isBlunder_21 : decode cX6_isBlunder 21 = .ok (.isub, 1) := by decide +kernel
theorem dX6_isBlunder_22 : decode cX6_isBlunder 22 = .ok (.if_icmp .gt 7, 3) := by decide +kernel
theorem dX6_isBlunder_25 : decode cX6_isBlunder 25 = .ok (.iconst 1, 1) := by decide +kernel
theorem dX6_isBlunder_26 : decode cX6_isBlunder 26 = .ok (.goto 4, 3) := by decide +kernel
theorem dX6_isBlunder_29 : decode cX6_isBlunder 29 = .ok (.iconst 0, 1) := by decide +kernel
theorem dX6_isBlunder_30 : decode cX6_isBlunder 30 = .ok (.ireturn, 1) := by decide +kernel
theorem dX6_after_0 : decode cX6_after 0 = .ok (.aload_n 0, 1) := by decide +kernel
theorem dX6_after_1 : decode cX6_after 1 = .ok (.iload_n 1, 1) := by decide +kernel
theorem dX6_after_2 : decode cX6_after 2 = .ok (.invokestatic 84, 3) := by decide +kernel
theorem dX6_after_5 : decode cX6_after 5 = .ok (.ifCond .eq 14, 3) := by decide +kernel
theorem dX6_after_8 : decode cX6_after 8 = .ok (.iload_n 2, 1) := by decide +kernel
theorem dX6_after_9 : decode cX6_after 9 = .ok (.invokestatic 88, 3) := by decide +kernel
theorem dX6_after_12 : decode cX6_after 12 = .ok (.ifCond .eq 7, 3) := by decide +kernel
theorem dX6_after_15 : decode cX6_after 15 = .ok (.iconst 1, 1) := by decide +kernel
theorem dX6_after_16 : decode cX6_after 16 = .ok (.goto 4, 3) := by decide +kernel
theorem dX6_after_19 : decode cX6_after 19 = .ok (.iconst 0, 1) := by decide +kernel
theorem dX6_after_20 : decode cX6_after 20 = .ok (.iconst 1, 1) := by decide +kernel
theorem dX6_after_21 : decode cX6_after 21 = .ok (.iconst 1, 1) := by decide +kernel
theorem dX6_after_22 : decode cX6_after 22 = .ok (.invokevirtual 91, 3) := by decide +kernel
theorem dX6_after_25 : decode cX6_after 25 = .ok (.ifCond .eq 11, 3) := by decide +kernel
theorem dX6_after_28 : decode cX6_after 28 = .ok (.iload_n 1, 1) := by decide +kernel
theorem dX6_after_29 : decode cX6_after 29 = .ok (.iload_n 2, 1) := by decide +kernel
theorem dX6_after_30 : decode cX6_after 30 = .ok (.invokestatic 73, 3) := by decide +kernel
theorem dX6_after_33 : decode cX6_after 33 = .ok (.goto 4, 3) := by decide +kernel
theorem dX6_after_36 : decode cX6_after 36 = .ok (.iconst 0, 1) := by decide +kernel
theorem dX6_after_37 : decode cX6_after 37 = .ok (.ireturn, 1) := by decide +kernel
theorem dX6_worth_0 : decode cX6_worth 0 = .ok (.aload_n 0, 1) := by decide +kernel
theorem dX6_worth_1 : decode cX6_worth 1 = .ok (.iload_n 1, 1) := by decide +kernel
theorem dX6_worth_2 : decode cX6_worth 2 = .ok (.invokestatic 84, 3) := by decide +kernel
theorem dX6_worth_5 : decode cX6_worth 5 = .ok (.iconst 1, 1) := by decide +kernel
theorem dX6_worth_6 : decode cX6_worth 6 = .ok (.iconst 1, 1) := by decide +kernel
theorem dX6_worth_7 : decode cX6_worth 7 = .ok (.invokevirtual 91, 3) := by decide +kernel
theorem dX6_worth_10 : decode cX6_worth 10 = .ok (.ifCond .eq 10, 3) := by decide +kernel
theorem dX6_worth_13 : decode cX6_worth 13 = .ok (.iload_n 1, 1) := by decide +kernel
theorem dX6_worth_14 : decode cX6_worth 14 = .ok (.invokestatic 77, 3) := by decide +kernel
theorem dX6_worth_17 : decode cX6_worth 17 = .ok (.goto 4, 3) := by decide +kernel
theorem dX6_worth_20 : decode cX6_worth 20 = .ok (.iconst 0, 1) := by decide +kernel
theorem dX6_worth_21 : decode cX6_worth 21 = .ok (.ireturn, 1) := by decide +kernel
theorem dX6_best_0 : decode cX6_best 0 = .ok (.aload_n 0, 1) := by decide +kernel
theorem dX6_best_1 : decode cX6_best 1 = .ok (.iload_n 1, 1) := by decide +kernel
theorem dX6_best_2 : decode cX6_best 2 = .ok (.invokestatic 84, 3) := by decide +kernel
theorem dX6_best_5 : decode cX6_best 5 = .ok (.iconst 1, 1) := by decide +kernel
theorem dX6_best_6 : decode cX6_best 6 = .ok (.iconst 1, 1) := by decide +kernel
theorem dX6_best_7 : decode cX6_best 7 = .ok (.invokevirtual 91, 3) := by decide +kernel
theorem dX6_best_10 : decode cX6_best 10 = .ok (.ifCond .eq 10, 3) := by decide +kernel
theorem dX6_best_13 : decode cX6_best 13 = .ok (.iload_n 1, 1) := by decide +kernel
theorem dX6_best_14 : decode cX6_best 14 = .ok (.invokestatic 81, 3) := by decide +kernel
theorem dX6_best_17 : decode cX6_best 17 = .ok (.goto 4, 3) := by decide +kernel
theorem dX6_best_20 : decode cX6_best 20 = .ok (.iconst 0, 1) := by decide +kernel
theorem dX6_best_21 : decode cX6_best 21 = .ok (.ireturn, 1) := by decide +kernel
theorem dX6_enter_0 : decode cX6_enter 0 = .ok (.aload_n 0, 1) := by decide +kernel
theorem dX6_enter_1 : decode cX6_enter 1 = .ok (.aload_n 0, 1) := by decide +kernel
theorem dX6_enter_2 : decode cX6_enter 2 = .ok (.getfield 67, 3) := by decide +kernel
theorem dX6_enter_5 : decode cX6_enter 5 = .ok (.bipush 8, 2) := by decide +kernel
theorem dX6_enter_7 : decode cX6_enter 7 = .ok (.if_icmp .ge 7, 3) := by decide +kernel
theorem dX6_enter_10 : decode cX6_enter 10 = .ok (.iconst 1, 1) := by decide +kernel
theorem dX6_enter_11 : decode cX6_enter 11 = .ok (.goto 4, 3) := by decide +kernel
theorem dX6_enter_14 : decode cX6_enter 14 = .ok (.iconst 0, 1) := by decide +kernel
theorem dX6_enter_15 : decode cX6_enter 15 = .ok (.iconst 1, 1) := by decide +kernel
theorem dX6_enter_16 : decode cX6_enter 16 = .ok (.iconst 1, 1) := by decide +kernel
theorem dX6_enter_17 : decode cX6_enter 17 = .ok (.invokevirtual 91, 3) := by decide +kernel
theorem dX6_enter_20 : decode cX6_enter 20 = .ok (.ifCond .ne 5, 3) := by decide +kernel
theorem dX6_enter_23 : decode cX6_enter 23 = .ok (.iconst 0, 1) := by decide +kernel
theorem dX6_enter_24 : decode cX6_enter 24 = .ok (.ireturn, 1) := by decide +kernel
theorem dX6_enter_25 : decode cX6_enter 25 = .ok (.iconst 0, 1) := by decide +kernel
theorem dX6_enter_26 : decode cX6_enter 26 = .ok (.istore_n 1, 1) := by decide +kernel
theorem dX6_enter_27 : decode cX6_enter 27 = .ok (.iload_n 1, 1) := by decide +kernel
theorem dX6_enter_28 : decode cX6_enter 28 = .ok (.iconst 5, 1) := by decide +kernel
theorem dX6_enter_29 : decode cX6_enter 29 = .ok (.if_icmp .ge 25, 3) := by decide +kernel
theorem dX6_enter_32 : decode cX6_enter 32 = .ok (.aload_n 0, 1) := by decide +kernel
theorem dX6_enter_33 : decode cX6_enter 33 = .ok (.getfield 16, 3) := by decide +kernel
theorem dX6_enter_36 : decode cX6_enter 36 = .ok (.iconst 5, 1) := by decide +kernel
theorem dX6_enter_37 : decode cX6_enter 37 = .ok (.aload_n 0, 1) := by decide +kernel
theorem dX6_enter_38 : decode cX6_enter 38 = .ok (.getfield 67, 3) := by decide +kernel
theorem dX6_enter_41 : decode cX6_enter 41 = .ok (.imul, 1) := by decide +kernel
theorem dX6_enter_42 : decode cX6_enter 42 = .ok (.iload_n 1, 1) := by decide +kernel
theorem dX6_enter_43 : decode cX6_enter 43 = .ok (.iadd, 1) := by decide +kernel
theorem dX6_enter_44 : decode cX6_enter 44 = .ok (.sipush 1000, 3) := by decide +kernel
theorem dX6_enter_47 : decode cX6_enter 47 = .ok (.iastore, 1) := by decide +kernel
theorem dX6_enter_48 : decode cX6_enter 48 = .ok (.iinc 1 1, 3) := by decide +kernel
theorem dX6_enter_51 : decode cX6_enter 51 = .ok (.goto (-24), 3) := by decide +kernel
theorem dX6_enter_54 : decode cX6_enter 54 = .ok (.aload_n 0, 1) := by decide +kernel
theorem dX6_enter_55 : decode cX6_enter 55 = .ok (.dup, 1) := by decide +kernel
theorem dX6_enter_56 : decode cX6_enter 56 = .ok (.getfield 67, 3) := by decide +kernel
theorem dX6_enter_59 : decode cX6_enter 59 = .ok (.iconst 1, 1) := by decide +kernel
theorem dX6_enter_60 : decode cX6_enter 60 = .ok (.iadd, 1) := by decide +kernel
theorem dX6_enter_61 : decode cX6_enter 61 = .ok (.putfield 67, 3) := by decide +kernel
theorem dX6_enter_64 : decode cX6_enter 64 = .ok (.aload_n 0, 1) := by decide +kernel
theorem dX6_enter_65 : decode cX6_enter 65 = .ok (.getfield 67, 3) := by decide +kernel
theorem dX6_enter_68 : decode cX6_enter 68 = .ok (.iconst 1, 1) := by decide +kernel
theorem dX6_enter_69 : decode cX6_enter 69 = .ok (.isub, 1) := by decide +kernel
theorem dX6_enter_70 : decode cX6_enter 70 = .ok (.ireturn, 1) := by decide +kernel
theorem dX6_ended_0 : decode cX6_ended 0 = .ok (.aload_n 0, 1) := by decide +kernel
theorem dX6_ended_1 : decode cX6_ended 1 = .ok (.getfield 95, 3) := by decide +kernel
theorem dX6_ended_4 : decode cX6_ended 4 = .ok (.aload_n 0, 1) := by decide +kernel
theorem dX6_ended_5 : decode cX6_ended 5 = .ok (.getfield 98, 3) := by decide +kernel
theorem dX6_ended_8 : decode cX6_ended 8 = .ok (.ifCond .eq 7, 3) := by decide +kernel
theorem dX6_ended_11 : decode cX6_ended 11 = .ok (.iconst 1, 1) := by decide +kernel
theorem dX6_ended_12 : decode cX6_ended 12 = .ok (.goto 4, 3) := by decide +kernel
theorem dX6_ended_15 : decode cX6_ended 15 = .ok (.iconst 0, 1) := by decide +kernel
theorem dX6_ended_16 : decode cX6_ended 16 = .ok (.isub, 1) := by decide +kernel
theorem dX6_ended_17 : decode cX6_ended 17 = .ok (.ireturn, 1) := by decide +kernel
theorem dX6_begin_0 : decode cX6_begin 0 = .ok (.aload_n 0, 1) := by decide +kernel
theorem dX6_begin_1 : decode cX6_begin 1 = .ok (.aload_n 0, 1) := by decide +kernel
theorem dX6_begin_2 : decode cX6_begin 2 = .ok (.iload_n 1, 1) := by decide +kernel
theorem dX6_begin_3 : decode cX6_begin 3 = .ok (.invokevirtual 102, 3) := by decide +kernel
theorem dX6_begin_6 : decode cX6_begin 6 = .ok (.ifCond .eq 15, 3) := by decide +kernel
theorem dX6_begin_9 : decode cX6_begin 9 = .ok (.aload_n 0, 1) := by decide +kernel
theorem dX6_begin_10 : decode cX6_begin 10 = .ok (.iload_n 2, 1) := by decide +kernel
theorem dX6_begin_11 : decode cX6_begin 11 = .ok (.invokevirtual 102, 3) := by decide +kernel
theorem dX6_begin_14 : decode cX6_begin 14 = .ok (.ifCond .eq 7, 3) := by decide +kernel
theorem dX6_begin_17 : decode cX6_begin 17 = .ok (.iconst 1, 1) := by decide +kernel
theorem dX6_begin_18 : decode cX6_begin 18 = .ok (.goto 4, 3) := by decide +kernel
theorem dX6_begin_21 : decode cX6_begin 21 = .ok (.iconst 0, 1) := by decide +kernel
theorem dX6_begin_22 : decode cX6_begin 22 = .ok (.iload_n 1, 1) := by decide +kernel
theorem dX6_begin_23 : decode cX6_begin 23 = .ok (.iload_n 2, 1) := by decide +kernel
theorem dX6_begin_24 : decode cX6_begin 24 = .ok (.if_icmp .eq 7, 3) := by decide +kernel
theorem dX6_begin_27 : decode cX6_begin 27 = .ok (.iconst 1, 1) := by decide +kernel
theorem dX6_begin_28 : decode cX6_begin 28 = .ok (.goto 4, 3) := by decide +kernel
theorem dX6_begin_31 : decode cX6_begin 31 = .ok (.iconst 0, 1) := by decide +kernel
theorem dX6_begin_32 : decode cX6_begin 32 = .ok (.aload_n 0, 1) := by decide +kernel
theorem dX6_begin_33 : decode cX6_begin 33 = .ok (.getfield 98, 3) := by decide +kernel
theorem dX6_begin_36 : decode cX6_begin 36 = .ok (.ifCond .ne 16, 3) := by decide +kernel
theorem dX6_begin_39 : decode cX6_begin 39 = .ok (.aload_n 0, 1) := by decide +kernel
theorem dX6_begin_40 : decode cX6_begin 40 = .ok (.getfield 95, 3) := by decide +kernel
theorem dX6_begin_43 : decode cX6_begin 43 = .ok (.bipush 60, 2) := by decide +kernel
theorem dX6_begin_45 : decode cX6_begin 45 = .ok (.if_icmp .ge 7, 3) := by decide +kernel
theorem dX6_begin_48 : decode cX6_begin 48 = .ok (.iconst 1, 1) := by decide +kernel
theorem dX6_begin_49 : decode cX6_begin 49 = .ok (.goto 4, 3) := by decide +kernel
theorem dX6_begin_52 : decode cX6_begin 52 = .ok (.iconst 0, 1) := by decide +kernel
theorem dX6_begin_53 : decode cX6_begin 53 = .ok (.invokevirtual 91, 3) := by decide +kernel
theorem dX6_begin_56 : decode cX6_begin 56 = .ok (.ifCond .ne 5, 3) := by decide +kernel
theorem dX6_begin_59 : decode cX6_begin 59 = .ok (.iconst 0, 1) := by decide +kernel
theorem dX6_begin_60 : decode cX6_begin 60 = .ok (.ireturn, 1) := by decide +kernel
theorem dX6_begin_61 : decode cX6_begin 61 = .ok (.aload_n 0, 1) := by decide +kernel
theorem dX6_begin_62 : decode cX6_begin 62 = .ok (.getfield 23, 3) := by decide +kernel
theorem dX6_begin_65 : decode cX6_begin 65 = .ok (.aload_n 0, 1) := by decide +kernel
theorem dX6_begin_66 : decode cX6_begin 66 = .ok (.getfield 95, 3) := by decide +kernel
theorem dX6_begin_69 : decode cX6_begin 69 = .ok (.iload_n 1, 1) := by decide +kernel
theorem dX6_begin_70 : decode cX6_begin 70 = .ok (.iastore, 1) := by decide +kernel
theorem dX6_begin_71 : decode cX6_begin 71 = .ok (.aload_n 0, 1) := by decide +kernel
theorem dX6_begin_72 : decode cX6_begin 72 = .ok (.getfield 26, 3) := by decide +kernel
theorem dX6_begin_75 : decode cX6_begin 75 = .ok (.aload_n 0, 1) := by decide +kernel
theorem dX6_begin_76 : decode cX6_begin 76 = .ok (.getfield 95, 3) := by decide +kernel
theorem dX6_begin_79 : decode cX6_begin 79 = .ok (.iload_n 2, 1) := by decide +kernel
theorem dX6_begin_80 : decode cX6_begin 80 = .ok (.iastore, 1) := by decide +kernel
theorem dX6_begin_81 : decode cX6_begin 81 = .ok (.aload_n 0, 1) := by decide +kernel
theorem dX6_begin_82 : decode cX6_begin 82 = .ok (.iconst 1, 1) := by decide +kernel
theorem dX6_begin_83 : decode cX6_begin 83 = .ok (.putfield 98, 3) := by decide +kernel
theorem dX6_begin_86 : decode cX6_begin 86 = .ok (.aload_n 0, 1) := by decide +kernel
theorem dX6_begin_87 : decode cX6_begin 87 = .ok (.iconst 1, 1) := by decide +kernel
theorem dX6_begin_88 : decode cX6_begin 88 = .ok (.putfield 105, 3) := by decide +kernel
theorem dX6_begin_91 : decode cX6_begin 91 = .ok (.aload_n 0, 1) := by decide +kernel
theorem dX6_begin_92 : decode cX6_begin 92 = .ok (.dup, 1) := by decide +kernel
theorem dX6_begin_93 : decode cX6_begin 93 = .ok (.getfield 95, 3) := by decide +kernel
theorem dX6_begin_96 : decode cX6_begin 96 = .ok (.iconst 1, 1) := by decide +kernel
theorem dX6_begin_97 : decode cX6_begin 97 = .ok (.iadd, 1) := by decide +kernel
theorem dX6_begin_98 : decode cX6_begin 98 = .ok (.putfield 95, 3) := by decide +kernel
theorem dX6_begin_101 : decode cX6_begin 101 = .ok (.aload_n 0, 1) := by decide +kernel
theorem dX6_begin_102 : decode cX6_begin 102 = .ok (.getfield 95, 3) := by decide +kernel
theorem dX6_begin_105 : decode cX6_begin 105 = .ok (.iconst 1, 1) := by decide +kernel
theorem dX6_begin_106 : decode cX6_begin 106 = .ok (.isub, 1) := by decide +kernel
theorem dX6_begin_107 : decode cX6_begin 107 = .ok (.ireturn, 1) := by decide +kernel
theorem dX6_move_0 : decode cX6_move 0 = .ok (.aload_n 0, 1) := by decide +kernel
theorem dX6_move_1 : decode cX6_move 1 = .ok (.iload_n 1, 1) := by decide +kernel
theorem dX6_move_2 : decode cX6_move 2 = .ok (.invokestatic 88, 3) := by decide +kernel
theorem dX6_move_5 : decode cX6_move 5 = .ok (.aload_n 0, 1) := by decide +kernel
theorem dX6_move_6 : decode cX6_move 6 = .ok (.getfield 98, 3) := by decide +kernel
theorem dX6_move_9 : decode cX6_move 9 = .ok (.ifCond .eq 23, 3) := by decide +kernel
theorem dX6_move_12 : decode cX6_move 12 = .ok (.aload_n 0, 1) := by decide +kernel
theorem dX6_move_13 : decode cX6_move 13 = .ok (.getfield 29, 3) := by decide +kernel
theorem dX6_move_16 : decode cX6_move 16 = .ok (.aload_n 0, 1) := by decide +kernel
theorem dX6_move_17 : decode cX6_move 17 = .ok (.getfield 95, 3) := by decide +kernel
theorem dX6_move_20 : decode cX6_move 20 = .ok (.iconst 1, 1) := by decide +kernel
theorem dX6_move_21 : decode cX6_move 21 = .ok (.isub, 1) := by decide +kernel
theorem dX6_move_22 : decode cX6_move 22 = .ok (.iaload, 1) := by decide +kernel
theorem dX6_move_23 : decode cX6_move 23 = .ok (.bipush 12, 2) := by decide +kernel
theorem dX6_move_25 : decode cX6_move 25 = .ok (.if_icmp .ge 7, 3) := by decide +kernel
theorem dX6_move_28 : decode cX6_move 28 = .ok (.iconst 1, 1) := by decide +kernel
theorem dX6_move_29 : decode cX6_move 29 = .ok (.goto 4, 3) := by decide +kernel
theorem dX6_move_32 : decode cX6_move 32 = .ok (.iconst 0, 1) := by decide +kernel
theorem dX6_move_33 : decode cX6_move 33 = .ok (.iconst 1, 1) := by decide +kernel
theorem dX6_move_34 : decode cX6_move 34 = .ok (.invokevirtual 91, 3) := by decide +kernel
theorem dX6_move_37 : decode cX6_move 37 = .ok (.ifCond .ne 5, 3) := by decide +kernel
theorem dX6_move_40 : decode cX6_move 40 = .ok (.iconst 0, 1) := by decide +kernel
theorem dX6_move_41 : decode cX6_move 41 = .ok (.ireturn, 1) := by decide +kernel
theorem dX6_move_42 : decode cX6_move 42 = .ok (.aload_n 0, 1) := by decide +kernel
theorem dX6_move_43 : decode cX6_move 43 = .ok (.getfield 95, 3) := by decide +kernel
theorem dX6_move_46 : decode cX6_move 46 = .ok (.iconst 1, 1) := by decide +kernel
theorem dX6_move_47 : decode cX6_move 47 = .ok (.isub, 1) := by decide +kernel
theorem dX6_move_48 : decode cX6_move 48 = .ok (.istore_n 2, 1) := by decide +kernel
theorem dX6_move_49 : decode cX6_move 49 = .ok (.aload_n 0, 1) := by decide +kernel
theorem dX6_move_50 : decode cX6_move 50 = .ok (.getfield 105, 3) := by decide +kernel
theorem dX6_move_53 : decode cX6_move 53 = .ok (.iload_n 1, 1) := by decide +kernel
theorem dX6_move_54 : decode cX6_move 54 = .ok (.invokestatic 108, 3) := by decide +kernel
theorem dX6_move_57 : decode cX6_move 57 = .ok (.istore_n 3, 1) := by decide +kernel
theorem dX6_move_58 : decode cX6_move 58 = .ok (.aload_n 0, 1) := by decide +kernel
theorem dX6_move_59 : decode cX6_move 59 = .ok (.getfield 35, 3) := by decide +kernel
theorem dX6_move_62 : decode cX6_move 62 = .ok (.bipush 12, 2) := by decide +kernel
theorem dX6_move_64 : decode cX6_move 64 = .ok (.iload_n 2, 1) := by decide +kernel
theorem dX6_move_65 : decode cX6_move 65 = .ok (.imul, 1) := by decide +kernel
theorem dX6_move_66 : decode cX6_move 66 = .ok (.aload_n 0, 1) := by decide +kernel
theorem dX6_move_67 : decode cX6_move 67 = .ok (.getfield 29, 3) := by decide +kernel
theorem dX6_move_70 : decode cX6_move 70 = .ok (.iload_n 2, 1) := by decide +kernel
theorem dX6_move_71 : decode cX6_move 71 = .ok (.iaload, 1) := by decide +kernel
theorem dX6_move_72 : decode cX6_move 72 = .ok (.iadd, 1) := by decide +kernel
theorem dX6_move_73 : decode cX6_move 73 = .ok (.iload_n 1, 1) := by decide +kernel
theorem dX6_move_74 : decode cX6_move 74 = .ok (.iastore, 1) := by decide +kernel
theorem dX6_move_75 : decode cX6_move 75 = .ok (.aload_n 0, 1) := by decide +kernel
theorem dX6_move_76 : decode cX6_move 76 = .ok (.getfield 29, 3) := by decide +kernel
theorem dX6_move_79 : decode cX6_move 79 = .ok (.iload_n 2, 1) := by decide +kernel
theorem dX6_move_80 : decode cX6_move 80 = .ok (.dup2, 1) := by decide +kernel
theorem dX6_move_81 : decode cX6_move 81 = .ok (.iaload, 1) := by decide +kernel
theorem dX6_move_82 : decode cX6_move 82 = .ok (.iconst 1, 1) := by decide +kernel
theorem dX6_move_83 : decode cX6_move 83 = .ok (.iadd, 1) := by decide +kernel
theorem dX6_move_84 : decode cX6_move 84 = .ok (.iastore, 1) := by decide +kernel
theorem dX6_move_85 : decode cX6_move 85 = .ok (.aload_n 0, 1) := by decide +kernel
theorem dX6_move_86 : decode cX6_move 86 = .ok (.aload_n 0, 1) := by decide +kernel
theorem dX6_move_87 : decode cX6_move 87 = .ok (.getfield 105, 3) := by decide +kernel
theorem dX6_move_90 : decode cX6_move 90 = .ok (.iload_n 1, 1) := by decide +kernel
theorem dX6_move_91 : decode cX6_move 91 = .ok (.invokestatic 73, 3) := by decide +kernel
theorem dX6_move_94 : decode cX6_move 94 = .ok (.putfield 105, 3) := by decide +kernel
theorem dX6_move_97 : decode cX6_move 97 = .ok (.iload_n 3, 1) := by decide +kernel
theorem dX6_move_98 : decode cX6_move 98 = .ok (.ireturn, 1) := by decide +kernel
theorem dX6_hasPuzzle_0 : decode cX6_hasPuzzle 0 = .ok (.iconst 0, 1) := by decide +kernel
theorem dX6_hasPuzzle_1 : decode cX6_hasPuzzle 1 = .ok (.istore_n 2, 1) := by decide +kernel
theorem dX6_hasPuzzle_2 : decode cX6_hasPuzzle 2 = .ok (.iconst 0, 1) := by decide +kernel
theorem dX6_hasPuzzle_3 : decode cX6_hasPuzzle 3 = .ok (.istore_n 3, 1) := by decide +kernel
theorem dX6_hasPuzzle_4 : decode cX6_hasPuzzle 4 = .ok (.iload_n 3, 1) := by decide +kernel
theorem dX6_hasPuzzle_5 : decode cX6_hasPuzzle 5 = .ok (.aload_n 0, 1) := by decide +kernel
theorem dX6_hasPuzzle_6 : decode cX6_hasPuzzle 6 = .ok (.getfield 70, 3) := by decide +kernel
theorem dX6_hasPuzzle_9 : decode cX6_hasPuzzle 9 = .ok (.if_icmp .ge 29, 3) := by decide +kernel
theorem dX6_hasPuzzle_12 : decode cX6_hasPuzzle 12 = .ok (.iload_n 2, 1) := by decide +kernel
theorem dX6_hasPuzzle_13 : decode cX6_hasPuzzle 13 = .ok (.ifCond .ne 13, 3) := by decide +kernel
theorem dX6_hasPuzzle_16 : decode cX6_hasPuzzle 16 = .ok (.aload_n 0, 1) := by decide +kernel
theorem dX6_hasPuzzle_17 : decode cX6_hasPuzzle 17 = .ok (.getfield 38, 3) := by decide +kernel
theorem dX6_hasPuzzle_20 : decode cX6_hasPuzzle 20 = .ok (.iload_n 3, 1) := by decide +kernel
theorem dX6_hasPuzzle_21 : decode cX6_hasPuzzle 21 = .ok (.iaload, 1) := by decide +kernel
theorem dX6_hasPuzzle_22 : decode cX6_hasPuzzle 22 = .ok (.iload_n 1, 1) := by decide +kernel
theorem dX6_hasPuzzle_23 : decode cX6_hasPuzzle 23 = .ok (.if_icmp .ne 7, 3) := by decide +kernel
theorem dX6_hasPuzzle_26 : decode cX6_hasPuzzle 26 = .ok (.iconst 1, 1) := by decide +kernel
theorem dX6_hasPuzzle_27 : decode cX6_hasPuzzle 27 = .ok (.goto 4, 3) := by decide +kernel
theorem dX6_hasPuzzle_30 : decode cX6_hasPuzzle 30 = .ok (.iconst 0, 1) := by decide +kernel
theorem dX6_hasPuzzle_31 : decode cX6_hasPuzzle 31 = .ok (.istore_n 2, 1) := by decide +kernel
theorem dX6_hasPuzzle_32 : decode cX6_hasPuzzle 32 = .ok (.iinc 3 1, 3) := by decide +kernel
theorem dX6_hasPuzzle_35 : decode cX6_hasPuzzle 35 = .ok (.goto (-31), 3) := by decide +kernel
theorem dX6_hasPuzzle_38 : decode cX6_hasPuzzle 38 = .ok (.iload_n 2, 1) := by decide +kernel
theorem dX6_hasPuzzle_39 : decode cX6_hasPuzzle 39 = .ok (.ireturn, 1) := by decide +kernel
theorem dX6_makes_0 : decode cX6_makes 0 = .ok (.aload_n 0, 1) := by decide +kernel
theorem dX6_makes_1 : decode cX6_makes 1 = .ok (.getfield 70, 3) := by decide +kernel
theorem dX6_makes_4 : decode cX6_makes 4 = .ok (.istore_n 2, 1) := by decide +kernel
theorem dX6_makes_5 : decode cX6_makes 5 = .ok (.iconst 1, 1) := by decide +kernel
theorem dX6_makes_6 : decode cX6_makes 6 = .ok (.istore_n 3, 1) := by decide +kernel
theorem dX6_makes_7 : decode cX6_makes 7 = .ok (.iconst 0, 1) := by decide +kernel
theorem dX6_makes_8 : decode cX6_makes 8 = .ok (.istore 4, 2) := by decide +kernel
theorem dX6_makes_10 : decode cX6_makes 10 = .ok (.iload 4, 2) := by decide +kernel
theorem dX6_makes_12 : decode cX6_makes 12 = .ok (.aload_n 0, 1) := by decide +kernel
theorem dX6_makes_13 : decode cX6_makes 13 = .ok (.getfield 29, 3) := by decide +kernel
theorem dX6_makes_16 : decode cX6_makes 16 = .ok (.iload_n 1, 1) := by decide +kernel
theorem dX6_makes_17 : decode cX6_makes 17 = .ok (.iaload, 1) := by decide +kernel
theorem dX6_makes_18 : decode cX6_makes 18 = .ok (.if_icmp .ge 86, 3) := by decide +kernel
theorem dX6_makes_21 : decode cX6_makes 21 = .ok (.aload_n 0, 1) := by decide +kernel
theorem dX6_makes_22 : decode cX6_makes 22 = .ok (.getfield 35, 3) := by decide +kernel
theorem dX6_makes_25 : decode cX6_makes 25 = .ok (.bipush 12, 2) := by decide +kernel
theorem dX6_makes_27 : decode cX6_makes 27 = .ok (.iload_n 1, 1) := by decide +kernel
theorem dX6_makes_28 : decode cX6_makes 28 = .ok (.imul, 1) := by decide +kernel
theorem dX6_makes_29 : decode cX6_makes 29 = .ok (.iload 4, 2) := by decide +kernel
theorem dX6_makes_31 : decode cX6_makes 31 = .ok (.iadd, 1) := by decide +kernel
theorem dX6_makes_32 : decode cX6_makes 32 = .ok (.iaload, 1) := by decide +kernel
theorem dX6_makes_33 : decode cX6_makes 33 = .ok (.istore 5, 2) := by decide +kernel
theorem dX6_makes_35 : decode cX6_makes 35 = .ok (.iload_n 3, 1) := by decide +kernel
theorem dX6_makes_36 : decode cX6_makes 36 = .ok (.iload 5, 2) := by decide +kernel
theorem dX6_makes_38 : decode cX6_makes 38 = .ok (.invokestatic 108, 3) := by decide +kernel
theorem dX6_makes_41 : decode cX6_makes 41 = .ok (.ifCond .eq 50, 3) := by decide +kernel
theorem dX6_makes_44 : decode cX6_makes 44 = .ok (.aload_n 0, 1) := by decide +kernel
theorem dX6_makes_45 : decode cX6_makes 45 = .ok (.iload_n 3, 1) := by decide +kernel
theorem dX6_makes_46 : decode cX6_makes 46 = .ok (.invokevirtual 112, 3) := by decide +kernel
theorem dX6_makes_49 : decode cX6_makes 49 = .ok (.ifCond .ne 42, 3) := by decide +kernel
theorem dX6_makes_52 : decode cX6_makes 52 = .ok (.aload_n 0, 1) := by decide +kernel
theorem dX6_makes_53 : decode cX6_makes 53 = .ok (.getfield 70, 3) := by decide +kernel
theorem dX6_makes_56 : decode cX6_makes 56 = .ok (.bipush 40, 2) := by decide +kernel
theorem dX6_makes_58 : decode cX6_makes 58 = .ok (.if_icmp .ge 33, 3) := by decide +kernel
theorem dX6_makes_61 : decode cX6_makes 61 = .ok (.aload_n 0, 1) := by decide +kernel
theorem dX6_makes_62 : decode cX6_makes 62 = .ok (.getfield 38, 3) := by decide +kernel
theorem dX6_makes_65 : decode cX6_makes 65 = .ok (.aload_n 0, 1) := by decide +kernel
theorem dX6_makes_66 : decode cX6_makes 66 = .ok (.getfield 70, 3) := by decide +kernel
theorem dX6_makes_69 : decode cX6_makes 69 = .ok (.iload_n 3, 1) := by decide +kernel
theorem dX6_makes_70 : decode cX6_makes 70 = .ok (.iastore, 1) := by decide +kernel
theorem dX6_makes_71 : decode cX6_makes 71 = .ok (.aload_n 0, 1) := by decide +kernel
theorem dX6_makes_72 : decode cX6_makes 72 = .ok (.getfield 41, 3) := by decide +kernel
theorem dX6_makes_75 : decode cX6_makes 75 = .ok (.aload_n 0, 1) := by decide +kernel
theorem dX6_makes_76 : decode cX6_makes 76 = .ok (.getfield 70, 3) := by decide +kernel
theorem dX6_makes_79 : decode cX6_makes 79 = .ok (.iload_n 1, 1) := by decide +kernel
theorem dX6_makes_80 : decode cX6_makes 80 = .ok (.iastore, 1) := by decide +kernel
theorem dX6_makes_81 : decode cX6_makes 81 = .ok (.aload_n 0, 1) := by decide +kernel
theorem dX6_makes_82 : decode cX6_makes 82 = .ok (.dup, 1) := by decide +kernel
theorem dX6_makes_83 : decode cX6_makes 83 = .ok (.getfield 70, 3) := by decide +kernel
theorem dX6_makes_86 : decode cX6_makes 86 = .ok (.iconst 1, 1) := by decide +kernel
theorem dX6_makes_87 : decode cX6_makes 87 = .ok (.iadd, 1) := by decide +kernel
theorem dX6_makes_88 : decode cX6_makes 88 = .ok (.putfield 70, 3) := by decide +kernel
theorem dX6_makes_91 : decode cX6_makes 91 = .ok (.iload_n 3, 1) := by decide +kernel
theorem dX6_makes_92 : decode cX6_makes 92 = .ok (.iload 5, 2) := by decide +kernel
theorem dX6_makes_94 : decode cX6_makes 94 = .ok (.invokestatic 73, 3) := by decide +kernel
theorem dX6_makes_97 : decode cX6_makes 97 = .ok (.istore_n 3, 1) := by decide +kernel
theorem dX6_makes_98 : decode cX6_makes 98 = .ok (.iinc 4 1, 3) := by decide +kernel
theorem dX6_makes_101 : decode cX6_makes 101 = .ok (.goto (-91), 3) := by decide +kernel
theorem dX6_makes_104 : decode cX6_makes 104 = .ok (.aload_n 0, 1) := by decide +kernel
theorem dX6_makes_105 : decode cX6_makes 105 = .ok (.getfield 70, 3) := by decide +kernel
theorem dX6_makes_108 : decode cX6_makes 108 = .ok (.iload_n 2, 1) := by decide +kernel
theorem dX6_makes_109 : decode cX6_makes 109 = .ok (.isub, 1) := by decide +kernel
theorem dX6_makes_110 : decode cX6_makes 110 = .ok (.ireturn, 1) := by decide +kernel
theorem dX6_shorter_0 : decode cX6_shorter 0 = .ok (.iconst 1, 1) := by decide +kernel
theorem dX6_shorter_1 : decode cX6_shorter 1 = .ok (.iconst 2, 1) := by decide +kernel
theorem dX6_shorter_2 : decode cX6_shorter 2 = .ok (.iload_n 0, 1) := by decide +kernel
theorem dX6_shorter_3 : decode cX6_shorter 3 = .ok (.imul, 1) := by decide +kernel
theorem dX6_shorter_4 : decode cX6_shorter 4 = .ok (.ishl, 1) := by decide +kernel
theorem dX6_shorter_5 : decode cX6_shorter 5 = .ok (.iconst 4, 1) := by decide +kernel
theorem dX6_shorter_6 : decode cX6_shorter 6 = .ok (.isub, 1) := by decide +kernel
theorem dX6_shorter_7 : decode cX6_shorter 7 = .ok (.iconst 3, 1) := by decide +kernel
theorem dX6_shorter_8 : decode cX6_shorter 8 = .ok (.idiv, 1) := by decide +kernel
theorem dX6_shorter_9 : decode cX6_shorter 9 = .ok (.ireturn, 1) := by decide +kernel
theorem dX6_isGone_0 : decode cX6_isGone 0 = .ok (.iconst 0, 1) := by decide +kernel
theorem dX6_isGone_1 : decode cX6_isGone 1 = .ok (.istore_n 3, 1) := by decide +kernel
theorem dX6_isGone_2 : decode cX6_isGone 2 = .ok (.iconst 1, 1) := by decide +kernel
theorem dX6_isGone_3 : decode cX6_isGone 3 = .ok (.istore 4, 2) := by decide +kernel
theorem dX6_isGone_5 : decode cX6_isGone 5 = .ok (.iload 4, 2) := by decide +kernel
theorem dX6_isGone_7 : decode cX6_isGone 7 = .ok (.iload_n 2, 1) := by decide +kernel
theorem dX6_isGone_8 : decode cX6_isGone 8 = .ok (.if_icmp .gt 43, 3) := by decide +kernel
theorem dX6_isGone_11 : decode cX6_isGone 11 = .ok (.iload_n 3, 1) := by decide +kernel
theorem dX6_isGone_12 : decode cX6_isGone 12 = .ok (.ifCond .ne 27, 3) := by decide +kernel
theorem dX6_isGone_15 : decode cX6_isGone 15 = .ok (.aload_n 0, 1) := by decide +kernel
theorem dX6_isGone_16 : decode cX6_isGone 16 = .ok (.getfield 50, 3) := by decide +kernel
theorem dX6_isGone_19 : decode cX6_isGone 19 = .ok (.iload 4, 2) := by decide +kernel
theorem dX6_isGone_21 : decode cX6_isGone 21 = .ok (.invokestatic 115, 3) := by decide +kernel
theorem dX6_isGone_24 : decode cX6_isGone 24 = .ok (.iload_n 1, 1) := by decide +kernel
theorem dX6_isGone_25 : decode cX6_isGone 25 = .ok (.iconst 1, 1) := by decide +kernel
theorem dX6_isGone_26 : decode cX6_isGone 26 = .ok (.iconst 2, 1) := by decide +kernel
theorem dX6_isGone_27 : decode cX6_isGone 27 = .ok (.iload 4, 2) := by decide +kernel
theorem dX6_isGone_29 : decode cX6_isGone 29 = .ok (.imul, 1) := by decide +kernel
theorem dX6_isGone_30 : decode cX6_isGone 30 = .ok (.ishl, 1) := by decide +kernel
theorem dX6_isGone_31 : decode cX6_isGone 31 = .ok (.iconst 1, 1) := by decide +kernel
theorem dX6_isGone_32 : decode cX6_isGone 32 = .ok (.isub, 1) := by decide +kernel
theorem dX6_isGone_33 : decode cX6_isGone 33 = .ok (.iand, 1) := by decide +kernel
theorem dX6_isGone_34 : decode cX6_isGone 34 = .ok (.iadd, 1) := by decide +kernel
theorem dX6_isGone_35 : decode cX6_isGone 35 = .ok (.baload, 1) := by decide +kernel
theorem dX6_isGone_36 : decode cX6_isGone 36 = .ok (.ifCond .eq 7, 3) := by decide +kernel
theorem dX6_isGone_39 : decode cX6_isGone 39 = .ok (.iconst 1, 1) := by decide +kernel
theorem dX6_isGone_40 : decode cX6_isGone 40 = .ok (.goto 4, 3) := by decide +kernel
theorem dX6_isGone_43 : decode cX6_isGone 43 = .ok (.iconst 0, 1) := by decide +kernel
theorem dX6_isGone_44 : decode cX6_isGone 44 = .ok (.istore_n 3, 1) := by decide +kernel
theorem dX6_isGone_45 : decode cX6_isGone 45 = .ok (.iinc 4 1, 3) := by decide +kernel
theorem dX6_isGone_48 : decode cX6_isGone 48 = .ok (.goto (-43), 3) := by decide +kernel
theorem dX6_isGone_51 : decode cX6_isGone 51 = .ok (.iload_n 3, 1) := by decide +kernel
theorem dX6_isGone_52 : decode cX6_isGone 52 = .ok (.ireturn, 1) := by decide +kernel
theorem dX6_lineOf_0 : decode cX6_lineOf 0 = .ok (.iconst 0, 1) := by decide +kernel
theorem dX6_lineOf_1 : decode cX6_lineOf 1 = .ok (.istore_n 3, 1) := by decide +kernel
theorem dX6_lineOf_2 : decode cX6_lineOf 2 = .ok (.iconst 0, 1) := by decide +kernel
theorem dX6_lineOf_3 : decode cX6_lineOf 3 = .ok (.istore 4, 2) := by decide +kernel
theorem dX6_lineOf_5 : decode cX6_lineOf 5 = .ok (.iload 4, 2) := by decide +kernel
theorem dX6_lineOf_7 : decode cX6_lineOf 7 = .ok (.iload_n 2, 1) := by decide +kernel
theorem dX6_lineOf_8 : decode cX6_lineOf 8 = .ok (.if_icmp .ge 29, 3) := by decide +kernel
theorem dX6_lineOf_11 : decode cX6_lineOf 11 = .ok (.iload_n 3, 1) := by decide +kernel
theorem dX6_lineOf_12 : decode cX6_lineOf 12 = .ok (.aload_n 0, 1) := by decide +kernel
theorem dX6_lineOf_13 : decode cX6_lineOf 13 = .ok (.getfield 35, 3) := by decide +kernel
theorem dX6_lineOf_16 : decode cX6_lineOf 16 = .ok (.bipush 12, 2) := by decide +kernel
theorem dX6_lineOf_18 : decode cX6_lineOf 18 = .ok (.iload_n 1, 1) := by decide +kernel
theorem dX6_lineOf_19 : decode cX6_lineOf 19 = .ok (.imul, 1) := by decide +kernel
theorem dX6_lineOf_20 : decode cX6_lineOf 20 = .ok (.iload 4, 2) := by decide +kernel
theorem dX6_lineOf_22 : decode cX6_lineOf 22 = .ok (.iadd, 1) := by decide +kernel
theorem dX6_lineOf_23 : decode cX6_lineOf 23 = .ok (.iaload, 1) := by decide +kernel
theorem dX6_lineOf_24 : decode cX6_lineOf 24 = .ok (.iconst 2, 1) := by decide +kernel
theorem dX6_lineOf_25 : decode cX6_lineOf 25 = .ok (.iload 4, 2) := by decide +kernel
theorem dX6_lineOf_27 : decode cX6_lineOf 27 = .ok (.imul, 1) := by decide +kernel
theorem dX6_lineOf_28 : decode cX6_lineOf 28 = .ok (.ishl, 1) := by decide +kernel
theorem dX6_lineOf_29 : decode cX6_lineOf 29 = .ok (.ior, 1) := by decide +kernel
theorem dX6_lineOf_30 : decode cX6_lineOf 30 = .ok (.istore_n 3, 1) := by decide +kernel
theorem dX6_lineOf_31 : decode cX6_lineOf 31 = .ok (.iinc 4 1, 3) := by decide +kernel
theorem dX6_lineOf_34 : decode cX6_lineOf 34 = .ok (.goto (-29), 3) := by decide +kernel
theorem dX6_lineOf_37 : decode cX6_lineOf 37 = .ok (.iload_n 3, 1) := by decide +kernel
theorem dX6_lineOf_38 : decode cX6_lineOf 38 = .ok (.ireturn, 1) := by decide +kernel
theorem dX6_notes_0 : decode cX6_notes 0 = .ok (.aload_n 0, 1) := by decide +kernel
theorem dX6_notes_1 : decode cX6_notes 1 = .ok (.getfield 29, 3) := by decide +kernel
theorem dX6_notes_4 : decode cX6_notes 4 = .ok (.iload_n 1, 1) := by decide +kernel
theorem dX6_notes_5 : decode cX6_notes 5 = .ok (.iaload, 1) := by decide +kernel
theorem dX6_notes_6 : decode cX6_notes 6 = .ok (.bipush 6, 2) := by decide +kernel
theorem dX6_notes_8 : decode cX6_notes 8 = .ok (.if_icmp .ge 12, 3) := by decide +kernel
theorem dX6_notes_11 : decode cX6_notes 11 = .ok (.aload_n 0, 1) := by decide +kernel
theorem dX6_notes_12 : decode cX6_notes 12 = .ok (.getfield 29, 3) := by decide +kernel
theorem dX6_notes_15 : decode cX6_notes 15 = .ok (.iload_n 1, 1) := by decide +kernel
theorem dX6_notes_16 : decode cX6_notes 16 = .ok (.iaload, 1) := by decide +kernel
theorem dX6_notes_17 : decode cX6_notes 17 = .ok (.goto 5, 3) := by decide +kernel
theorem dX6_notes_20 : decode cX6_notes 20 = .ok (.bipush 6, 2) := by decide +kernel
theorem dX6_notes_22 : decode cX6_notes 22 = .ok (.istore_n 2, 1) := by decide +kernel
theorem dX6_notes_23 : decode cX6_notes 23 = .ok (.iconst 1, 1) := by decide +kernel
theorem dX6_notes_24 : decode cX6_notes 24 = .ok (.istore_n 3, 1) := by decide +kernel
theorem dX6_notes_25 : decode cX6_notes 25 = .ok (.iload_n 3, 1) := by decide +kernel
theorem dX6_notes_26 : decode cX6_notes 26 = .ok (.iload_n 2, 1) := by decide +kernel
theorem dX6_notes_27 : decode cX6_notes 27 = .ok (.if_icmp .gt 64, 3) := by decide +kernel
theorem dX6_notes_30 : decode cX6_notes 30 = .ok (.aload_n 0, 1) := by decide +kernel
theorem dX6_notes_31 : decode cX6_notes 31 = .ok (.iload_n 1, 1) := by decide +kernel
theorem dX6_notes_32 : decode cX6_notes 32 = .ok (.iload_n 3, 1) := by decide +kernel
theorem dX6_notes_33 : decode cX6_notes 33 = .ok (.invokevirtual 118, 3) := by decide +kernel
theorem dX6_notes_36 : decode cX6_notes 36 = .ok (.istore 4, 2) := by decide +kernel
theorem dX6_notes_38 : decode cX6_notes 38 = .ok (.aload_n 0, 1) := by decide +kernel
theorem dX6_notes_39 : decode cX6_notes 39 = .ok (.iload 4, 2) := by decide +kernel
theorem dX6_notes_41 : decode cX6_notes 41 = .ok (.iload_n 3, 1) := by decide +kernel
theorem dX6_notes_42 : decode cX6_notes 42 = .ok (.invokevirtual 121, 3) := by decide +kernel
theorem dX6_notes_45 : decode cX6_notes 45 = .ok (.ifCond .ne 40, 3) := by decide +kernel
theorem dX6_notes_48 : decode cX6_notes 48 = .ok (.aload_n 0, 1) := by decide +kernel
theorem dX6_notes_49 : decode cX6_notes 49 = .ok (.getfield 44, 3) := by decide +kernel
theorem dX6_notes_52 : decode cX6_notes 52 = .ok (.iload_n 3, 1) := by decide +kernel
theorem dX6_notes_53 : decode cX6_notes 53 = .ok (.invokestatic 115, 3) := by decide +kernel
theorem dX6_notes_56 : decode cX6_notes 56 = .ok (.iload 4, 2) := by decide +kernel
theorem dX6_notes_58 : decode cX6_notes 58 = .ok (.iadd, 1) := by decide +kernel
theorem dX6_notes_59 : decode cX6_notes 59 = .ok (.dup2, 1) := by decide +kernel
theorem dX6_notes_60 : decode cX6_notes 60 = .ok (.iaload, 1) := by decide +kernel
theorem dX6_notes_61 : decode cX6_notes 61 = .ok (.iconst 1, 1) := by decide +kernel
theorem dX6_notes_62 : decode cX6_notes 62 = .ok (.iadd, 1) := by decide +kernel
theorem dX6_notes_63 : decode cX6_notes 63 = .ok (.iastore, 1) := by decide +kernel
theorem dX6_notes_64 : decode cX6_notes 64 = .ok (.aload_n 0, 1) := by decide +kernel
theorem dX6_notes_65 : decode cX6_notes 65 = .ok (.getfield 47, 3) := by decide +kernel
theorem dX6_notes_68 : decode cX6_notes 68 = .ok (.iload_n 3, 1) := by decide +kernel
theorem dX6_notes_69 : decode cX6_notes 69 = .ok (.invokestatic 115, 3) := by decide +kernel
theorem dX6_notes_72 : decode cX6_notes 72 = .ok (.iload 4, 2) := by decide +kernel
theorem dX6_notes_74 : decode cX6_notes 74 = .ok (.iadd, 1) := by decide +kernel
theorem dX6_notes_75 : decode cX6_notes 75 = .ok (.dup2, 1) := by decide +kernel
theorem dX6_notes_76 : decode cX6_notes 76 = .ok (.iaload, 1) := by decide +kernel
theorem dX6_notes_77 : decode cX6_notes 77 = .ok (.aload_n 0, 1) := by decide +kernel
theorem dX6_notes_78 : decode cX6_notes 78 = .ok (.getfield 32, 3) := by decide +kernel
theorem dX6_notes_81 : decode cX6_notes 81 = .ok (.iload_n 1, 1) := by decide +kernel
theorem dX6_notes_82 : decode cX6_notes 82 = .ok (.iaload, 1) := by decide +kernel
theorem dX6_notes_83 : decode cX6_notes 83 = .ok (.iadd, 1) := by decide +kernel
theorem dX6_notes_84 : decode cX6_notes 84 = .ok (.iastore, 1) := by decide +kernel
theorem dX6_notes_85 : decode cX6_notes 85 = .ok (.iinc 3 1, 3) := by decide +kernel
theorem dX6_notes_88 : decode cX6_notes 88 = .ok (.goto (-63), 3) := by decide +kernel
theorem dX6_notes_91 : decode cX6_notes 91 = .ok (.iconst 1, 1) := by decide +kernel
theorem dX6_notes_92 : decode cX6_notes 92 = .ok (.istore_n 3, 1) := by decide +kernel
theorem dX6_notes_93 : decode cX6_notes 93 = .ok (.iload_n 3, 1) := by decide +kernel
theorem dX6_notes_94 : decode cX6_notes 94 = .ok (.bipush 6, 2) := by decide +kernel
theorem dX6_notes_96 : decode cX6_notes 96 = .ok (.if_icmp .gt 132, 3) := by decide +kernel
theorem dX6_notes_99 : decode cX6_notes 99 = .ok (.iconst 0, 1) := by decide +kernel
theorem dX6_notes_100 : decode cX6_notes 100 = .ok (.istore 4, 2) := by decide +kernel
theorem dX6_notes_102 : decode cX6_notes 102 = .ok (.iload 4, 2) := by decide +kernel
theorem dX6_notes_104 : decode cX6_notes 104 = .ok (.iconst 1, 1) := by decide +kernel
theorem dX6_notes_105 : decode cX6_notes 105 = .ok (.iconst 2, 1) := by decide +kernel
theorem dX6_notes_106 : decode cX6_notes 106 = .ok (.iload_n 3, 1) := by decide +kernel
theorem dX6_notes_107 : decode cX6_notes 107 = .ok (.imul, 1) := by decide +kernel
theorem dX6_notes_108 : decode cX6_notes 108 = .ok (.ishl, 1) := by decide +kernel
theorem dX6_notes_109 : decode cX6_notes 109 = .ok (.if_icmp .ge 113, 3) := by decide +kernel
theorem dX6_notes_112 : decode cX6_notes 112 = .ok (.iload_n 3, 1) := by decide +kernel
theorem dX6_notes_113 : decode cX6_notes 113 = .ok (.invokestatic 115, 3) := by decide +kernel
theorem dX6_notes_116 : decode cX6_notes 116 = .ok (.iload 4, 2) := by decide +kernel
theorem dX6_notes_118 : decode cX6_notes 118 = .ok (.iadd, 1) := by decide +kernel
theorem dX6_notes_119 : decode cX6_notes 119 = .ok (.istore 5, 2) := by decide +kernel
theorem dX6_notes_121 : decode cX6_notes 121 = .ok (.iload_n 3, 1) := by decide +kernel
theorem dX6_notes_122 : decode cX6_notes 122 = .ok (.iconst 2, 1) := by decide +kernel
theorem dX6_notes_123 : decode cX6_notes 123 = .ok (.irem, 1) := by decide +kernel
theorem dX6_notes_124 : decode cX6_notes 124 = .ok (.iconst 1, 1) := by decide +kernel
theorem dX6_notes_125 : decode cX6_notes 125 = .ok (.if_icmp .ne 13, 3) := by decide +kernel
theorem dX6_notes_128 : decode cX6_notes 128 = .ok (.aload_n 0, 1) := by decide +kernel
theorem dX6_notes_129 : decode cX6_notes 129 = .ok (.getfield 47, 3) := by decide +kernel
theorem dX6_notes_132 : decode cX6_notes 132 = .ok (.iload 5, 2) := by decide +kernel
