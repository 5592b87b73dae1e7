theorem dX0_init_0 : decode cX0_init 0 = .ok (.aload_n 0, 1) := by decide +kernel
theorem dX0_init_1 : decode cX0_init 1 = .ok (.invokespecial 3, 3) := by decide +kernel
theorem dX0_init_4 : decode cX0_init 4 = .ok (.aload_n 0, 1) := by decide +kernel
theorem dX0_init_5 : decode cX0_init 5 = .ok (.new 9, 3) := by decide +kernel
theorem dX0_init_8 : decode cX0_init 8 = .ok (.dup, 1) := by decide +kernel
theorem dX0_init_9 : decode cX0_init 9 = .ok (.invokespecial 11, 3) := by decide +kernel
theorem dX0_init_12 : decode cX0_init 12 = .ok (.putfield 12, 3) := by decide +kernel
theorem dX0_init_15 : decode cX0_init 15 = .ok (.return_, 1) := by decide +kernel
theorem dX0_keepResult_0 : decode cX0_keepResult 0 = .ok (.aload_n 1, 1) := by decide +kernel
theorem dX0_keepResult_1 : decode cX0_keepResult 1 = .ok (.getfield 18, 3) := by decide +kernel
theorem dX0_keepResult_4 : decode cX0_keepResult 4 = .ok (.bipush 6, 2) := by decide +kernel
theorem dX0_keepResult_6 : decode cX0_keepResult 6 = .ok (.invokestatic 24, 3) := by decide +kernel
theorem dX0_keepResult_9 : decode cX0_keepResult 9 = .ok (.istore_n 2, 1) := by decide +kernel
theorem dX0_keepResult_10 : decode cX0_keepResult 10 = .ok (.aload_n 0, 1) := by decide +kernel
theorem dX0_keepResult_11 : decode cX0_keepResult 11 = .ok (.aload_n 1, 1) := by decide +kernel
theorem dX0_keepResult_12 : decode cX0_keepResult 12 = .ok (.iload_n 2, 1) := by decide +kernel
theorem dX0_keepResult_13 : decode cX0_keepResult 13 = .ok (.invokevirtual 30, 3) := by decide +kernel
theorem dX0_keepResult_16 : decode cX0_keepResult 16 = .ok (.aload_n 0, 1) := by decide +kernel
theorem dX0_keepResult_17 : decode cX0_keepResult 17 = .ok (.aload_n 1, 1) := by decide +kernel
theorem dX0_keepResult_18 : decode cX0_keepResult 18 = .ok (.iload_n 2, 1) := by decide +kernel
theorem dX0_keepResult_19 : decode cX0_keepResult 19 = .ok (.invokevirtual 34, 3) := by decide +kernel
theorem dX0_keepResult_22 : decode cX0_keepResult 22 = .ok (.return_, 1) := by decide +kernel
theorem dX0_addResult_0 : decode cX0_addResult 0 = .ok (.aload_n 0, 1) := by decide +kernel
theorem dX0_addResult_1 : decode cX0_addResult 1 = .ok (.getfield 12, 3) := by decide +kernel
theorem dX0_addResult_4 : decode cX0_addResult 4 = .ok (.astore_n 3, 1) := by decide +kernel
theorem dX0_addResult_5 : decode cX0_addResult 5 = .ok (.iconst 0, 1) := by decide +kernel
theorem dX0_addResult_6 : decode cX0_addResult 6 = .ok (.istore 4, 2) := by decide +kernel
theorem dX0_addResult_8 : decode cX0_addResult 8 = .ok (.iload 4, 2) := by decide +kernel
theorem dX0_addResult_10 : decode cX0_addResult 10 = .ok (.iload_n 2, 1) := by decide +kernel
theorem dX0_addResult_11 : decode cX0_addResult 11 = .ok (.if_icmp .ge 55, 3) := by decide +kernel
theorem dX0_addResult_14 : decode cX0_addResult 14 = .ok (.aload_n 3, 1) := by decide +kernel
theorem dX0_addResult_15 : decode cX0_addResult 15 = .ok (.aload_n 1, 1) := by decide +kernel
theorem dX0_addResult_16 : decode cX0_addResult 16 = .ok (.iload 4, 2) := by decide +kernel
theorem dX0_addResult_18 : decode cX0_addResult 18 = .ok (.invokevirtual 37, 3) := by decide +kernel
theorem dX0_addResult_21 : decode cX0_addResult 21 = .ok (.invokevirtual 41, 3) := by decide +kernel
theorem dX0_addResult_24 : decode cX0_addResult 24 = .ok (.astore_n 3, 1) := by decide +kernel
theorem dX0_addResult_25 : decode cX0_addResult 25 = .ok (.aload_n 3, 1) := by decide +kernel
theorem dX0_addResult_26 : decode cX0_addResult 26 = .ok (.ifnull 10, 3) := by decide +kernel
theorem dX0_addResult_29 : decode cX0_addResult 29 = .ok (.aload_n 3, 1) := by decide +kernel
theorem dX0_addResult_30 : decode cX0_addResult 30 = .ok (.getfield 45, 3) := by decide +kernel
theorem dX0_addResult_33 : decode cX0_addResult 33 = .ok (.ifCond .eq 4, 3) := by decide +kernel
theorem dX0_addResult_36 : decode cX0_addResult 36 = .ok (.return_, 1) := by decide +kernel
theorem dX0_addResult_37 : decode cX0_addResult 37 = .ok (.aload_n 3, 1) := by decide +kernel
theorem dX0_addResult_38 : decode cX0_addResult 38 = .ok (.dup, 1) := by decide +kernel
theorem dX0_addResult_39 : decode cX0_addResult 39 = .ok (.getfield 49, 3) := by decide +kernel
theorem dX0_addResult_42 : decode cX0_addResult 42 = .ok (.iconst 1, 1) := by decide +kernel
theorem dX0_addResult_43 : decode cX0_addResult 43 = .ok (.iadd, 1) := by decide +kernel
theorem dX0_addResult_44 : decode cX0_addResult 44 = .ok (.putfield 49, 3) := by decide +kernel
theorem dX0_addResult_47 : decode cX0_addResult 47 = .ok (.aload_n 3, 1) := by decide +kernel
theorem dX0_addResult_48 : decode cX0_addResult 48 = .ok (.dup, 1) := by decide +kernel
theorem dX0_addResult_49 : decode cX0_addResult 49 = .ok (.getfield 52, 3) := by decide +kernel
theorem dX0_addResult_52 : decode cX0_addResult 52 = .ok (.aload_n 1, 1) := by decide +kernel
theorem dX0_addResult_53 : decode cX0_addResult 53 = .ok (.getfield 55, 3) := by decide +kernel
theorem dX0_addResult_56 : decode cX0_addResult 56 = .ok (.iadd, 1) := by decide +kernel
theorem dX0_addResult_57 : decode cX0_addResult 57 = .ok (.putfield 52, 3) := by decide +kernel
theorem dX0_addResult_60 : decode cX0_addResult 60 = .ok (.iinc 4 1, 3) := by decide +kernel
theorem dX0_addResult_63 : decode cX0_addResult 63 = .ok (.goto (-55), 3) := by decide +kernel
theorem dX0_addResult_66 : decode cX0_addResult 66 = .ok (.return_, 1) := by decide +kernel
theorem dX0_dropBadLine_0 : decode cX0_dropBadLine 0 = .ok (.aload_n 0, 1) := by decide +kernel
theorem dX0_dropBadLine_1 : decode cX0_dropBadLine 1 = .ok (.getfield 12, 3) := by decide +kernel
theorem dX0_dropBadLine_4 : decode cX0_dropBadLine 4 = .ok (.astore_n 3, 1) := by decide +kernel
theorem dX0_dropBadLine_5 : decode cX0_dropBadLine 5 = .ok (.iconst 0, 1) := by decide +kernel
theorem dX0_dropBadLine_6 : decode cX0_dropBadLine 6 = .ok (.istore 4, 2) := by decide +kernel
theorem dX0_dropBadLine_8 : decode cX0_dropBadLine 8 = .ok (.iload 4, 2) := by decide +kernel
theorem dX0_dropBadLine_10 : decode cX0_dropBadLine 10 = .ok (.iload_n 2, 1) := by decide +kernel
theorem dX0_dropBadLine_11 : decode cX0_dropBadLine 11 = .ok (.if_icmp .ge 57, 3) := by decide +kernel
theorem dX0_dropBadLine_14 : decode cX0_dropBadLine 14 = .ok (.aload_n 3, 1) := by decide +kernel
theorem dX0_dropBadLine_15 : decode cX0_dropBadLine 15 = .ok (.aload_n 1, 1) := by decide +kernel
theorem dX0_dropBadLine_16 : decode cX0_dropBadLine 16 = .ok (.iload 4, 2) := by decide +kernel
theorem dX0_dropBadLine_18 : decode cX0_dropBadLine 18 = .ok (.invokevirtual 37, 3) := by decide +kernel
theorem dX0_dropBadLine_21 : decode cX0_dropBadLine 21 = .ok (.invokevirtual 58, 3) := by decide +kernel
theorem dX0_dropBadLine_24 : decode cX0_dropBadLine 24 = .ok (.astore_n 3, 1) := by decide +kernel
theorem dX0_dropBadLine_25 : decode cX0_dropBadLine 25 = .ok (.aload_n 3, 1) := by decide +kernel
theorem dX0_dropBadLine_26 : decode cX0_dropBadLine 26 = .ok (.ifnull 10, 3) := by decide +kernel
theorem dX0_dropBadLine_29 : decode cX0_dropBadLine 29 = .ok (.aload_n 3, 1) := by decide +kernel
theorem dX0_dropBadLine_30 : decode cX0_dropBadLine 30 = .ok (.getfield 45, 3) := by decide +kernel
theorem dX0_dropBadLine_33 : decode cX0_dropBadLine 33 = .ok (.ifCond .eq 4, 3) := by decide +kernel
theorem dX0_dropBadLine_36 : decode cX0_dropBadLine 36 = .ok (.return_, 1) := by decide +kernel
theorem dX0_dropBadLine_37 : decode cX0_dropBadLine 37 = .ok (.aload_n 3, 1) := by decide +kernel
theorem dX0_dropBadLine_38 : decode cX0_dropBadLine 38 = .ok (.iload 4, 2) := by decide +kernel
theorem dX0_dropBadLine_40 : decode cX0_dropBadLine 40 = .ok (.iconst 2, 1) := by decide +kernel
theorem dX0_dropBadLine_41 : decode cX0_dropBadLine 41 = .ok (.irem, 1) := by decide +kernel
theorem dX0_dropBadLine_42 : decode cX0_dropBadLine 42 = .ok (.ifCond .ne 7, 3) := by decide +kernel
theorem dX0_dropBadLine_45 : decode cX0_dropBadLine 45 = .ok (.iconst 1, 1) := by decide +kernel
theorem dX0_dropBadLine_46 : decode cX0_dropBadLine 46 = .ok (.goto 4, 3) := by decide +kernel
theorem dX0_dropBadLine_49 : decode cX0_dropBadLine 49 = .ok (.iconst 0, 1) := by decide +kernel
theorem dX0_dropBadLine_50 : decode cX0_dropBadLine 50 = .ok (.invokevirtual 61, 3) := by decide +kernel
theorem dX0_dropBadLine_53 : decode cX0_dropBadLine 53 = .ok (.ifCond .eq 9, 3) := by decide +kernel
theorem dX0_dropBadLine_56 : decode cX0_dropBadLine 56 = .ok (.aload_n 3, 1) := by decide +kernel
theorem dX0_dropBadLine_57 : decode cX0_dropBadLine 57 = .ok (.iconst 1, 1) := by decide +kernel
theorem dX0_dropBadLine_58 : decode cX0_dropBadLine 58 = .ok (.putfield 45, 3) := by decide +kernel
theorem dX0_dropBadLine_61 : decode cX0_dropBadLine 61 = .ok (.return_, 1) := by decide +kernel
theorem dX0_dropBadLine_62 : decode cX0_dropBadLine 62 = .ok (.iinc 4 1, 3) := by decide +kernel
theorem dX0_dropBadLine_65 : decode cX0_dropBadLine 65 = .ok (.goto (-57), 3) := by decide +kernel
theorem dX0_dropBadLine_68 : decode cX0_dropBadLine 68 = .ok (.return_, 1) := by decide +kernel
theorem dX0_find_0 : decode cX0_find 0 = .ok (.aload_n 0, 1) := by decide +kernel
theorem dX0_find_1 : decode cX0_find 1 = .ok (.getfield 12, 3) := by decide +kernel
theorem dX0_find_4 : decode cX0_find 4 = .ok (.astore_n 3, 1) := by decide +kernel
theorem dX0_find_5 : decode cX0_find 5 = .ok (.iconst 0, 1) := by decide +kernel
theorem dX0_find_6 : decode cX0_find 6 = .ok (.istore 4, 2) := by decide +kernel
theorem dX0_find_8 : decode cX0_find 8 = .ok (.iload 4, 2) := by decide +kernel
theorem dX0_find_10 : decode cX0_find 10 = .ok (.iload_n 2, 1) := by decide +kernel
theorem dX0_find_11 : decode cX0_find 11 = .ok (.if_icmp .ge 24, 3) := by decide +kernel
theorem dX0_find_14 : decode cX0_find 14 = .ok (.aload_n 3, 1) := by decide +kernel
theorem dX0_find_15 : decode cX0_find 15 = .ok (.ifnull 20, 3) := by decide +kernel
theorem dX0_find_18 : decode cX0_find 18 = .ok (.aload_n 3, 1) := by decide +kernel
theorem dX0_find_19 : decode cX0_find 19 = .ok (.iload_n 1, 1) := by decide +kernel
theorem dX0_find_20 : decode cX0_find 20 = .ok (.iload 4, 2) := by decide +kernel
theorem dX0_find_22 : decode cX0_find 22 = .ok (.invokestatic 65, 3) := by decide +kernel
theorem dX0_find_25 : decode cX0_find 25 = .ok (.invokevirtual 58, 3) := by decide +kernel
theorem dX0_find_28 : decode cX0_find 28 = .ok (.astore_n 3, 1) := by decide +kernel
theorem dX0_find_29 : decode cX0_find 29 = .ok (.iinc 4 1, 3) := by decide +kernel
theorem dX0_find_32 : decode cX0_find 32 = .ok (.goto (-24), 3) := by decide +kernel
theorem dX0_find_35 : decode cX0_find 35 = .ok (.aload_n 3, 1) := by decide +kernel
theorem dX0_find_36 : decode cX0_find 36 = .ok (.areturn, 1) := by decide +kernel
theorem dX0_holdsDropped_0 : decode cX0_holdsDropped 0 = .ok (.aload_n 0, 1) := by decide +kernel
theorem dX0_holdsDropped_1 : decode cX0_holdsDropped 1 = .ok (.getfield 12, 3) := by decide +kernel
theorem dX0_holdsDropped_4 : decode cX0_holdsDropped 4 = .ok (.astore_n 3, 1) := by decide +kernel
theorem dX0_holdsDropped_5 : decode cX0_holdsDropped 5 = .ok (.iconst 0, 1) := by decide +kernel
theorem dX0_holdsDropped_6 : decode cX0_holdsDropped 6 = .ok (.istore 4, 2) := by decide +kernel
theorem dX0_holdsDropped_8 : decode cX0_holdsDropped 8 = .ok (.iload 4, 2) := by decide +kernel
theorem dX0_holdsDropped_10 : decode cX0_holdsDropped 10 = .ok (.iload_n 2, 1) := by decide +kernel
theorem dX0_holdsDropped_11 : decode cX0_holdsDropped 11 = .ok (.if_icmp .ge 37, 3) := by decide +kernel
theorem dX0_holdsDropped_14 : decode cX0_holdsDropped 14 = .ok (.aload_n 3, 1) := by decide +kernel
theorem dX0_holdsDropped_15 : decode cX0_holdsDropped 15 = .ok (.ifnull 33, 3) := by decide +kernel
theorem dX0_holdsDropped_18 : decode cX0_holdsDropped 18 = .ok (.aload_n 3, 1) := by decide +kernel
theorem dX0_holdsDropped_19 : decode cX0_holdsDropped 19 = .ok (.iload_n 1, 1) := by decide +kernel
theorem dX0_holdsDropped_20 : decode cX0_holdsDropped 20 = .ok (.iload 4, 2) := by decide +kernel
theorem dX0_holdsDropped_22 : decode cX0_holdsDropped 22 = .ok (.invokestatic 65, 3) := by decide +kernel
theorem dX0_holdsDropped_25 : decode cX0_holdsDropped 25 = .ok (.invokevirtual 58, 3) := by decide +kernel
theorem dX0_holdsDropped_28 : decode cX0_holdsDropped 28 = .ok (.astore_n 3, 1) := by decide +kernel
theorem dX0_holdsDropped_29 : decode cX0_holdsDropped 29 = .ok (.aload_n 3, 1) := by decide +kernel
theorem dX0_holdsDropped_30 : decode cX0_holdsDropped 30 = .ok (.ifnull 12, 3) := by decide +kernel
theorem dX0_holdsDropped_33 : decode cX0_holdsDropped 33 = .ok (.aload_n 3, 1) := by decide +kernel
theorem dX0_holdsDropped_34 : decode cX0_holdsDropped 34 = .ok (.getfield 45, 3) := by decide +kernel
theorem dX0_holdsDropped_37 : decode cX0_holdsDropped 37 = .ok (.ifCond .eq 5, 3) := by decide +kernel
theorem dX0_holdsDropped_40 : decode cX0_holdsDropped 40 = .ok (.iconst 1, 1) := by decide +kernel
theorem dX0_holdsDropped_41 : decode cX0_holdsDropped 41 = .ok (.ireturn, 1) := by decide +kernel
theorem dX0_holdsDropped_42 : decode cX0_holdsDropped 42 = .ok (.iinc 4 1, 3) := by decide +kernel
theorem dX0_holdsDropped_45 : decode cX0_holdsDropped 45 = .ok (.goto (-37), 3) := by decide +kernel
theorem dX0_holdsDropped_48 : decode cX0_holdsDropped 48 = .ok (.iconst 0, 1) := by decide +kernel
theorem dX0_holdsDropped_49 : decode cX0_holdsDropped 49 = .ok (.ireturn, 1) := by decide +kernel
theorem dX1_init_0 : decode cX1_init 0 = .ok (.aload_n 0, 1) := by decide +kernel
theorem dX1_init_1 : decode cX1_init 1 = .ok (.invokespecial 3, 3) := by decide +kernel
theorem dX1_init_4 : decode cX1_init 4 = .ok (.aload_n 0, 1) := by decide +kernel
theorem dX1_init_5 : decode cX1_init 5 = .ok (.bipush 12, 2) := by decide +kernel
theorem dX1_init_7 : decode cX1_init 7 = .ok (.newarray .int, 2) := by decide +kernel
theorem dX1_init_9 : decode cX1_init 9 = .ok (.putfield 9, 3) := by decide +kernel
theorem dX1_init_12 : decode cX1_init 12 = .ok (.aload_n 0, 1) := by decide +kernel
theorem dX1_init_13 : decode cX1_init 13 = .ok (.iconst 1, 1) := by decide +kernel
theorem dX1_init_14 : decode cX1_init 14 = .ok (.putfield 15, 3) := by decide +kernel
theorem dX1_init_17 : decode cX1_init 17 = .ok (.aload_n 0, 1) := by decide +kernel
theorem dX1_init_18 : decode cX1_init 18 = .ok (.aload_n 1, 1) := by decide +kernel
theorem dX1_init_19 : decode cX1_init 19 = .ok (.putfield 19, 3) := by decide +kernel
theorem dX1_init_22 : decode cX1_init 22 = .ok (.aload_n 0, 1) := by decide +kernel
theorem dX1_init_23 : decode cX1_init 23 = .ok (.aload_n 2, 1) := by decide +kernel
theorem dX1_init_24 : decode cX1_init 24 = .ok (.putfield 23, 3) := by decide +kernel
theorem dX1_init_27 : decode cX1_init 27 = .ok (.return_, 1) := by decide +kernel
theorem dX1_isFull_0 : decode cX1_isFull 0 = .ok (.aload_n 0, 1) := by decide +kernel
theorem dX1_isFull_1 : decode cX1_isFull 1 = .ok (.getfield 26, 3) := by decide +kernel
theorem dX1_isFull_4 : decode cX1_isFull 4 = .ok (.aload_n 0, 1) := by decide +kernel
theorem dX1_isFull_5 : decode cX1_isFull 5 = .ok (.getfield 9, 3) := by decide +kernel
theorem dX1_isFull_8 : decode cX1_isFull 8 = .ok (.arraylength, 1) := by decide +kernel
theorem dX1_isFull_9 : decode cX1_isFull 9 = .ok (.if_icmp .lt 7, 3) := by decide +kernel
theorem dX1_isFull_12 : decode cX1_isFull 12 = .ok (.iconst 1, 1) := by decide +kernel
theorem dX1_isFull_13 : decode cX1_isFull 13 = .ok (.goto 4, 3) := by decide +kernel
theorem dX1_isFull_16 : decode cX1_isFull 16 = .ok (.iconst 0, 1) := by decide +kernel
theorem dX1_isFull_17 : decode cX1_isFull 17 = .ok (.ireturn, 1) := by decide +kernel
theorem dX1_addMove_0 : decode cX1_addMove 0 = .ok (.aload_n 0, 1) := by decide +kernel
theorem dX1_addMove_1 : decode cX1_addMove 1 = .ok (.getfield 26, 3) := by decide +kernel
theorem dX1_addMove_4 : decode cX1_addMove 4 = .ok (.ifCond .lt 47, 3) := by decide +kernel
theorem dX1_addMove_7 : decode cX1_addMove 7 = .ok (.aload_n 0, 1) := by decide +kernel
theorem dX1_addMove_8 : decode cX1_addMove 8 = .ok (.getfield 26, 3) := by decide +kernel
theorem dX1_addMove_11 : decode cX1_addMove 11 = .ok (.aload_n 0, 1) := by decide +kernel
theorem dX1_addMove_12 : decode cX1_addMove 12 = .ok (.getfield 9, 3) := by decide +kernel
theorem dX1_addMove_15 : decode cX1_addMove 15 = .ok (.arraylength, 1) := by decide +kernel
theorem dX1_addMove_16 : decode cX1_addMove 16 = .ok (.if_icmp .ge 35, 3) := by decide +kernel
theorem dX1_addMove_19 : decode cX1_addMove 19 = .ok (.aload_n 0, 1) := by decide +kernel
theorem dX1_addMove_20 : decode cX1_addMove 20 = .ok (.getfield 9, 3) := by decide +kernel
theorem dX1_addMove_23 : decode cX1_addMove 23 = .ok (.aload_n 0, 1) := by decide +kernel
theorem dX1_addMove_24 : decode cX1_addMove 24 = .ok (.getfield 26, 3) := by decide +kernel
theorem dX1_addMove_27 : decode cX1_addMove 27 = .ok (.iload_n 1, 1) := by decide +kernel
theorem dX1_addMove_28 : decode cX1_addMove 28 = .ok (.iastore, 1) := by decide +kernel
theorem dX1_addMove_29 : decode cX1_addMove 29 = .ok (.aload_n 0, 1) := by decide +kernel
theorem dX1_addMove_30 : decode cX1_addMove 30 = .ok (.dup, 1) := by decide +kernel
theorem dX1_addMove_31 : decode cX1_addMove 31 = .ok (.getfield 26, 3) := by decide +kernel
theorem dX1_addMove_34 : decode cX1_addMove 34 = .ok (.iconst 1, 1) := by decide +kernel
theorem dX1_addMove_35 : decode cX1_addMove 35 = .ok (.iadd, 1) := by decide +kernel
theorem dX1_addMove_36 : decode cX1_addMove 36 = .ok (.putfield 26, 3) := by decide +kernel
theorem dX1_addMove_39 : decode cX1_addMove 39 = .ok (.aload_n 0, 1) := by decide +kernel
theorem dX1_addMove_40 : decode cX1_addMove 40 = .ok (.aload_n 0, 1) := by decide +kernel
theorem dX1_addMove_41 : decode cX1_addMove 41 = .ok (.getfield 15, 3) := by decide +kernel
theorem dX1_addMove_44 : decode cX1_addMove 44 = .ok (.iload_n 1, 1) := by decide +kernel
theorem dX1_addMove_45 : decode cX1_addMove 45 = .ok (.invokestatic 29, 3) := by decide +kernel
theorem dX1_addMove_48 : decode cX1_addMove 48 = .ok (.putfield 15, 3) := by decide +kernel
theorem dX1_addMove_51 : decode cX1_addMove 51 = .ok (.return_, 1) := by decide +kernel
theorem dX1_moveAt_0 : decode cX1_moveAt 0 = .ok (.iload_n 1, 1) := by decide +kernel
theorem dX1_moveAt_1 : decode cX1_moveAt 1 = .ok (.ifCond .lt 21, 3) := by decide +kernel
theorem dX1_moveAt_4 : decode cX1_moveAt 4 = .ok (.iload_n 1, 1) := by decide +kernel
theorem dX1_moveAt_5 : decode cX1_moveAt 5 = .ok (.aload_n 0, 1) := by decide +kernel
theorem dX1_moveAt_6 : decode cX1_moveAt 6 = .ok (.getfield 9, 3) := by decide +kernel
theorem dX1_moveAt_9 : decode cX1_moveAt 9 = .ok (.arraylength, 1) := by decide +kernel
theorem dX1_moveAt_10 : decode cX1_moveAt 10 = .ok (.if_icmp .ge 12, 3) := by decide +kernel
theorem dX1_moveAt_13 : decode cX1_moveAt 13 = .ok (.aload_n 0, 1) := by decide +kernel
theorem dX1_moveAt_14 : decode cX1_moveAt 14 = .ok (.getfield 9, 3) := by decide +kernel
theorem dX1_moveAt_17 : decode cX1_moveAt 17 = .ok (.iload_n 1, 1) := by decide +kernel
theorem dX1_moveAt_18 : decode cX1_moveAt 18 = .ok (.iaload, 1) := by decide +kernel
theorem dX1_moveAt_19 : decode cX1_moveAt 19 = .ok (.goto 4, 3) := by decide +kernel
theorem dX1_moveAt_22 : decode cX1_moveAt 22 = .ok (.iconst 0, 1) := by decide +kernel
theorem dX1_moveAt_23 : decode cX1_moveAt 23 = .ok (.ireturn, 1) := by decide +kernel
theorem dX1_beginsWith_0 : decode cX1_beginsWith 0 = .ok (.aload_n 0, 1) := by decide +kernel
theorem dX1_beginsWith_1 : decode cX1_beginsWith 1 = .ok (.getfield 26, 3) := by decide +kernel
theorem dX1_beginsWith_4 : decode cX1_beginsWith 4 = .ok (.iload_n 2, 1) := by decide +kernel
theorem dX1_beginsWith_5 : decode cX1_beginsWith 5 = .ok (.if_icmp .ge 5, 3) := by decide +kernel
theorem dX1_beginsWith_8 : decode cX1_beginsWith 8 = .ok (.iconst 0, 1) := by decide +kernel
theorem dX1_beginsWith_9 : decode cX1_beginsWith 9 = .ok (.ireturn, 1) := by decide +kernel
theorem dX1_beginsWith_10 : decode cX1_beginsWith 10 = .ok (.iconst 0, 1) := by decide +kernel
theorem dX1_beginsWith_11 : decode cX1_beginsWith 11 = .ok (.istore_n 3, 1) := by decide +kernel
theorem dX1_beginsWith_12 : decode cX1_beginsWith 12 = .ok (.iload_n 3, 1) := by decide +kernel
theorem dX1_beginsWith_13 : decode cX1_beginsWith 13 = .ok (.iload_n 2, 1) := by decide +kernel
theorem dX1_beginsWith_14 : decode cX1_beginsWith 14 = .ok (.if_icmp .ge 24, 3) := by decide +kernel
theorem dX1_beginsWith_17 : decode cX1_beginsWith 17 = .ok (.aload_n 0, 1) := by decide +kernel
theorem dX1_beginsWith_18 : decode cX1_beginsWith 18 = .ok (.iload_n 3, 1) := by decide +kernel
theorem dX1_beginsWith_19 : decode cX1_beginsWith 19 = .ok (.invokevirtual 33, 3) := by decide +kernel
theorem dX1_beginsWith_22 : decode cX1_beginsWith 22 = .ok (.iload_n 1, 1) := by decide +kernel
theorem dX1_beginsWith_23 : decode cX1_beginsWith 23 = .ok (.iload_n 3, 1) := by decide +kernel
theorem dX1_beginsWith_24 : decode cX1_beginsWith 24 = .ok (.invokestatic 37, 3) := by decide +kernel
theorem dX1_beginsWith_27 : decode cX1_beginsWith 27 = .ok (.if_icmp .eq 5, 3) := by decide +kernel
theorem dX1_beginsWith_30 : decode cX1_beginsWith 30 = .ok (.iconst 0, 1) := by decide +kernel
theorem dX1_beginsWith_31 : decode cX1_beginsWith 31 = .ok (.ireturn, 1) := by decide +kernel
theorem dX1_beginsWith_32 : decode cX1_beginsWith 32 = .ok (.iinc 3 1, 3) := by decide +kernel
theorem dX1_beginsWith_35 : decode cX1_beginsWith 35 = .ok (.goto (-23), 3) := by decide +kernel
theorem dX1_beginsWith_38 : decode cX1_beginsWith 38 = .ok (.iconst 1, 1) := by decide +kernel
theorem dX1_beginsWith_39 : decode cX1_beginsWith 39 = .ok (.ireturn, 1) := by decide +kernel
theorem dX2_init_0 : decode cX2_init 0 = .ok (.aload_n 0, 1) := by decide +kernel
theorem dX2_init_1 : decode cX2_init 1 = .ok (.invokespecial 3, 3) := by decide +kernel
theorem dX2_init_4 : decode cX2_init 4 = .ok (.aload_n 0, 1) := by decide +kernel
theorem dX2_init_5 : decode cX2_init 5 = .ok (.iconst 4, 1) := by decide +kernel
theorem dX2_init_6 : decode cX2_init 6 = .ok (.anewarray 9, 3) := by decide +kernel
theorem dX2_init_9 : decode cX2_init 9 = .ok (.putfield 11, 3) := by decide +kernel
theorem dX2_init_12 : decode cX2_init 12 = .ok (.return_, 1) := by decide +kernel
theorem dX2_goingOnWith_0 : decode cX2_goingOnWith 0 = .ok (.iload_n 1, 1) := by decide +kernel
theorem dX2_goingOnWith_1 : decode cX2_goingOnWith 1 = .ok (.ifCond .lt 21, 3) := by decide +kernel
theorem dX2_goingOnWith_4 : decode cX2_goingOnWith 4 = .ok (.iload_n 1, 1) := by decide +kernel
theorem dX2_goingOnWith_5 : decode cX2_goingOnWith 5 = .ok (.aload_n 0, 1) := by decide +kernel
theorem dX2_goingOnWith_6 : decode cX2_goingOnWith 6 = .ok (.getfield 11, 3) := by decide +kernel
theorem dX2_goingOnWith_9 : decode cX2_goingOnWith 9 = .ok (.arraylength, 1) := by decide +kernel
theorem dX2_goingOnWith_10 : decode cX2_goingOnWith 10 = .ok (.if_icmp .ge 12, 3) := by decide +kernel
theorem dX2_goingOnWith_13 : decode cX2_goingOnWith 13 = .ok (.aload_n 0, 1) := by decide +kernel
theorem dX2_goingOnWith_14 : decode cX2_goingOnWith 14 = .ok (.getfield 11, 3) := by decide +kernel
theorem dX2_goingOnWith_17 : decode cX2_goingOnWith 17 = .ok (.iload_n 1, 1) := by decide +kernel
theorem dX2_goingOnWith_18 : decode cX2_goingOnWith 18 = .ok (.aaload, 1) := by decide +kernel
theorem dX2_goingOnWith_19 : decode cX2_goingOnWith 19 = .ok (.goto 4, 3) := by decide +kernel
theorem dX2_goingOnWith_22 : decode cX2_goingOnWith 22 = .ok (.aconst_null, 1) := by decide +kernel
theorem dX2_goingOnWith_23 : decode cX2_goingOnWith 23 = .ok (.areturn, 1) := by decide +kernel
theorem dX2_madeWith_0 : decode cX2_madeWith 0 = .ok (.iload_n 1, 1) := by decide +kernel
theorem dX2_madeWith_1 : decode cX2_madeWith 1 = .ok (.ifCond .lt 12, 3) := by decide +kernel
theorem dX2_madeWith_4 : decode cX2_madeWith 4 = .ok (.iload_n 1, 1) := by decide +kernel
theorem dX2_madeWith_5 : decode cX2_madeWith 5 = .ok (.aload_n 0, 1) := by decide +kernel
theorem dX2_madeWith_6 : decode cX2_madeWith 6 = .ok (.getfield 11, 3) := by decide +kernel
theorem dX2_madeWith_9 : decode cX2_madeWith 9 = .ok (.arraylength, 1) := by decide +kernel
theorem dX2_madeWith_10 : decode cX2_madeWith 10 = .ok (.if_icmp .lt 5, 3) := by decide +kernel
theorem dX2_madeWith_13 : decode cX2_madeWith 13 = .ok (.aconst_null, 1) := by decide +kernel
theorem dX2_madeWith_14 : decode cX2_madeWith 14 = .ok (.areturn, 1) := by decide +kernel
theorem dX2_madeWith_15 : decode cX2_madeWith 15 = .ok (.aload_n 0, 1) := by decide +kernel
theorem dX2_madeWith_16 : decode cX2_madeWith 16 = .ok (.getfield 11, 3) := by decide +kernel
theorem dX2_madeWith_19 : decode cX2_madeWith 19 = .ok (.iload_n 1, 1) := by decide +kernel
theorem dX2_madeWith_20 : decode cX2_madeWith 20 = .ok (.aaload, 1) := by decide +kernel
theorem dX2_madeWith_21 : decode cX2_madeWith 21 = .ok (.astore_n 2, 1) := by decide +kernel
theorem dX2_madeWith_22 : decode cX2_madeWith 22 = .ok (.aload_n 2, 1) := by decide +kernel
theorem dX2_madeWith_23 : decode cX2_madeWith 23 = .ok (.ifnonnull 18, 3) := by decide +kernel
theorem dX2_madeWith_26 : decode cX2_madeWith 26 = .ok (.new 9, 3) := by decide +kernel
theorem dX2_madeWith_29 : decode cX2_madeWith 29 = .ok (.dup, 1) := by decide +kernel
theorem dX2_madeWith_30 : decode cX2_madeWith 30 = .ok (.invokespecial 15, 3) := by decide +kernel
theorem dX2_madeWith_33 : decode cX2_madeWith 33 = .ok (.astore_n 2, 1) := by decide +kernel
theorem dX2_madeWith_34 : decode cX2_madeWith 34 = .ok (.aload_n 0, 1) := by decide +kernel
theorem dX2_madeWith_35 : decode cX2_madeWith 35 = .ok (.getfield 11, 3) := by decide +kernel
theorem dX2_madeWith_38 : decode cX2_madeWith 38 = .ok (.iload_n 1, 1) := by decide +kernel
theorem dX2_madeWith_39 : decode cX2_madeWith 39 = .ok (.aload_n 2, 1) := by decide +kernel
theorem dX2_madeWith_40 : decode cX2_madeWith 40 = .ok (.aastore, 1) := by decide +kernel
theorem dX2_madeWith_41 : decode cX2_madeWith 41 = .ok (.aload_n 2, 1) := by decide +kernel
theorem dX2_madeWith_42 : decode cX2_madeWith 42 = .ok (.areturn, 1) := by decide +kernel
theorem dX2_doesBadly_0 : decode cX2_doesBadly 0 = .ok (.iload_n 1, 1) := by decide +kernel
theorem dX2_doesBadly_1 : decode cX2_doesBadly 1 = .ok (.ifCond .eq 10, 3) := by decide +kernel
theorem dX2_doesBadly_4 : decode cX2_doesBadly 4 = .ok (.aload_n 0, 1) := by decide +kernel
theorem dX2_doesBadly_5 : decode cX2_doesBadly 5 = .ok (.getfield 16, 3) := by decide +kernel
theorem dX2_doesBadly_8 : decode cX2_doesBadly 8 = .ok (.goto 14, 3) := by decide +kernel
theorem dX2_doesBadly_11 : decode cX2_doesBadly 11 = .ok (.iconst 2, 1) := by decide +kernel
theorem dX2_doesBadly_12 : decode cX2_doesBadly 12 = .ok (.aload_n 0, 1) := by decide +kernel
theorem dX2_doesBadly_13 : decode cX2_doesBadly 13 = .ok (.getfield 20, 3) := by decide +kernel
theorem dX2_doesBadly_16 : decode cX2_doesBadly 16 = .ok (.imul, 1) := by decide +kernel
theorem dX2_doesBadly_17 : decode cX2_doesBadly 17 = .ok (.aload_n 0, 1) := by decide +kernel
theorem dX2_doesBadly_18 : decode cX2_doesBadly 18 = .ok (.getfield 16, 3) := by decide +kernel
theorem dX2_doesBadly_21 : decode cX2_doesBadly 21 = .ok (.isub, 1) := by decide +kernel
theorem dX2_doesBadly_22 : decode cX2_doesBadly 22 = .ok (.istore_n 2, 1) := by decide +kernel
theorem dX2_doesBadly_23 : decode cX2_doesBadly 23 = .ok (.aload_n 0, 1) := by decide +kernel
theorem dX2_doesBadly_24 : decode cX2_doesBadly 24 = .ok (.getfield 20, 3) := by decide +kernel
theorem dX2_doesBadly_27 : decode cX2_doesBadly 27 = .ok (.iconst 3, 1) := by decide +kernel
theorem dX2_doesBadly_28 : decode cX2_doesBadly 28 = .ok (.if_icmp .lt 19, 3) := by decide +kernel
theorem dX2_doesBadly_31 : decode cX2_doesBadly 31 = .ok (.iconst 3, 1) := by decide +kernel
theorem dX2_doesBadly_32 : decode cX2_doesBadly 32 = .ok (.iload_n 2, 1) := by decide +kernel
theorem dX2_doesBadly_33 : decode cX2_doesBadly 33 = .ok (.imul, 1) := by decide +kernel
theorem dX2_doesBadly_34 : decode cX2_doesBadly 34 = .ok (.iconst 2, 1) := by decide +kernel
theorem dX2_doesBadly_35 : decode cX2_doesBadly 35 = .ok (.aload_n 0, 1) := by decide +kernel
theorem dX2_doesBadly_36 : decode cX2_doesBadly 36 = .ok (.getfield 20, 3) := by decide +kernel
theorem dX2_doesBadly_39 : decode cX2_doesBadly 39 = .ok (.imul, 1) := by decide +kernel
theorem dX2_doesBadly_40 : decode cX2_doesBadly 40 = .ok (.if_icmp .ge 7, 3) := by decide +kernel
theorem dX2_doesBadly_43 : decode cX2_doesBadly 43 = .ok (.iconst 1, 1) := by decide +kernel
theorem dX2_doesBadly_44 : decode cX2_doesBadly 44 = .ok (.goto 4, 3) := by decide +kernel
theorem dX2_doesBadly_47 : decode cX2_doesBadly 47 = .ok (.iconst 0, 1) := by decide +kernel
theorem dX2_doesBadly_48 : decode cX2_doesBadly 48 = .ok (.ireturn, 1) := by decide +kernel
theorem dX3_init_0 : decode cX3_init 0 = .ok (.aload_n 0, 1) := by decide +kernel
theorem dX3_init_1 : decode cX3_init 1 = .ok (.invokespecial 3, 3) := by decide +kernel
theorem dX3_init_4 : decode cX3_init 4 = .ok (.aload_n 0, 1) := by decide +kernel
theorem dX3_init_5 : decode cX3_init 5 = .ok (.iconst 5, 1) := by decide +kernel
theorem dX3_init_6 : decode cX3_init 6 = .ok (.newarray .int, 2) := by decide +kernel
theorem dX3_init_8 : decode cX3_init 8 = .ok (.putfield 9, 3) := by decide +kernel
theorem dX3_init_11 : decode cX3_init 11 = .ok (.aload_n 0, 1) := by decide +kernel
theorem dX3_init_12 : decode cX3_init 12 = .ok (.bipush 40, 2) := by decide +kernel
theorem dX3_init_14 : decode cX3_init 14 = .ok (.newarray .boolean, 2) := by decide +kernel
theorem dX3_init_16 : decode cX3_init 16 = .ok (.putfield 15, 3) := by decide +kernel
theorem dX3_init_19 : decode cX3_init 19 = .ok (.aload_n 0, 1) := by decide +kernel
theorem dX3_init_20 : decode cX3_init 20 = .ok (.bipush 8, 2) := by decide +kernel
theorem dX3_init_22 : decode cX3_init 22 = .ok (.newarray .boolean, 2) := by decide +kernel
theorem dX3_init_24 : decode cX3_init 24 = .ok (.putfield 19, 3) := by decide +kernel
theorem dX3_init_27 : decode cX3_init 27 = .ok (.aload_n 0, 1) := by decide +kernel
theorem dX3_init_28 : decode cX3_init 28 = .ok (.iload_n 1, 1) := by decide +kernel
theorem dX3_init_29 : decode cX3_init 29 = .ok (.putfield 22, 3) := by decide +kernel
theorem dX3_init_32 : decode cX3_init 32 = .ok (.iconst 0, 1) := by decide +kernel
theorem dX3_init_33 : decode cX3_init 33 = .ok (.istore_n 2, 1) := by decide +kernel
theorem dX3_init_34 : decode cX3_init 34 = .ok (.iload_n 2, 1) := by decide +kernel
theorem dX3_init_35 : decode cX3_init 35 = .ok (.aload_n 0, 1) := by decide +kernel
theorem dX3_init_36 : decode cX3_init 36 = .ok (.getfield 9, 3) := by decide +kernel
theorem dX3_init_39 : decode cX3_init 39 = .ok (.arraylength, 1) := by decide +kernel
theorem dX3_init_40 : decode cX3_init 40 = .ok (.if_icmp .ge 18, 3) := by decide +kernel
theorem dX3_init_43 : decode cX3_init 43 = .ok (.aload_n 0, 1) := by decide +kernel
theorem dX3_init_44 : decode cX3_init 44 = .ok (.getfield 9, 3) := by decide +kernel
theorem dX3_init_47 : decode cX3_init 47 = .ok (.iload_n 2, 1) := by decide +kernel
theorem dX3_init_48 : decode cX3_init 48 = .ok (.sipush 1000, 3) := by decide +kernel
theorem dX3_init_51 : decode cX3_init 51 = .ok (.iastore, 1) := by decide +kernel
theorem dX3_init_52 : decode cX3_init 52 = .ok (.iinc 2 1, 3) := by decide +kernel
theorem dX3_init_55 : decode cX3_init 55 = .ok (.goto (-21), 3) := by decide +kernel
theorem dX3_init_58 : decode cX3_init 58 = .ok (.return_, 1) := by decide +kernel
theorem dX3_endGameAsWhite_0 : decode cX3_endGameAsWhite 0 = .ok (.aload_n 0, 1) := by decide +kernel
theorem dX3_endGameAsWhite_1 : decode cX3_endGameAsWhite 1 = .ok (.dup, 1) := by decide +kernel
theorem dX3_endGameAsWhite_2 : decode cX3_endGameAsWhite 2 = .ok (.getfield 26, 3) := by decide +kernel
theorem dX3_endGameAsWhite_5 : decode cX3_endGameAsWhite 5 = .ok (.iconst 1, 1) := by decide +kernel
theorem dX3_endGameAsWhite_6 : decode cX3_endGameAsWhite 6 = .ok (.iadd, 1) := by decide +kernel
theorem dX3_endGameAsWhite_7 : decode cX3_endGameAsWhite 7 = .ok (.putfield 26, 3) := by decide +kernel
theorem dX3_endGameAsWhite_10 : decode cX3_endGameAsWhite 10 = .ok (.aload_n 0, 1) := by decide +kernel
theorem dX3_endGameAsWhite_11 : decode cX3_endGameAsWhite 11 = .ok (.aload_n 1, 1) := by decide +kernel
theorem dX3_endGameAsWhite_12 : decode cX3_endGameAsWhite 12 = .ok (.iload_n 2, 1) := by decide +kernel
theorem dX3_endGameAsWhite_13 : decode cX3_endGameAsWhite 13 = .ok (.invokevirtual 29, 3) := by decide +kernel
theorem dX3_endGameAsWhite_16 : decode cX3_endGameAsWhite 16 = .ok (.return_, 1) := by decide +kernel
theorem dX3_endGameAsBlack_0 : decode cX3_endGameAsBlack 0 = .ok (.aload_n 0, 1) := by decide +kernel
theorem dX3_endGameAsBlack_1 : decode cX3_endGameAsBlack 1 = .ok (.dup, 1) := by decide +kernel
theorem dX3_endGameAsBlack_2 : decode cX3_endGameAsBlack 2 = .ok (.getfield 33, 3) := by decide +kernel
theorem dX3_endGameAsBlack_5 : decode cX3_endGameAsBlack 5 = .ok (.iconst 1, 1) := by decide +kernel
theorem dX3_endGameAsBlack_6 : decode cX3_endGameAsBlack 6 = .ok (.iadd, 1) := by decide +kernel
theorem dX3_endGameAsBlack_7 : decode cX3_endGameAsBlack 7 = .ok (.putfield 33, 3) := by decide +kernel
theorem dX3_endGameAsBlack_10 : decode cX3_endGameAsBlack 10 = .ok (.aload_n 0, 1) := by decide +kernel
theorem dX3_endGameAsBlack_11 : decode cX3_endGameAsBlack 11 = .ok (.aload_n 1, 1) := by decide +kernel
theorem dX3_endGameAsBlack_12 : decode cX3_endGameAsBlack 12 = .ok (.iload_n 2, 1) := by decide +kernel
theorem dX3_endGameAsBlack_13 : decode cX3_endGameAsBlack 13 = .ok (.invokevirtual 29, 3) := by decide +kernel
theorem dX3_endGameAsBlack_16 : decode cX3_endGameAsBlack 16 = .ok (.return_, 1) := by decide +kernel
theorem dX3_endGame_0 : decode cX3_endGame 0 = .ok (.aload_n 0, 1) := by decide +kernel
theorem dX3_endGame_1 : decode cX3_endGame 1 = .ok (.dup, 1) := by decide +kernel
theorem dX3_endGame_2 : decode cX3_endGame 2 = .ok (.getfield 36, 3) := by decide +kernel
theorem dX3_endGame_5 : decode cX3_endGame 5 = .ok (.iload_n 2, 1) := by decide +kernel
theorem dX3_endGame_6 : decode cX3_endGame 6 = .ok (.iadd, 1) := by decide +kernel
theorem dX3_endGame_7 : decode cX3_endGame 7 = .ok (.putfield 36, 3) := by decide +kernel
theorem dX3_endGame_10 : decode cX3_endGame 10 = .ok (.aload_n 1, 1) := by decide +kernel
theorem dX3_endGame_11 : decode cX3_endGame 11 = .ok (.getfield 22, 3) := by decide +kernel
theorem dX3_endGame_14 : decode cX3_endGame 14 = .ok (.ifCond .lt 25, 3) := by decide +kernel
theorem dX3_endGame_17 : decode cX3_endGame 17 = .ok (.aload_n 1, 1) := by decide +kernel
theorem dX3_endGame_18 : decode cX3_endGame 18 = .ok (.getfield 22, 3) := by decide +kernel
theorem dX3_endGame_21 : decode cX3_endGame 21 = .ok (.aload_n 0, 1) := by decide +kernel
theorem dX3_endGame_22 : decode cX3_endGame 22 = .ok (.getfield 19, 3) := by decide +kernel
theorem dX3_endGame_25 : decode cX3_endGame 25 = .ok (.arraylength, 1) := by decide +kernel
theorem dX3_endGame_26 : decode cX3_endGame 26 = .ok (.if_icmp .ge 13, 3) := by decide +kernel
theorem dX3_endGame_29 : decode cX3_endGame 29 = .ok (.aload_n 0, 1) := by decide +kernel
theorem dX3_endGame_30 : decode cX3_endGame 30 = .ok (.getfield 19, 3) := by decide +kernel
theorem dX3_endGame_33 : decode cX3_endGame 33 = .ok (.aload_n 1, 1) := by decide +kernel
theorem dX3_endGame_34 : decode cX3_endGame 34 = .ok (.getfield 22, 3) := by decide +kernel
theorem dX3_endGame_37 : decode cX3_endGame 37 = .ok (.iconst 1, 1) := by decide +kernel
theorem dX3_endGame_38 : decode cX3_endGame 38 = .ok (.bastore, 1) := by decide +kernel
theorem dX3_endGame_39 : decode cX3_endGame 39 = .ok (.return_, 1) := by decide +kernel
theorem dX3_hasMet_0 : decode cX3_hasMet 0 = .ok (.aload_n 1, 1) := by decide +kernel
theorem dX3_hasMet_1 : decode cX3_hasMet 1 = .ok (.getfield 22, 3) := by decide +kernel
theorem dX3_hasMet_4 : decode cX3_hasMet 4 = .ok (.ifCond .lt 31, 3) := by decide +kernel
theorem dX3_hasMet_7 : decode cX3_hasMet 7 = .ok (.aload_n 1, 1) := by decide +kernel
theorem dX3_hasMet_8 : decode cX3_hasMet 8 = .ok (.getfield 22, 3) := by decide +kernel
theorem dX3_hasMet_11 : decode cX3_hasMet 11 = .ok (.aload_n 0, 1) := by decide +kernel
theorem dX3_hasMet_12 : decode cX3_hasMet 12 = .ok (.getfield 19, 3) := by decide +kernel
theorem dX3_hasMet_15 : decode cX3_hasMet 15 = .ok (.arraylength, 1) := by decide +kernel
theorem dX3_hasMet_16 : decode cX3_hasMet 16 = .ok (.if_icmp .ge 19, 3) := by decide +kernel
theorem dX3_hasMet_19 : decode cX3_hasMet 19 = .ok (.aload_n 0, 1) := by decide +kernel
theorem dX3_hasMet_20 : decode cX3_hasMet 20 = .ok (.getfield 19, 3) := by decide +kernel
theorem dX3_hasMet_23 : decode cX3_hasMet 23 = .ok (.aload_n 1, 1) := by decide +kernel
theorem dX3_hasMet_24 : decode cX3_hasMet 24 = .ok (.getfield 22, 3) := by decide +kernel
theorem dX3_hasMet_27 : decode cX3_hasMet 27 = .ok (.baload, 1) := by decide +kernel
theorem dX3_hasMet_28 : decode cX3_hasMet 28 = .ok (.ifCond .eq 7, 3) := by decide +kernel
theorem dX3_hasMet_31 : decode cX3_hasMet 31 = .ok (.iconst 1, 1) := by decide +kernel
theorem dX3_hasMet_32 : decode cX3_hasMet 32 = .ok (.goto 4, 3) := by decide +kernel
theorem dX3_hasMet_35 : decode cX3_hasMet 35 = .ok (.iconst 0, 1) := by decide +kernel
theorem dX3_hasMet_36 : decode cX3_hasMet 36 = .ok (.ireturn, 1) := by decide +kernel
theorem dX3_colourBalance_0 : decode cX3_colourBalance 0 = .ok (.aload_n 0, 1) := by decide +kernel
theorem dX3_colourBalance_1 : decode cX3_colourBalance 1 = .ok (.getfield 26, 3) := by decide +kernel
theorem dX3_colourBalance_4 : decode cX3_colourBalance 4 = .ok (.aload_n 0, 1) := by decide +kernel
theorem dX3_colourBalance_5 : decode cX3_colourBalance 5 = .ok (.getfield 33, 3) := by decide +kernel
theorem dX3_colourBalance_8 : decode cX3_colourBalance 8 = .ok (.isub, 1) := by decide +kernel
theorem dX3_colourBalance_9 : decode cX3_colourBalance 9 = .ok (.ireturn, 1) := by decide +kernel
theorem dX3_standsAheadOf_0 : decode cX3_standsAheadOf 0 = .ok (.aload_n 1, 1) := by decide +kernel
theorem dX3_standsAheadOf_1 : decode cX3_standsAheadOf 1 = .ok (.ifnull 14, 3) := by decide +kernel
theorem dX3_standsAheadOf_4 : decode cX3_standsAheadOf 4 = .ok (.aload_n 0, 1) := by decide +kernel
theorem dX3_standsAheadOf_5 : decode cX3_standsAheadOf 5 = .ok (.getfield 36, 3) := by decide +kernel
theorem dX3_standsAheadOf_8 : decode cX3_standsAheadOf 8 = .ok (.aload_n 1, 1) := by decide +kernel
theorem dX3_standsAheadOf_9 : decode cX3_standsAheadOf 9 = .ok (.getfield 36, 3) := by decide +kernel
theorem dX3_standsAheadOf_12 : decode cX3_standsAheadOf 12 = .ok (.if_icmp .le 5, 3) := by decide +kernel
theorem dX3_standsAheadOf_15 : decode cX3_standsAheadOf 15 = .ok (.iconst 1, 1) := by decide +kernel
theorem dX3_standsAheadOf_16 : decode cX3_standsAheadOf 16 = .ok (.ireturn, 1) := by decide +kernel
theorem dX3_standsAheadOf_17 : decode cX3_standsAheadOf 17 = .ok (.aload_n 0, 1) := by decide +kernel
theorem dX3_standsAheadOf_18 : decode cX3_standsAheadOf 18 = .ok (.getfield 36, 3) := by decide +kernel
theorem dX3_standsAheadOf_21 : decode cX3_standsAheadOf 21 = .ok (.aload_n 1, 1) := by decide +kernel
theorem dX3_standsAheadOf_22 : decode cX3_standsAheadOf 22 = .ok (.getfield 36, 3) := by decide +kernel
theorem dX3_standsAheadOf_25 : decode cX3_standsAheadOf 25 = .ok (.if_icmp .ne 18, 3) := by decide +kernel
theorem dX3_standsAheadOf_28 : decode cX3_standsAheadOf 28 = .ok (.aload_n 0, 1) := by decide +kernel
theorem dX3_standsAheadOf_29 : decode cX3_standsAheadOf 29 = .ok (.getfield 22, 3) := by decide +kernel
theorem dX3_standsAheadOf_32 : decode cX3_standsAheadOf 32 = .ok (.aload_n 1, 1) := by decide +kernel
theorem dX3_standsAheadOf_33 : decode cX3_standsAheadOf 33 = .ok (.getfield 22, 3) := by decide +kernel
theorem dX3_standsAheadOf_36 : decode cX3_standsAheadOf 36 = .ok (.if_icmp .ge 7, 3) := by decide +kernel
theorem dX3_standsAheadOf_39 : decode cX3_standsAheadOf 39 = .ok (.iconst 1, 1) := by decide +kernel
theorem dX3_standsAheadOf_40 : decode cX3_standsAheadOf 40 = .ok (.goto 4, 3) := by decide +kernel
theorem dX3_standsAheadOf_43 : decode cX3_standsAheadOf 43 = .ok (.iconst 0, 1) := by decide +kernel
theorem dX3_standsAheadOf_44 : decode cX3_standsAheadOf 44 = .ok (.ireturn, 1) := by decide +kernel
theorem dX3_hasTried_0 : decode cX3_hasTried 0 = .ok (.iload_n 1, 1) := by decide +kernel
theorem dX3_hasTried_1 : decode cX3_hasTried 1 = .ok (.ifCond .lt 25, 3) := by decide +kernel
theorem dX3_hasTried_4 : decode cX3_hasTried 4 = .ok (.iload_n 1, 1) := by decide +kernel
theorem dX3_hasTried_5 : decode cX3_hasTried 5 = .ok (.aload_n 0, 1) := by decide +kernel
theorem dX3_hasTried_6 : decode cX3_hasTried 6 = .ok (.getfield 15, 3) := by decide +kernel
theorem dX3_hasTried_9 : decode cX3_hasTried 9 = .ok (.arraylength, 1) := by decide +kernel
theorem dX3_hasTried_10 : decode cX3_hasTried 10 = .ok (.if_icmp .ge 16, 3) := by decide +kernel
theorem dX3_hasTried_13 : decode cX3_hasTried 13 = .ok (.aload_n 0, 1) := by decide +kernel
theorem dX3_hasTried_14 : decode cX3_hasTried 14 = .ok (.getfield 15, 3) := by decide +kernel
theorem dX3_hasTried_17 : decode cX3_hasTried 17 = .ok (.iload_n 1, 1) := by decide +kernel
theorem dX3_hasTried_18 : decode cX3_hasTried 18 = .ok (.baload, 1) := by decide +kernel
theorem dX3_hasTried_19 : decode cX3_hasTried 19 = .ok (.ifCond .eq 7, 3) := by decide +kernel
theorem dX3_hasTried_22 : decode cX3_hasTried 22 = .ok (.iconst 1, 1) := by decide +kernel
theorem dX3_hasTried_23 : decode cX3_hasTried 23 = .ok (.goto 4, 3) := by decide +kernel
theorem dX3_hasTried_26 : decode cX3_hasTried 26 = .ok (.iconst 0, 1) := by decide +kernel
theorem dX3_hasTried_27 : decode cX3_hasTried 27 = .ok (.ireturn, 1) := by decide +kernel
theorem dX3_markTried_0 : decode cX3_markTried 0 = .ok (.iload_n 1, 1) := by decide +kernel
theorem dX3_markTried_1 : decode cX3_markTried 1 = .ok (.ifCond .lt 19, 3) := by decide +kernel
theorem dX3_markTried_4 : decode cX3_markTried 4 = .ok (.iload_n 1, 1) := by decide +kernel
theorem dX3_markTried_5 : decode cX3_markTried 5 = .ok (.aload_n 0, 1) := by decide +kernel
theorem dX3_markTried_6 : decode cX3_markTried 6 = .ok (.getfield 15, 3) := by decide +kernel
theorem dX3_markTried_9 : decode cX3_markTried 9 = .ok (.arraylength, 1) := by decide +kernel
theorem dX3_markTried_10 : decode cX3_markTried 10 = .ok (.if_icmp .ge 10, 3) := by decide +kernel
theorem dX3_markTried_13 : decode cX3_markTried 13 = .ok (.aload_n 0, 1) := by decide +kernel
theorem dX3_markTried_14 : decode cX3_markTried 14 = .ok (.getfield 15, 3) := by decide +kernel
theorem dX3_markTried_17 : decode cX3_markTried 17 = .ok (.iload_n 1, 1) := by decide +kernel
theorem dX3_markTried_18 : decode cX3_markTried 18 = .ok (.iconst 1, 1) := by decide +kernel
theorem dX3_markTried_19 : decode cX3_markTried 19 = .ok (.bastore, 1) := by decide +kernel
theorem dX3_markTried_20 : decode cX3_markTried 20 = .ok (.return_, 1) := by decide +kernel
theorem dX3_ratingIn_0 : decode cX3_ratingIn 0 = .ok (.iload_n 1, 1) := by decide +kernel
theorem dX3_ratingIn_1 : decode cX3_ratingIn 1 = .ok (.ifCond .lt 21, 3) := by decide +kernel
theorem dX3_ratingIn_4 : decode cX3_ratingIn 4 = .ok (.iload_n 1, 1) := by decide +kernel
theorem dX3_ratingIn_5 : decode cX3_ratingIn 5 = .ok (.aload_n 0, 1) := by decide +kernel
theorem dX3_ratingIn_6 : decode cX3_ratingIn 6 = .ok (.getfield 9, 3) := by decide +kernel
theorem dX3_ratingIn_9 : decode cX3_ratingIn 9 = .ok (.arraylength, 1) := by decide +kernel
theorem dX3_ratingIn_10 : decode cX3_ratingIn 10 = .ok (.if_icmp .ge 12, 3) := by decide +kernel
theorem dX3_ratingIn_13 : decode cX3_ratingIn 13 = .ok (.aload_n 0, 1) := by decide +kernel
theorem dX3_ratingIn_14 : decode cX3_ratingIn 14 = .ok (.getfield 9, 3) := by decide +kernel
theorem dX3_ratingIn_17 : decode cX3_ratingIn 17 = .ok (.iload_n 1, 1) := by decide +kernel
theorem dX3_ratingIn_18 : decode cX3_ratingIn 18 = .ok (.iaload, 1) := by decide +kernel
theorem dX3_ratingIn_19 : decode cX3_ratingIn 19 = .ok (.goto 6, 3) := by decide +kernel
theorem dX3_ratingIn_22 : decode cX3_ratingIn 22 = .ok (.sipush 1000, 3) := by decide +kernel
theorem dX3_ratingIn_25 : decode cX3_ratingIn 25 = .ok (.ireturn, 1) := by decide +kernel
theorem dX3_needsMore_0 : decode cX3_needsMore 0 = .ok (.aload_n 0, 1) := by decide +kernel
theorem dX3_needsMore_1 : decode cX3_needsMore 1 = .ok (.iload_n 1, 1) := by decide +kernel
theorem dX3_needsMore_2 : decode cX3_needsMore 2 = .ok (.invokevirtual 39, 3) := by decide +kernel
theorem dX3_needsMore_5 : decode cX3_needsMore 5 = .ok (.istore_n 3, 1) := by decide +kernel
theorem dX3_needsMore_6 : decode cX3_needsMore 6 = .ok (.aload_n 0, 1) := by decide +kernel
theorem dX3_needsMore_7 : decode cX3_needsMore 7 = .ok (.iload_n 2, 1) := by decide +kernel
theorem dX3_needsMore_8 : decode cX3_needsMore 8 = .ok (.invokevirtual 39, 3) := by decide +kernel
theorem dX3_needsMore_11 : decode cX3_needsMore 11 = .ok (.istore 4, 2) := by decide +kernel
theorem dX3_needsMore_13 : decode cX3_needsMore 13 = .ok (.iload_n 3, 1) := by decide +kernel
theorem dX3_needsMore_14 : decode cX3_needsMore 14 = .ok (.iload 4, 2) := by decide +kernel
theorem dX3_needsMore_16 : decode cX3_needsMore 16 = .ok (.if_icmp .lt 14, 3) := by decide +kernel
theorem dX3_needsMore_19 : decode cX3_needsMore 19 = .ok (.iload_n 3, 1) := by decide +kernel
theorem dX3_needsMore_20 : decode cX3_needsMore 20 = .ok (.iload 4, 2) := by decide +kernel
theorem dX3_needsMore_22 : decode cX3_needsMore 22 = .ok (.if_icmp .ne 12, 3) := by decide +kernel
theorem dX3_needsMore_25 : decode cX3_needsMore 25 = .ok (.iload_n 1, 1) := by decide +kernel
theorem dX3_needsMore_26 : decode cX3_needsMore 26 = .ok (.iload_n 2, 1) := by decide +kernel
theorem dX3_needsMore_27 : decode cX3_needsMore 27 = .ok (.if_icmp .ge 7, 3) := by decide +kernel
theorem dX3_needsMore_30 : decode cX3_needsMore 30 = .ok (.iconst 1, 1) := by decide +kernel
theorem dX3_needsMore_31 : decode cX3_needsMore 31 = .ok (.goto 4, 3) := by decide +kernel
theorem dX3_needsMore_34 : decode cX3_needsMore 34 = .ok (.iconst 0, 1) := by decide +kernel
theorem dX3_needsMore_35 : decode cX3_needsMore 35 = .ok (.ireturn, 1) := by decide +kernel
theorem dX3_changeRating_0 : decode cX3_changeRating 0 = .ok (.iload_n 1, 1) := by decide +kernel
theorem dX3_changeRating_1 : decode cX3_changeRating 1 = .ok (.ifCond .lt 28, 3) := by decide +kernel
theorem dX3_changeRating_4 : decode cX3_changeRating 4 = .ok (.iload_n 1, 1) := by decide +kernel
theorem dX3_changeRating_5 : decode cX3_changeRating 5 = .ok (.aload_n 0, 1) := by decide +kernel
theorem dX3_changeRating_6 : decode cX3_changeRating 6 = .ok (.getfield 9, 3) := by decide +kernel
theorem dX3_changeRating_9 : decode cX3_changeRating 9 = .ok (.arraylength, 1) := by decide +kernel
theorem dX3_changeRating_10 : decode cX3_changeRating 10 = .ok (.if_icmp .ge 19, 3) := by decide +kernel
theorem dX3_changeRating_13 : decode cX3_changeRating 13 = .ok (.aload_n 0, 1) := by decide +kernel
theorem dX3_changeRating_14 : decode cX3_changeRating 14 = .ok (.getfield 9, 3) := by decide +kernel
theorem dX3_changeRating_17 : decode cX3_changeRating 17 = .ok (.iload_n 1, 1) := by decide +kernel
theorem dX3_changeRating_18 : decode cX3_changeRating 18 = .ok (.aload_n 0, 1) := by decide +kernel
theorem dX3_changeRating_19 : decode cX3_changeRating 19 = .ok (.getfield 9, 3) := by decide +kernel
theorem dX3_changeRating_22 : decode cX3_changeRating 22 = .ok (.iload_n 1, 1) := by decide +kernel
theorem dX3_changeRating_23 : decode cX3_changeRating 23 = .ok (.iaload, 1) := by decide +kernel
theorem dX3_changeRating_24 : decode cX3_changeRating 24 = .ok (.iload_n 2, 1) := by decide +kernel
theorem dX3_changeRating_25 : decode cX3_changeRating 25 = .ok (.invokestatic 43, 3) := by decide +kernel
theorem dX3_changeRating_28 : decode cX3_changeRating 28 = .ok (.iastore, 1) := by decide +kernel
theorem dX3_changeRating_29 : decode cX3_changeRating 29 = .ok (.return_, 1) := by decide +kernel
theorem dX3_ratingBehindTry_0 : decode cX3_ratingBehindTry 0 = .ok (.iconst 0, 1) := by decide +kernel
theorem dX3_ratingBehindTry_1 : decode cX3_ratingBehindTry 1 = .ok (.iload_n 0, 1) := by decide +kernel
theorem dX3_ratingBehindTry_2 : decode cX3_ratingBehindTry 2 = .ok (.sipush 1000, 3) := by decide +kernel
theorem dX3_ratingBehindTry_5 : decode cX3_ratingBehindTry 5 = .ok (.isub, 1) := by decide +kernel
theorem dX3_ratingBehindTry_6 : decode cX3_ratingBehindTry 6 = .ok (.invokestatic 47, 3) := by decide +kernel
theorem dX3_ratingBehindTry_9 : decode cX3_ratingBehindTry 9 = .ok (.istore_n 2, 1) := by decide +kernel
theorem dX3_ratingBehindTry_10 : decode cX3_ratingBehindTry 10 = .ok (.iload_n 1, 1) := by decide +kernel
theorem dX3_ratingBehindTry_11 : decode cX3_ratingBehindTry 11 = .ok (.ifCond .eq 13, 3) := by decide +kernel
theorem dX3_ratingBehindTry_14 : decode cX3_ratingBehindTry 14 = .ok (.bipush 32, 2) := by decide +kernel
theorem dX3_ratingBehindTry_16 : decode cX3_ratingBehindTry 16 = .ok (.iload_n 2, 1) := by decide +kernel
theorem dX3_ratingBehindTry_17 : decode cX3_ratingBehindTry 17 = .ok (.bipush 50, 2) := by decide +kernel
theorem dX3_ratingBehindTry_19 : decode cX3_ratingBehindTry 19 = .ok (.idiv, 1) := by decide +kernel
theorem dX3_ratingBehindTry_20 : decode cX3_ratingBehindTry 20 = .ok (.isub, 1) := by decide +kernel
theorem dX3_ratingBehindTry_21 : decode cX3_ratingBehindTry 21 = .ok (.goto 5, 3) := by decide +kernel
theorem dX3_ratingBehindTry_24 : decode cX3_ratingBehindTry 24 = .ok (.bipush (-16), 2) := by decide +kernel
theorem dX3_ratingBehindTry_26 : decode cX3_ratingBehindTry 26 = .ok (.istore_n 3, 1) := by decide +kernel
theorem dX3_ratingBehindTry_27 : decode cX3_ratingBehindTry 27 = .ok (.sipush 3000, 3) := by decide +kernel
theorem dX3_ratingBehindTry_30 : decode cX3_ratingBehindTry 30 = .ok (.bipush 100, 2) := by decide +kernel
theorem dX3_ratingBehindTry_32 : decode cX3_ratingBehindTry 32 = .ok (.iload_n 0, 1) := by decide +kernel
theorem dX3_ratingBehindTry_33 : decode cX3_ratingBehindTry 33 = .ok (.iload_n 3, 1) := by decide +kernel
theorem dX3_ratingBehindTry_34 : decode cX3_ratingBehindTry 34 = .ok (.iadd, 1) := by decide +kernel
theorem dX3_ratingBehindTry_35 : decode cX3_ratingBehindTry 35 = .ok (.invokestatic 47, 3) := by decide +kernel
theorem dX3_ratingBehindTry_38 : decode cX3_ratingBehindTry 38 = .ok (.invokestatic 53, 3) := by decide +kernel
theorem dX3_ratingBehindTry_41 : decode cX3_ratingBehindTry 41 = .ok (.ireturn, 1) := by decide +kernel
theorem dX4_init_0 : decode cX4_init 0 = .ok (.aload_n 0, 1) := by decide +kernel
theorem dX4_init_1 : decode cX4_init 1 = .ok (.invokespecial 3, 3) := by decide +kernel
theorem dX4_init_4 : decode cX4_init 4 = .ok (.aload_n 0, 1) := by decide +kernel
theorem dX4_init_5 : decode cX4_init 5 = .ok (.iload_n 1, 1) := by decide +kernel
theorem dX4_init_6 : decode cX4_init 6 = .ok (.putfield 9, 3) := by decide +kernel
theorem dX4_init_9 : decode cX4_init 9 = .ok (.aload_n 0, 1) := by decide +kernel
theorem dX4_init_10 : decode cX4_init 10 = .ok (.iload_n 1, 1) := by decide +kernel
theorem dX4_init_11 : decode cX4_init 11 = .ok (.iconst 5, 1) := by decide +kernel
theorem dX4_init_12 : decode cX4_init 12 = .ok (.irem, 1) := by decide +kernel
theorem dX4_init_13 : decode cX4_init 13 = .ok (.putfield 15, 3) := by decide +kernel
theorem dX4_init_16 : decode cX4_init 16 = .ok (.aload_n 0, 1) := by decide +kernel
theorem dX4_init_17 : decode cX4_init 17 = .ok (.iload_n 2, 1) := by decide +kernel
theorem dX4_init_18 : decode cX4_init 18 = .ok (.putfield 18, 3) := by decide +kernel
theorem dX4_init_21 : decode cX4_init 21 = .ok (.return_, 1) := by decide +kernel
theorem dX5_init_0 : decode cX5_init 0 = .ok (.aload_n 0, 1) := by decide +kernel
theorem dX5_init_1 : decode cX5_init 1 = .ok (.invokespecial 1, 3) := by decide +kernel
theorem dX5_init_4 : decode cX5_init 4 = .ok (.aload_n 0, 1) := by decide +kernel
theorem dX5_init_5 : decode cX5_init 5 = .ok (.bipush 8, 2) := by decide +kernel
theorem dX5_init_7 : decode cX5_init 7 = .ok (.anewarray 9, 3) := by decide +kernel
theorem dX5_init_10 : decode cX5_init 10 = .ok (.putfield 11, 3) := by decide +kernel
theorem dX5_init_13 : decode cX5_init 13 = .ok (.aload_n 0, 1) := by decide +kernel
theorem dX5_init_14 : decode cX5_init 14 = .ok (.bipush 60, 2) := by decide +kernel
theorem dX5_init_16 : decode cX5_init 16 = .ok (.anewarray 15, 3) := by decide +kernel
theorem dX5_init_19 : decode cX5_init 19 = .ok (.putfield 17, 3) := by decide +kernel
theorem dX5_init_22 : decode cX5_init 22 = .ok (.aload_n 0, 1) := by decide +kernel
theorem dX5_init_23 : decode cX5_init 23 = .ok (.bipush 40, 2) := by decide +kernel
theorem dX5_init_25 : decode cX5_init 25 = .ok (.anewarray 21, 3) := by decide +kernel
theorem dX5_init_28 : decode cX5_init 28 = .ok (.putfield 23, 3) := by decide +kernel
theorem dX5_init_31 : decode cX5_init 31 = .ok (.aload_n 0, 1) := by decide +kernel
theorem dX5_init_32 : decode cX5_init 32 = .ok (.new 27, 3) := by decide +kernel
theorem dX5_init_35 : decode cX5_init 35 = .ok (.dup, 1) := by decide +kernel
theorem dX5_init_36 : decode cX5_init 36 = .ok (.invokespecial 29, 3) := by decide +kernel
theorem dX5_init_39 : decode cX5_init 39 = .ok (.putfield 30, 3) := by decide +kernel
theorem dX5_init_42 : decode cX5_init 42 = .ok (.return_, 1) := by decide +kernel
theorem dX5_after_0 : decode cX5_after 0 = .ok (.iload_n 1, 1) := by decide +kernel
theorem dX5_after_1 : decode cX5_after 1 = .ok (.invokestatic 34, 3) := by decide +kernel
theorem dX5_after_4 : decode cX5_after 4 = .ok (.iload_n 2, 1) := by decide +kernel
theorem dX5_after_5 : decode cX5_after 5 = .ok (.invokestatic 38, 3) := by decide +kernel
theorem dX5_after_8 : decode cX5_after 8 = .ok (.iload_n 1, 1) := by decide +kernel
theorem dX5_after_9 : decode cX5_after 9 = .ok (.iload_n 2, 1) := by decide +kernel
theorem dX5_after_10 : decode cX5_after 10 = .ok (.invokestatic 41, 3) := by decide +kernel
theorem dX5_after_13 : decode cX5_after 13 = .ok (.ireturn, 1) := by decide +kernel
theorem dX5_worth_0 : decode cX5_worth 0 = .ok (.iload_n 1, 1) := by decide +kernel
theorem dX5_worth_1 : decode cX5_worth 1 = .ok (.invokestatic 34, 3) := by decide +kernel
theorem dX5_worth_4 : decode cX5_worth 4 = .ok (.iload_n 1, 1) := by decide +kernel
theorem dX5_worth_5 : decode cX5_worth 5 = .ok (.invokestatic 45, 3) := by decide +kernel
theorem dX5_worth_8 : decode cX5_worth 8 = .ok (.ireturn, 1) := by decide +kernel
theorem dX5_best_0 : decode cX5_best 0 = .ok (.iload_n 1, 1) := by decide +kernel
theorem dX5_best_1 : decode cX5_best 1 = .ok (.invokestatic 34, 3) := by decide +kernel
theorem dX5_best_4 : decode cX5_best 4 = .ok (.iload_n 1, 1) := by decide +kernel
theorem dX5_best_5 : decode cX5_best 5 = .ok (.invokestatic 49, 3) := by decide +kernel
theorem dX5_best_8 : decode cX5_best 8 = .ok (.ireturn, 1) := by decide +kernel
theorem dX5_enter_0 : decode cX5_enter 0 = .ok (.aload_n 0, 1) := by decide +kernel
theorem dX5_enter_1 : decode cX5_enter 1 = .ok (.getfield 52, 3) := by decide +kernel
theorem dX5_enter_4 : decode cX5_enter 4 = .ok (.istore_n 1, 1) := by decide +kernel
theorem dX5_enter_5 : decode cX5_enter 5 = .ok (.iload_n 1, 1) := by decide +kernel
theorem dX5_enter_6 : decode cX5_enter 6 = .ok (.ifCond .lt 12, 3) := by decide +kernel
theorem dX5_enter_9 : decode cX5_enter 9 = .ok (.iload_n 1, 1) := by decide +kernel
theorem dX5_enter_10 : decode cX5_enter 10 = .ok (.aload_n 0, 1) := by decide +kernel
theorem dX5_enter_11 : decode cX5_enter 11 = .ok (.getfield 11, 3) := by decide +kernel
theorem dX5_enter_14 : decode cX5_enter 14 = .ok (.arraylength, 1) := by decide +kernel
theorem dX5_enter_15 : decode cX5_enter 15 = .ok (.if_icmp .lt 13, 3) := by decide +kernel
theorem dX5_enter_18 : decode cX5_enter 18 = .ok (.new 56, 3) := by decide +kernel
theorem dX5_enter_21 : decode cX5_enter 21 = .ok (.dup, 1) := by decide +kernel
theorem dX5_enter_22 : decode cX5_enter 22 = .ok (.ldc 58, 2) := by decide +kernel
theorem dX5_enter_24 : decode cX5_enter 24 = .ok (.invokespecial 60, 3) := by decide +kernel
theorem dX5_enter_27 : decode cX5_enter 27 = .ok (.athrow, 1) := by decide +kernel
theorem dX5_enter_28 : decode cX5_enter 28 = .ok (.aload_n 0, 1) := by decide +kernel
theorem dX5_enter_29 : decode cX5_enter 29 = .ok (.getfield 11, 3) := by decide +kernel
theorem dX5_enter_32 : decode cX5_enter 32 = .ok (.iload_n 1, 1) := by decide +kernel
theorem dX5_enter_33 : decode cX5_enter 33 = .ok (.new 9, 3) := by decide +kernel
theorem dX5_enter_36 : decode cX5_enter 36 = .ok (.dup, 1) := by decide +kernel
theorem dX5_enter_37 : decode cX5_enter 37 = .ok (.iload_n 1, 1) := by decide +kernel
theorem dX5_enter_38 : decode cX5_enter 38 = .ok (.invokespecial 63, 3) := by decide +kernel
theorem dX5_enter_41 : decode cX5_enter 41 = .ok (.aastore, 1) := by decide +kernel
theorem dX5_enter_42 : decode cX5_enter 42 = .ok (.aload_n 0, 1) := by decide +kernel
theorem dX5_enter_43 : decode cX5_enter 43 = .ok (.iload_n 1, 1) := by decide +kernel
theorem dX5_enter_44 : decode cX5_enter 44 = .ok (.iconst 1, 1) := by decide +kernel
theorem dX5_enter_45 : decode cX5_enter 45 = .ok (.iadd, 1) := by decide +kernel
theorem dX5_enter_46 : decode cX5_enter 46 = .ok (.putfield 52, 3) := by decide +kernel
theorem dX5_enter_49 : decode cX5_enter 49 = .ok (.iload_n 1, 1) := by decide +kernel
theorem dX5_enter_50 : decode cX5_enter 50 = .ok (.ireturn, 1) := by decide +kernel
theorem dX5_begin_0 : decode cX5_begin 0 = .ok (.aload_n 0, 1) := by decide +kernel
theorem dX5_begin_1 : decode cX5_begin 1 = .ok (.iload_n 1, 1) := by decide +kernel
theorem dX5_begin_2 : decode cX5_begin 2 = .ok (.invokevirtual 65, 3) := by decide +kernel
theorem dX5_begin_5 : decode cX5_begin 5 = .ok (.astore_n 3, 1) := by decide +kernel
theorem dX5_begin_6 : decode cX5_begin 6 = .ok (.aload_n 0, 1) := by decide +kernel
theorem dX5_begin_7 : decode cX5_begin 7 = .ok (.iload_n 2, 1) := by decide +kernel
theorem dX5_begin_8 : decode cX5_begin 8 = .ok (.invokevirtual 65, 3) := by decide +kernel
theorem dX5_begin_11 : decode cX5_begin 11 = .ok (.astore 4, 2) := by decide +kernel
theorem dX5_begin_13 : decode cX5_begin 13 = .ok (.iload_n 1, 1) := by decide +kernel
theorem dX5_begin_14 : decode cX5_begin 14 = .ok (.iload_n 2, 1) := by decide +kernel
theorem dX5_begin_15 : decode cX5_begin 15 = .ok (.if_icmp .ne 13, 3) := by decide +kernel
theorem dX5_begin_18 : decode cX5_begin 18 = .ok (.new 69, 3) := by decide +kernel
theorem dX5_begin_21 : decode cX5_begin 21 = .ok (.dup, 1) := by decide +kernel
theorem dX5_begin_22 : decode cX5_begin 22 = .ok (.ldc 71, 2) := by decide +kernel
theorem dX5_begin_24 : decode cX5_begin 24 = .ok (.invokespecial 73, 3) := by decide +kernel
theorem dX5_begin_27 : decode cX5_begin 27 = .ok (.athrow, 1) := by decide +kernel
theorem dX5_begin_28 : decode cX5_begin 28 = .ok (.aload_n 0, 1) := by decide +kernel
theorem dX5_begin_29 : decode cX5_begin 29 = .ok (.getfield 74, 3) := by decide +kernel
theorem dX5_begin_32 : decode cX5_begin 32 = .ok (.ifnull 13, 3) := by decide +kernel
theorem dX5_begin_35 : decode cX5_begin 35 = .ok (.new 56, 3) := by decide +kernel
theorem dX5_begin_38 : decode cX5_begin 38 = .ok (.dup, 1) := by decide +kernel
theorem dX5_begin_39 : decode cX5_begin 39 = .ok (.ldc 78, 2) := by decide +kernel
theorem dX5_begin_41 : decode cX5_begin 41 = .ok (.invokespecial 60, 3) := by decide +kernel
theorem dX5_begin_44 : decode cX5_begin 44 = .ok (.athrow, 1) := by decide +kernel
theorem dX5_begin_45 : decode cX5_begin 45 = .ok (.aload_n 0, 1) := by decide +kernel
theorem dX5_begin_46 : decode cX5_begin 46 = .ok (.getfield 80, 3) := by decide +kernel
theorem dX5_begin_49 : decode cX5_begin 49 = .ok (.istore 5, 2) := by decide +kernel
theorem dX5_begin_51 : decode cX5_begin 51 = .ok (.iload 5, 2) := by decide +kernel
theorem dX5_begin_53 : decode cX5_begin 53 = .ok (.ifCond .lt 13, 3) := by decide +kernel
theorem dX5_begin_56 : decode cX5_begin 56 = .ok (.iload 5, 2) := by decide +kernel
theorem dX5_begin_58 : decode cX5_begin 58 = .ok (.aload_n 0, 1) := by decide +kernel
theorem dX5_begin_59 : decode cX5_begin 59 = .ok (.getfield 17, 3) := by decide +kernel
theorem dX5_begin_62 : decode cX5_begin 62 = .ok (.arraylength, 1) := by decide +kernel
theorem dX5_begin_63 : decode cX5_begin 63 = .ok (.if_icmp .lt 13, 3) := by decide +kernel
theorem dX5_begin_66 : decode cX5_begin 66 = .ok (.new 56, 3) := by decide +kernel
theorem dX5_begin_69 : decode cX5_begin 69 = .ok (.dup, 1) := by decide +kernel
theorem dX5_begin_70 : decode cX5_begin 70 = .ok (.ldc 83, 2) := by decide +kernel
theorem dX5_begin_72 : decode cX5_begin 72 = .ok (.invokespecial 60, 3) := by decide +kernel
theorem dX5_begin_75 : decode cX5_begin 75 = .ok (.athrow, 1) := by decide +kernel
theorem dX5_begin_76 : decode cX5_begin 76 = .ok (.aload_n 0, 1) := by decide +kernel
theorem dX5_begin_77 : decode cX5_begin 77 = .ok (.new 15, 3) := by decide +kernel
theorem dX5_begin_80 : decode cX5_begin 80 = .ok (.dup, 1) := by decide +kernel
theorem dX5_begin_81 : decode cX5_begin 81 = .ok (.aload_n 3, 1) := by decide +kernel
theorem dX5_begin_82 : decode cX5_begin 82 = .ok (.aload 4, 2) := by decide +kernel
theorem dX5_begin_84 : decode cX5_begin 84 = .ok (.invokespecial 85, 3) := by decide +kernel
theorem dX5_begin_87 : decode cX5_begin 87 = .ok (.putfield 74, 3) := by decide +kernel
theorem dX5_begin_90 : decode cX5_begin 90 = .ok (.aload_n 0, 1) := by decide +kernel
theorem dX5_begin_91 : decode cX5_begin 91 = .ok (.getfield 17, 3) := by decide +kernel
theorem dX5_begin_94 : decode cX5_begin 94 = .ok (.iload 5, 2) := by decide +kernel
theorem dX5_begin_96 : decode cX5_begin 96 = .ok (.aload_n 0, 1) := by decide +kernel
theorem dX5_begin_97 : decode cX5_begin 97 = .ok (.getfield 74, 3) := by decide +kernel
theorem dX5_begin_100 : decode cX5_begin 100 = .ok (.aastore, 1) := by decide +kernel
theorem dX5_begin_101 : decode cX5_begin 101 = .ok (.aload_n 0, 1) := by decide +kernel
theorem dX5_begin_102 : decode cX5_begin 102 = .ok (.iload 5, 2) := by decide +kernel
theorem dX5_begin_104 : decode cX5_begin 104 = .ok (.iconst 1, 1) := by decide +kernel
theorem dX5_begin_105 : decode cX5_begin 105 = .ok (.iadd, 1) := by decide +kernel
theorem dX5_begin_106 : decode cX5_begin 106 = .ok (.putfield 80, 3) := by decide +kernel
theorem dX5_begin_109 : decode cX5_begin 109 = .ok (.iload 5, 2) := by decide +kernel
theorem dX5_begin_111 : decode cX5_begin 111 = .ok (.ireturn, 1) := by decide +kernel
theorem dX5_move_0 : decode cX5_move 0 = .ok (.iload_n 1, 1) := by decide +kernel
theorem dX5_move_1 : decode cX5_move 1 = .ok (.invokestatic 38, 3) := by decide +kernel
theorem dX5_move_4 : decode cX5_move 4 = .ok (.aload_n 0, 1) := by decide +kernel
theorem dX5_move_5 : decode cX5_move 5 = .ok (.getfield 74, 3) := by decide +kernel
theorem dX5_move_8 : decode cX5_move 8 = .ok (.astore_n 2, 1) := by decide +kernel
theorem dX5_move_9 : decode cX5_move 9 = .ok (.aload_n 2, 1) := by decide +kernel
theorem dX5_move_10 : decode cX5_move 10 = .ok (.ifnonnull 13, 3) := by decide +kernel
theorem dX5_move_13 : decode cX5_move 13 = .ok (.new 56, 3) := by decide +kernel
theorem dX5_move_16 : decode cX5_move 16 = .ok (.dup, 1) := by decide +kernel
theorem dX5_move_17 : decode cX5_move 17 = .ok (.ldc 88, 2) := by decide +kernel
theorem dX5_move_19 : decode cX5_move 19 = .ok (.invokespecial 60, 3) := by decide +kernel
theorem dX5_move_22 : decode cX5_move 22 = .ok (.athrow, 1) := by decide +kernel
theorem dX5_move_23 : decode cX5_move 23 = .ok (.aload_n 2, 1) := by decide +kernel
theorem dX5_move_24 : decode cX5_move 24 = .ok (.invokevirtual 90, 3) := by decide +kernel
theorem dX5_move_27 : decode cX5_move 27 = .ok (.ifCond .eq 13, 3) := by decide +kernel
theorem dX5_move_30 : decode cX5_move 30 = .ok (.new 56, 3) := by decide +kernel
theorem dX5_move_33 : decode cX5_move 33 = .ok (.dup, 1) := by decide +kernel
theorem dX5_move_34 : decode cX5_move 34 = .ok (.ldc 94, 2) := by decide +kernel
