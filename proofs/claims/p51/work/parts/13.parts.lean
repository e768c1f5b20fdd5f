theorem dX1_has_0 : decode cX1_has 0 = .ok (.iload_n 1, 1) := by decide +kernel
theorem dX1_has_1 : decode cX1_has 1 = .ok (.ifCond .lt 15, 3) := by decide +kernel
theorem dX1_has_4 : decode cX1_has 4 = .ok (.iload_n 1, 1) := by decide +kernel
theorem dX1_has_5 : decode cX1_has 5 = .ok (.aload_n 0, 1) := by decide +kernel
theorem dX1_has_6 : decode cX1_has 6 = .ok (.getfield 23, 3) := by decide +kernel
theorem dX1_has_9 : decode cX1_has 9 = .ok (.if_icmp .ge 7, 3) := by decide +kernel
theorem dX1_has_12 : decode cX1_has 12 = .ok (.iconst 1, 1) := by decide +kernel
theorem dX1_has_13 : decode cX1_has 13 = .ok (.goto 4, 3) := by decide +kernel
theorem dX1_has_16 : decode cX1_has 16 = .ok (.iconst 0, 1) := by decide +kernel
theorem dX1_has_17 : decode cX1_has 17 = .ok (.ireturn, 1) := by decide +kernel
theorem dX1_closeGapAt_0 : decode cX1_closeGapAt 0 = .ok (.iload_n 1, 1) := by decide +kernel
theorem dX1_closeGapAt_1 : decode cX1_closeGapAt 1 = .ok (.istore_n 2, 1) := by decide +kernel
theorem dX1_closeGapAt_2 : decode cX1_closeGapAt 2 = .ok (.iload_n 2, 1) := by decide +kernel
theorem dX1_closeGapAt_3 : decode cX1_closeGapAt 3 = .ok (.iconst 1, 1) := by decide +kernel
theorem dX1_closeGapAt_4 : decode cX1_closeGapAt 4 = .ok (.iadd, 1) := by decide +kernel
theorem dX1_closeGapAt_5 : decode cX1_closeGapAt 5 = .ok (.aload_n 0, 1) := by decide +kernel
theorem dX1_closeGapAt_6 : decode cX1_closeGapAt 6 = .ok (.getfield 23, 3) := by decide +kernel
theorem dX1_closeGapAt_9 : decode cX1_closeGapAt 9 = .ok (.if_icmp .ge 54, 3) := by decide +kernel
theorem dX1_closeGapAt_12 : decode cX1_closeGapAt 12 = .ok (.aload_n 0, 1) := by decide +kernel
theorem dX1_closeGapAt_13 : decode cX1_closeGapAt 13 = .ok (.getfield 16, 3) := by decide +kernel
theorem dX1_closeGapAt_16 : decode cX1_closeGapAt 16 = .ok (.iload_n 2, 1) := by decide +kernel
theorem dX1_closeGapAt_17 : decode cX1_closeGapAt 17 = .ok (.aload_n 0, 1) := by decide +kernel
theorem dX1_closeGapAt_18 : decode cX1_closeGapAt 18 = .ok (.getfield 16, 3) := by decide +kernel
theorem dX1_closeGapAt_21 : decode cX1_closeGapAt 21 = .ok (.iload_n 2, 1) := by decide +kernel
theorem dX1_closeGapAt_22 : decode cX1_closeGapAt 22 = .ok (.iconst 1, 1) := by decide +kernel
theorem dX1_closeGapAt_23 : decode cX1_closeGapAt 23 = .ok (.iadd, 1) := by decide +kernel
theorem dX1_closeGapAt_24 : decode cX1_closeGapAt 24 = .ok (.iaload, 1) := by decide +kernel
theorem dX1_closeGapAt_25 : decode cX1_closeGapAt 25 = .ok (.iastore, 1) := by decide +kernel
theorem dX1_closeGapAt_26 : decode cX1_closeGapAt 26 = .ok (.iconst 0, 1) := by decide +kernel
theorem dX1_closeGapAt_27 : decode cX1_closeGapAt 27 = .ok (.istore_n 3, 1) := by decide +kernel
theorem dX1_closeGapAt_28 : decode cX1_closeGapAt 28 = .ok (.iload_n 3, 1) := by decide +kernel
theorem dX1_closeGapAt_29 : decode cX1_closeGapAt 29 = .ok (.iconst 4, 1) := by decide +kernel
theorem dX1_closeGapAt_30 : decode cX1_closeGapAt 30 = .ok (.if_icmp .ge 27, 3) := by decide +kernel
theorem dX1_closeGapAt_33 : decode cX1_closeGapAt 33 = .ok (.aload_n 0, 1) := by decide +kernel
theorem dX1_closeGapAt_34 : decode cX1_closeGapAt 34 = .ok (.getfield 11, 3) := by decide +kernel
theorem dX1_closeGapAt_37 : decode cX1_closeGapAt 37 = .ok (.iload_n 3, 1) := by decide +kernel
theorem dX1_closeGapAt_38 : decode cX1_closeGapAt 38 = .ok (.aaload, 1) := by decide +kernel
theorem dX1_closeGapAt_39 : decode cX1_closeGapAt 39 = .ok (.iload_n 2, 1) := by decide +kernel
theorem dX1_closeGapAt_40 : decode cX1_closeGapAt 40 = .ok (.aload_n 0, 1) := by decide +kernel
theorem dX1_closeGapAt_41 : decode cX1_closeGapAt 41 = .ok (.getfield 11, 3) := by decide +kernel
theorem dX1_closeGapAt_44 : decode cX1_closeGapAt 44 = .ok (.iload_n 3, 1) := by decide +kernel
theorem dX1_closeGapAt_45 : decode cX1_closeGapAt 45 = .ok (.aaload, 1) := by decide +kernel
theorem dX1_closeGapAt_46 : decode cX1_closeGapAt 46 = .ok (.iload_n 2, 1) := by decide +kernel
theorem dX1_closeGapAt_47 : decode cX1_closeGapAt 47 = .ok (.iconst 1, 1) := by decide +kernel
theorem dX1_closeGapAt_48 : decode cX1_closeGapAt 48 = .ok (.iadd, 1) := by decide +kernel
theorem dX1_closeGapAt_49 : decode cX1_closeGapAt 49 = .ok (.iaload, 1) := by decide +kernel
theorem dX1_closeGapAt_50 : decode cX1_closeGapAt 50 = .ok (.iastore, 1) := by decide +kernel
theorem dX1_closeGapAt_51 : decode cX1_closeGapAt 51 = .ok (.iinc 3 1, 3) := by decide +kernel
theorem dX1_closeGapAt_54 : decode cX1_closeGapAt 54 = .ok (.goto (-26), 3) := by decide +kernel
theorem dX1_closeGapAt_57 : decode cX1_closeGapAt 57 = .ok (.iinc 2 1, 3) := by decide +kernel
theorem dX1_closeGapAt_60 : decode cX1_closeGapAt 60 = .ok (.goto (-58), 3) := by decide +kernel
theorem dX1_closeGapAt_63 : decode cX1_closeGapAt 63 = .ok (.aload_n 0, 1) := by decide +kernel
theorem dX1_closeGapAt_64 : decode cX1_closeGapAt 64 = .ok (.dup, 1) := by decide +kernel
theorem dX1_closeGapAt_65 : decode cX1_closeGapAt 65 = .ok (.getfield 23, 3) := by decide +kernel
theorem dX1_closeGapAt_68 : decode cX1_closeGapAt 68 = .ok (.iconst 1, 1) := by decide +kernel
theorem dX1_closeGapAt_69 : decode cX1_closeGapAt 69 = .ok (.isub, 1) := by decide +kernel
theorem dX1_closeGapAt_70 : decode cX1_closeGapAt 70 = .ok (.putfield 23, 3) := by decide +kernel
theorem dX1_closeGapAt_73 : decode cX1_closeGapAt 73 = .ok (.return_, 1) := by decide +kernel
theorem dX1_isFirstOfItsCell_0 : decode cX1_isFirstOfItsCell 0 = .ok (.iconst 0, 1) := by decide +kernel
theorem dX1_isFirstOfItsCell_1 : decode cX1_isFirstOfItsCell 1 = .ok (.istore_n 2, 1) := by decide +kernel
theorem dX1_isFirstOfItsCell_2 : decode cX1_isFirstOfItsCell 2 = .ok (.iload_n 2, 1) := by decide +kernel
theorem dX1_isFirstOfItsCell_3 : decode cX1_isFirstOfItsCell 3 = .ok (.iload_n 1, 1) := by decide +kernel
theorem dX1_isFirstOfItsCell_4 : decode cX1_isFirstOfItsCell 4 = .ok (.if_icmp .ge 26, 3) := by decide +kernel
theorem dX1_isFirstOfItsCell_7 : decode cX1_isFirstOfItsCell 7 = .ok (.aload_n 0, 1) := by decide +kernel
theorem dX1_isFirstOfItsCell_8 : decode cX1_isFirstOfItsCell 8 = .ok (.getfield 20, 3) := by decide +kernel
theorem dX1_isFirstOfItsCell_11 : decode cX1_isFirstOfItsCell 11 = .ok (.iload_n 2, 1) := by decide +kernel
theorem dX1_isFirstOfItsCell_12 : decode cX1_isFirstOfItsCell 12 = .ok (.iaload, 1) := by decide +kernel
theorem dX1_isFirstOfItsCell_13 : decode cX1_isFirstOfItsCell 13 = .ok (.aload_n 0, 1) := by decide +kernel
theorem dX1_isFirstOfItsCell_14 : decode cX1_isFirstOfItsCell 14 = .ok (.getfield 20, 3) := by decide +kernel
theorem dX1_isFirstOfItsCell_17 : decode cX1_isFirstOfItsCell 17 = .ok (.iload_n 1, 1) := by decide +kernel
theorem dX1_isFirstOfItsCell_18 : decode cX1_isFirstOfItsCell 18 = .ok (.iaload, 1) := by decide +kernel
theorem dX1_isFirstOfItsCell_19 : decode cX1_isFirstOfItsCell 19 = .ok (.if_icmp .ne 5, 3) := by decide +kernel
theorem dX1_isFirstOfItsCell_22 : decode cX1_isFirstOfItsCell 22 = .ok (.iconst 0, 1) := by decide +kernel
theorem dX1_isFirstOfItsCell_23 : decode cX1_isFirstOfItsCell 23 = .ok (.ireturn, 1) := by decide +kernel
theorem dX1_isFirstOfItsCell_24 : decode cX1_isFirstOfItsCell 24 = .ok (.iinc 2 1, 3) := by decide +kernel
theorem dX1_isFirstOfItsCell_27 : decode cX1_isFirstOfItsCell 27 = .ok (.goto (-25), 3) := by decide +kernel
theorem dX1_isFirstOfItsCell_30 : decode cX1_isFirstOfItsCell 30 = .ok (.iconst 1, 1) := by decide +kernel
theorem dX1_isFirstOfItsCell_31 : decode cX1_isFirstOfItsCell 31 = .ok (.ireturn, 1) := by decide +kernel
theorem dX5_has_0 : decode cX5_has 0 = .ok (.iload_n 1, 1) := by decide +kernel
theorem dX5_has_1 : decode cX5_has 1 = .ok (.ifCond .lt 15, 3) := by decide +kernel
theorem dX5_has_4 : decode cX5_has 4 = .ok (.iload_n 1, 1) := by decide +kernel
theorem dX5_has_5 : decode cX5_has 5 = .ok (.aload_n 0, 1) := by decide +kernel
theorem dX5_has_6 : decode cX5_has 6 = .ok (.getfield 22, 3) := by decide +kernel
theorem dX5_has_9 : decode cX5_has 9 = .ok (.if_icmp .ge 7, 3) := by decide +kernel
theorem dX5_has_12 : decode cX5_has 12 = .ok (.iconst 1, 1) := by decide +kernel
theorem dX5_has_13 : decode cX5_has 13 = .ok (.goto 4, 3) := by decide +kernel
theorem dX5_has_16 : decode cX5_has 16 = .ok (.iconst 0, 1) := by decide +kernel
theorem dX5_has_17 : decode cX5_has 17 = .ok (.ireturn, 1) := by decide +kernel
theorem dX5_fill_0 : decode cX5_fill 0 = .ok (.aload_n 0, 1) := by decide +kernel
theorem dX5_fill_1 : decode cX5_fill 1 = .ok (.iload_n 1, 1) := by decide +kernel
theorem dX5_fill_2 : decode cX5_fill 2 = .ok (.invokevirtual 26, 3) := by decide +kernel
theorem dX5_fill_5 : decode cX5_fill 5 = .ok (.ifCond .eq 17, 3) := by decide +kernel
theorem dX5_fill_8 : decode cX5_fill 8 = .ok (.aload_n 0, 1) := by decide +kernel
theorem dX5_fill_9 : decode cX5_fill 9 = .ok (.getfield 15, 3) := by decide +kernel
theorem dX5_fill_12 : decode cX5_fill 12 = .ok (.iload_n 1, 1) := by decide +kernel
theorem dX5_fill_13 : decode cX5_fill 13 = .ok (.iload_n 2, 1) := by decide +kernel
theorem dX5_fill_14 : decode cX5_fill 14 = .ok (.iastore, 1) := by decide +kernel
theorem dX5_fill_15 : decode cX5_fill 15 = .ok (.aload_n 0, 1) := by decide +kernel
theorem dX5_fill_16 : decode cX5_fill 16 = .ok (.getfield 18, 3) := by decide +kernel
theorem dX5_fill_19 : decode cX5_fill 19 = .ok (.iload_n 1, 1) := by decide +kernel
theorem dX5_fill_20 : decode cX5_fill 20 = .ok (.iconst 0, 1) := by decide +kernel
theorem dX5_fill_21 : decode cX5_fill 21 = .ok (.bastore, 1) := by decide +kernel
theorem dX5_fill_22 : decode cX5_fill 22 = .ok (.return_, 1) := by decide +kernel
theorem dX5_makeAllStale_0 : decode cX5_makeAllStale 0 = .ok (.iconst 0, 1) := by decide +kernel
theorem dX5_makeAllStale_1 : decode cX5_makeAllStale 1 = .ok (.istore_n 1, 1) := by decide +kernel
theorem dX5_makeAllStale_2 : decode cX5_makeAllStale 2 = .ok (.iload_n 1, 1) := by decide +kernel
theorem dX5_makeAllStale_3 : decode cX5_makeAllStale 3 = .ok (.aload_n 0, 1) := by decide +kernel
theorem dX5_makeAllStale_4 : decode cX5_makeAllStale 4 = .ok (.getfield 22, 3) := by decide +kernel
theorem dX5_makeAllStale_7 : decode cX5_makeAllStale 7 = .ok (.if_icmp .ge 16, 3) := by decide +kernel
theorem dX5_makeAllStale_10 : decode cX5_makeAllStale 10 = .ok (.aload_n 0, 1) := by decide +kernel
theorem dX5_makeAllStale_11 : decode cX5_makeAllStale 11 = .ok (.getfield 18, 3) := by decide +kernel
theorem dX5_makeAllStale_14 : decode cX5_makeAllStale 14 = .ok (.iload_n 1, 1) := by decide +kernel
theorem dX5_makeAllStale_15 : decode cX5_makeAllStale 15 = .ok (.iconst 1, 1) := by decide +kernel
theorem dX5_makeAllStale_16 : decode cX5_makeAllStale 16 = .ok (.bastore, 1) := by decide +kernel
theorem dX5_makeAllStale_17 : decode cX5_makeAllStale 17 = .ok (.iinc 1 1, 3) := by decide +kernel
theorem dX5_makeAllStale_20 : decode cX5_makeAllStale 20 = .ok (.goto (-18), 3) := by decide +kernel
theorem dX5_makeAllStale_23 : decode cX5_makeAllStale 23 = .ok (.return_, 1) := by decide +kernel
theorem dX5_closeGapAt_0 : decode cX5_closeGapAt 0 = .ok (.iload_n 1, 1) := by decide +kernel
theorem dX5_closeGapAt_1 : decode cX5_closeGapAt 1 = .ok (.istore_n 2, 1) := by decide +kernel
theorem dX5_closeGapAt_2 : decode cX5_closeGapAt 2 = .ok (.iload_n 2, 1) := by decide +kernel
theorem dX5_closeGapAt_3 : decode cX5_closeGapAt 3 = .ok (.iconst 1, 1) := by decide +kernel
theorem dX5_closeGapAt_4 : decode cX5_closeGapAt 4 = .ok (.iadd, 1) := by decide +kernel
theorem dX5_closeGapAt_5 : decode cX5_closeGapAt 5 = .ok (.aload_n 0, 1) := by decide +kernel
theorem dX5_closeGapAt_6 : decode cX5_closeGapAt 6 = .ok (.getfield 22, 3) := by decide +kernel
theorem dX5_closeGapAt_9 : decode cX5_closeGapAt 9 = .ok (.if_icmp .ge 51, 3) := by decide +kernel
theorem dX5_closeGapAt_12 : decode cX5_closeGapAt 12 = .ok (.aload_n 0, 1) := by decide +kernel
theorem dX5_closeGapAt_13 : decode cX5_closeGapAt 13 = .ok (.getfield 9, 3) := by decide +kernel
theorem dX5_closeGapAt_16 : decode cX5_closeGapAt 16 = .ok (.iload_n 2, 1) := by decide +kernel
theorem dX5_closeGapAt_17 : decode cX5_closeGapAt 17 = .ok (.aload_n 0, 1) := by decide +kernel
theorem dX5_closeGapAt_18 : decode cX5_closeGapAt 18 = .ok (.getfield 9, 3) := by decide +kernel
theorem dX5_closeGapAt_21 : decode cX5_closeGapAt 21 = .ok (.iload_n 2, 1) := by decide +kernel
theorem dX5_closeGapAt_22 : decode cX5_closeGapAt 22 = .ok (.iconst 1, 1) := by decide +kernel
theorem dX5_closeGapAt_23 : decode cX5_closeGapAt 23 = .ok (.iadd, 1) := by decide +kernel
theorem dX5_closeGapAt_24 : decode cX5_closeGapAt 24 = .ok (.iaload, 1) := by decide +kernel
theorem dX5_closeGapAt_25 : decode cX5_closeGapAt 25 = .ok (.iastore, 1) := by decide +kernel
theorem dX5_closeGapAt_26 : decode cX5_closeGapAt 26 = .ok (.aload_n 0, 1) := by decide +kernel
theorem dX5_closeGapAt_27 : decode cX5_closeGapAt 27 = .ok (.getfield 15, 3) := by decide +kernel
theorem dX5_closeGapAt_30 : decode cX5_closeGapAt 30 = .ok (.iload_n 2, 1) := by decide +kernel
theorem dX5_closeGapAt_31 : decode cX5_closeGapAt 31 = .ok (.aload_n 0, 1) := by decide +kernel
theorem dX5_closeGapAt_32 : decode cX5_closeGapAt 32 = .ok (.getfield 15, 3) := by decide +kernel
theorem dX5_closeGapAt_35 : decode cX5_closeGapAt 35 = .ok (.iload_n 2, 1) := by decide +kernel
theorem dX5_closeGapAt_36 : decode cX5_closeGapAt 36 = .ok (.iconst 1, 1) := by decide +kernel
theorem dX5_closeGapAt_37 : decode cX5_closeGapAt 37 = .ok (.iadd, 1) := by decide +kernel
theorem dX5_closeGapAt_38 : decode cX5_closeGapAt 38 = .ok (.iaload, 1) := by decide +kernel
theorem dX5_closeGapAt_39 : decode cX5_closeGapAt 39 = .ok (.iastore, 1) := by decide +kernel
theorem dX5_closeGapAt_40 : decode cX5_closeGapAt 40 = .ok (.aload_n 0, 1) := by decide +kernel
theorem dX5_closeGapAt_41 : decode cX5_closeGapAt 41 = .ok (.getfield 18, 3) := by decide +kernel
theorem dX5_closeGapAt_44 : decode cX5_closeGapAt 44 = .ok (.iload_n 2, 1) := by decide +kernel
theorem dX5_closeGapAt_45 : decode cX5_closeGapAt 45 = .ok (.aload_n 0, 1) := by decide +kernel
theorem dX5_closeGapAt_46 : decode cX5_closeGapAt 46 = .ok (.getfield 18, 3) := by decide +kernel
theorem dX5_closeGapAt_49 : decode cX5_closeGapAt 49 = .ok (.iload_n 2, 1) := by decide +kernel
theorem dX5_closeGapAt_50 : decode cX5_closeGapAt 50 = .ok (.iconst 1, 1) := by decide +kernel
theorem dX5_closeGapAt_51 : decode cX5_closeGapAt 51 = .ok (.iadd, 1) := by decide +kernel
theorem dX5_closeGapAt_52 : decode cX5_closeGapAt 52 = .ok (.baload, 1) := by decide +kernel
theorem dX5_closeGapAt_53 : decode cX5_closeGapAt 53 = .ok (.bastore, 1) := by decide +kernel
theorem dX5_closeGapAt_54 : decode cX5_closeGapAt 54 = .ok (.iinc 2 1, 3) := by decide +kernel
theorem dX5_closeGapAt_57 : decode cX5_closeGapAt 57 = .ok (.goto (-55), 3) := by decide +kernel
theorem dX5_closeGapAt_60 : decode cX5_closeGapAt 60 = .ok (.aload_n 0, 1) := by decide +kernel
theorem dX5_closeGapAt_61 : decode cX5_closeGapAt 61 = .ok (.dup, 1) := by decide +kernel
theorem dX5_closeGapAt_62 : decode cX5_closeGapAt 62 = .ok (.getfield 22, 3) := by decide +kernel
theorem dX5_closeGapAt_65 : decode cX5_closeGapAt 65 = .ok (.iconst 1, 1) := by decide +kernel
theorem dX5_closeGapAt_66 : decode cX5_closeGapAt 66 = .ok (.isub, 1) := by decide +kernel
theorem dX5_closeGapAt_67 : decode cX5_closeGapAt 67 = .ok (.putfield 22, 3) := by decide +kernel
theorem dX5_closeGapAt_70 : decode cX5_closeGapAt 70 = .ok (.return_, 1) := by decide +kernel
theorem dX0_forgetUse_0 : decode cX0_forgetUse 0 = .ok (.iconst 0, 1) := by decide +kernel
theorem dX0_forgetUse_1 : decode cX0_forgetUse 1 = .ok (.istore_n 1, 1) := by decide +kernel
theorem dX0_forgetUse_2 : decode cX0_forgetUse 2 = .ok (.iload_n 1, 1) := by decide +kernel
theorem dX0_forgetUse_3 : decode cX0_forgetUse 3 = .ok (.bipush 24, 2) := by decide +kernel
theorem dX0_forgetUse_5 : decode cX0_forgetUse 5 = .ok (.if_icmp .ge 16, 3) := by decide +kernel
theorem dX0_forgetUse_8 : decode cX0_forgetUse 8 = .ok (.aload_n 0, 1) := by decide +kernel
theorem dX0_forgetUse_9 : decode cX0_forgetUse 9 = .ok (.getfield 18, 3) := by decide +kernel
theorem dX0_forgetUse_12 : decode cX0_forgetUse 12 = .ok (.iload_n 1, 1) := by decide +kernel
theorem dX0_forgetUse_13 : decode cX0_forgetUse 13 = .ok (.iconst 0, 1) := by decide +kernel
theorem dX0_forgetUse_14 : decode cX0_forgetUse 14 = .ok (.bastore, 1) := by decide +kernel
theorem dX0_forgetUse_15 : decode cX0_forgetUse 15 = .ok (.iinc 1 1, 3) := by decide +kernel
theorem dX0_forgetUse_18 : decode cX0_forgetUse 18 = .ok (.goto (-16), 3) := by decide +kernel
theorem dX0_forgetUse_21 : decode cX0_forgetUse 21 = .ok (.return_, 1) := by decide +kernel
theorem dX0_showLines_0 : decode cX0_showLines 0 = .ok (.aload_n 0, 1) := by decide +kernel
theorem dX0_showLines_1 : decode cX0_showLines 1 = .ok (.iconst 0, 1) := by decide +kernel
theorem dX0_showLines_2 : decode cX0_showLines 2 = .ok (.putfield 26, 3) := by decide +kernel
theorem dX0_showLines_5 : decode cX0_showLines 5 = .ok (.iconst 0, 1) := by decide +kernel
theorem dX0_showLines_6 : decode cX0_showLines 6 = .ok (.istore_n 2, 1) := by decide +kernel
theorem dX0_showLines_7 : decode cX0_showLines 7 = .ok (.iload_n 2, 1) := by decide +kernel
theorem dX0_showLines_8 : decode cX0_showLines 8 = .ok (.aload_n 0, 1) := by decide +kernel
theorem dX0_showLines_9 : decode cX0_showLines 9 = .ok (.getfield 12, 3) := by decide +kernel
theorem dX0_showLines_12 : decode cX0_showLines 12 = .ok (.getfield 30, 3) := by decide +kernel
theorem dX0_showLines_15 : decode cX0_showLines 15 = .ok (.if_icmp .ge 42, 3) := by decide +kernel
theorem dX0_showLines_18 : decode cX0_showLines 18 = .ok (.aload_n 0, 1) := by decide +kernel
theorem dX0_showLines_19 : decode cX0_showLines 19 = .ok (.getfield 18, 3) := by decide +kernel
theorem dX0_showLines_22 : decode cX0_showLines 22 = .ok (.iload_n 2, 1) := by decide +kernel
theorem dX0_showLines_23 : decode cX0_showLines 23 = .ok (.baload, 1) := by decide +kernel
theorem dX0_showLines_24 : decode cX0_showLines 24 = .ok (.ifCond .ne 7, 3) := by decide +kernel
theorem dX0_showLines_27 : decode cX0_showLines 27 = .ok (.iload_n 1, 1) := by decide +kernel
theorem dX0_showLines_28 : decode cX0_showLines 28 = .ok (.ifCond .ne 23, 3) := by decide +kernel
theorem dX0_showLines_31 : decode cX0_showLines 31 = .ok (.aload_n 0, 1) := by decide +kernel
theorem dX0_showLines_32 : decode cX0_showLines 32 = .ok (.getfield 22, 3) := by decide +kernel
theorem dX0_showLines_35 : decode cX0_showLines 35 = .ok (.aload_n 0, 1) := by decide +kernel
theorem dX0_showLines_36 : decode cX0_showLines 36 = .ok (.getfield 26, 3) := by decide +kernel
theorem dX0_showLines_39 : decode cX0_showLines 39 = .ok (.iload_n 2, 1) := by decide +kernel
theorem dX0_showLines_40 : decode cX0_showLines 40 = .ok (.iastore, 1) := by decide +kernel
theorem dX0_showLines_41 : decode cX0_showLines 41 = .ok (.aload_n 0, 1) := by decide +kernel
theorem dX0_showLines_42 : decode cX0_showLines 42 = .ok (.dup, 1) := by decide +kernel
theorem dX0_showLines_43 : decode cX0_showLines 43 = .ok (.getfield 26, 3) := by decide +kernel
theorem dX0_showLines_46 : decode cX0_showLines 46 = .ok (.iconst 1, 1) := by decide +kernel
theorem dX0_showLines_47 : decode cX0_showLines 47 = .ok (.iadd, 1) := by decide +kernel
theorem dX0_showLines_48 : decode cX0_showLines 48 = .ok (.putfield 26, 3) := by decide +kernel
theorem dX0_showLines_51 : decode cX0_showLines 51 = .ok (.iinc 2 1, 3) := by decide +kernel
theorem dX0_showLines_54 : decode cX0_showLines 54 = .ok (.goto (-47), 3) := by decide +kernel
theorem dX0_showLines_57 : decode cX0_showLines 57 = .ok (.return_, 1) := by decide +kernel
theorem dX0_hasLine_0 : decode cX0_hasLine 0 = .ok (.iload_n 1, 1) := by decide +kernel
theorem dX0_hasLine_1 : decode cX0_hasLine 1 = .ok (.ifCond .lt 15, 3) := by decide +kernel
theorem dX0_hasLine_4 : decode cX0_hasLine 4 = .ok (.iload_n 1, 1) := by decide +kernel
theorem dX0_hasLine_5 : decode cX0_hasLine 5 = .ok (.aload_n 0, 1) := by decide +kernel
theorem dX0_hasLine_6 : decode cX0_hasLine 6 = .ok (.getfield 26, 3) := by decide +kernel
theorem dX0_hasLine_9 : decode cX0_hasLine 9 = .ok (.if_icmp .ge 7, 3) := by decide +kernel
theorem dX0_hasLine_12 : decode cX0_hasLine 12 = .ok (.iconst 1, 1) := by decide +kernel
theorem dX0_hasLine_13 : decode cX0_hasLine 13 = .ok (.goto 4, 3) := by decide +kernel
theorem dX0_hasLine_16 : decode cX0_hasLine 16 = .ok (.iconst 0, 1) := by decide +kernel
theorem dX0_hasLine_17 : decode cX0_hasLine 17 = .ok (.ireturn, 1) := by decide +kernel
theorem dX0_memberOfLine_0 : decode cX0_memberOfLine 0 = .ok (.aload_n 0, 1) := by decide +kernel
theorem dX0_memberOfLine_1 : decode cX0_memberOfLine 1 = .ok (.iload_n 1, 1) := by decide +kernel
theorem dX0_memberOfLine_2 : decode cX0_memberOfLine 2 = .ok (.invokevirtual 33, 3) := by decide +kernel
theorem dX0_memberOfLine_5 : decode cX0_memberOfLine 5 = .ok (.ifCond .eq 20, 3) := by decide +kernel
theorem dX0_memberOfLine_8 : decode cX0_memberOfLine 8 = .ok (.aload_n 0, 1) := by decide +kernel
theorem dX0_memberOfLine_9 : decode cX0_memberOfLine 9 = .ok (.getfield 12, 3) := by decide +kernel
theorem dX0_memberOfLine_12 : decode cX0_memberOfLine 12 = .ok (.getfield 37, 3) := by decide +kernel
theorem dX0_memberOfLine_15 : decode cX0_memberOfLine 15 = .ok (.aload_n 0, 1) := by decide +kernel
theorem dX0_memberOfLine_16 : decode cX0_memberOfLine 16 = .ok (.getfield 22, 3) := by decide +kernel
theorem dX0_memberOfLine_19 : decode cX0_memberOfLine 19 = .ok (.iload_n 1, 1) := by decide +kernel
theorem dX0_memberOfLine_20 : decode cX0_memberOfLine 20 = .ok (.iaload, 1) := by decide +kernel
theorem dX0_memberOfLine_21 : decode cX0_memberOfLine 21 = .ok (.iaload, 1) := by decide +kernel
theorem dX0_memberOfLine_22 : decode cX0_memberOfLine 22 = .ok (.goto 4, 3) := by decide +kernel
theorem dX0_memberOfLine_25 : decode cX0_memberOfLine 25 = .ok (.iconst (-1), 1) := by decide +kernel
theorem dX0_memberOfLine_26 : decode cX0_memberOfLine 26 = .ok (.ireturn, 1) := by decide +kernel
theorem dX2_clearSums_0 : decode cX2_clearSums 0 = .ok (.iconst 0, 1) := by decide +kernel
theorem dX2_clearSums_1 : decode cX2_clearSums 1 = .ok (.istore_n 1, 1) := by decide +kernel
theorem dX2_clearSums_2 : decode cX2_clearSums 2 = .ok (.iload_n 1, 1) := by decide +kernel
theorem dX2_clearSums_3 : decode cX2_clearSums 3 = .ok (.bipush 24, 2) := by decide +kernel
theorem dX2_clearSums_5 : decode cX2_clearSums 5 = .ok (.if_icmp .ge 16, 3) := by decide +kernel
theorem dX2_clearSums_8 : decode cX2_clearSums 8 = .ok (.aload_n 0, 1) := by decide +kernel
theorem dX2_clearSums_9 : decode cX2_clearSums 9 = .ok (.getfield 18, 3) := by decide +kernel
theorem dX2_clearSums_12 : decode cX2_clearSums 12 = .ok (.iload_n 1, 1) := by decide +kernel
theorem dX2_clearSums_13 : decode cX2_clearSums 13 = .ok (.iconst 0, 1) := by decide +kernel
theorem dX2_clearSums_14 : decode cX2_clearSums 14 = .ok (.iastore, 1) := by decide +kernel
theorem dX2_clearSums_15 : decode cX2_clearSums 15 = .ok (.iinc 1 1, 3) := by decide +kernel
theorem dX2_clearSums_18 : decode cX2_clearSums 18 = .ok (.goto (-16), 3) := by decide +kernel
theorem dX2_clearSums_21 : decode cX2_clearSums 21 = .ok (.return_, 1) := by decide +kernel
theorem dX2_childrenAheadOf_0 : decode cX2_childrenAheadOf 0 = .ok (.iconst 0, 1) := by decide +kernel
theorem dX2_childrenAheadOf_1 : decode cX2_childrenAheadOf 1 = .ok (.istore_n 2, 1) := by decide +kernel
theorem dX2_childrenAheadOf_2 : decode cX2_childrenAheadOf 2 = .ok (.iconst 0, 1) := by decide +kernel
theorem dX2_childrenAheadOf_3 : decode cX2_childrenAheadOf 3 = .ok (.istore_n 3, 1) := by decide +kernel
theorem dX2_childrenAheadOf_4 : decode cX2_childrenAheadOf 4 = .ok (.iload_n 3, 1) := by decide +kernel
theorem dX2_childrenAheadOf_5 : decode cX2_childrenAheadOf 5 = .ok (.aload_n 0, 1) := by decide +kernel
theorem dX2_childrenAheadOf_6 : decode cX2_childrenAheadOf 6 = .ok (.getfield 12, 3) := by decide +kernel
theorem dX2_childrenAheadOf_9 : decode cX2_childrenAheadOf 9 = .ok (.getfield 22, 3) := by decide +kernel
theorem dX2_childrenAheadOf_12 : decode cX2_childrenAheadOf 12 = .ok (.if_icmp .ge 59, 3) := by decide +kernel
theorem dX2_childrenAheadOf_15 : decode cX2_childrenAheadOf 15 = .ok (.aload_n 0, 1) := by decide +kernel
theorem dX2_childrenAheadOf_16 : decode cX2_childrenAheadOf 16 = .ok (.getfield 18, 3) := by decide +kernel
theorem dX2_childrenAheadOf_19 : decode cX2_childrenAheadOf 19 = .ok (.iload_n 3, 1) := by decide +kernel
theorem dX2_childrenAheadOf_20 : decode cX2_childrenAheadOf 20 = .ok (.iaload, 1) := by decide +kernel
theorem dX2_childrenAheadOf_21 : decode cX2_childrenAheadOf 21 = .ok (.aload_n 0, 1) := by decide +kernel
theorem dX2_childrenAheadOf_22 : decode cX2_childrenAheadOf 22 = .ok (.getfield 18, 3) := by decide +kernel
theorem dX2_childrenAheadOf_25 : decode cX2_childrenAheadOf 25 = .ok (.iload_n 1, 1) := by decide +kernel
theorem dX2_childrenAheadOf_26 : decode cX2_childrenAheadOf 26 = .ok (.iaload, 1) := by decide +kernel
theorem dX2_childrenAheadOf_27 : decode cX2_childrenAheadOf 27 = .ok (.if_icmp .ne 7, 3) := by decide +kernel
theorem dX2_childrenAheadOf_30 : decode cX2_childrenAheadOf 30 = .ok (.iconst 1, 1) := by decide +kernel
theorem dX2_childrenAheadOf_31 : decode cX2_childrenAheadOf 31 = .ok (.goto 4, 3) := by decide +kernel
theorem dX2_childrenAheadOf_34 : decode cX2_childrenAheadOf 34 = .ok (.iconst 0, 1) := by decide +kernel
theorem dX2_childrenAheadOf_35 : decode cX2_childrenAheadOf 35 = .ok (.istore 4, 2) := by decide +kernel
theorem dX2_childrenAheadOf_37 : decode cX2_childrenAheadOf 37 = .ok (.aload_n 0, 1) := by decide +kernel
theorem dX2_childrenAheadOf_38 : decode cX2_childrenAheadOf 38 = .ok (.getfield 18, 3) := by decide +kernel
theorem dX2_childrenAheadOf_41 : decode cX2_childrenAheadOf 41 = .ok (.iload_n 3, 1) := by decide +kernel
theorem dX2_childrenAheadOf_42 : decode cX2_childrenAheadOf 42 = .ok (.iaload, 1) := by decide +kernel
theorem dX2_childrenAheadOf_43 : decode cX2_childrenAheadOf 43 = .ok (.aload_n 0, 1) := by decide +kernel
theorem dX2_childrenAheadOf_44 : decode cX2_childrenAheadOf 44 = .ok (.getfield 18, 3) := by decide +kernel
theorem dX2_childrenAheadOf_47 : decode cX2_childrenAheadOf 47 = .ok (.iload_n 1, 1) := by decide +kernel
theorem dX2_childrenAheadOf_48 : decode cX2_childrenAheadOf 48 = .ok (.iaload, 1) := by decide +kernel
theorem dX2_childrenAheadOf_49 : decode cX2_childrenAheadOf 49 = .ok (.if_icmp .gt 13, 3) := by decide +kernel
theorem dX2_childrenAheadOf_52 : decode cX2_childrenAheadOf 52 = .ok (.iload 4, 2) := by decide +kernel
theorem dX2_childrenAheadOf_54 : decode cX2_childrenAheadOf 54 = .ok (.ifCond .eq 11, 3) := by decide +kernel
theorem dX2_childrenAheadOf_57 : decode cX2_childrenAheadOf 57 = .ok (.iload_n 3, 1) := by decide +kernel
theorem dX2_childrenAheadOf_58 : decode cX2_childrenAheadOf 58 = .ok (.iload_n 1, 1) := by decide +kernel
theorem dX2_childrenAheadOf_59 : decode cX2_childrenAheadOf 59 = .ok (.if_icmp .ge 6, 3) := by decide +kernel
theorem dX2_childrenAheadOf_62 : decode cX2_childrenAheadOf 62 = .ok (.iinc 2 1, 3) := by decide +kernel
theorem dX2_childrenAheadOf_65 : decode cX2_childrenAheadOf 65 = .ok (.iinc 3 1, 3) := by decide +kernel
theorem dX2_childrenAheadOf_68 : decode cX2_childrenAheadOf 68 = .ok (.goto (-64), 3) := by decide +kernel
theorem dX2_childrenAheadOf_71 : decode cX2_childrenAheadOf 71 = .ok (.iload_n 2, 1) := by decide +kernel
theorem dX2_childrenAheadOf_72 : decode cX2_childrenAheadOf 72 = .ok (.ireturn, 1) := by decide +kernel
theorem dX2_childOfRank_0 : decode cX2_childOfRank 0 = .ok (.iconst 0, 1) := by decide +kernel
theorem dX2_childOfRank_1 : decode cX2_childOfRank 1 = .ok (.istore_n 2, 1) := by decide +kernel
theorem dX2_childOfRank_2 : decode cX2_childOfRank 2 = .ok (.iload_n 2, 1) := by decide +kernel
theorem dX2_childOfRank_3 : decode cX2_childOfRank 3 = .ok (.aload_n 0, 1) := by decide +kernel
theorem dX2_childOfRank_4 : decode cX2_childOfRank 4 = .ok (.getfield 12, 3) := by decide +kernel
theorem dX2_childOfRank_7 : decode cX2_childOfRank 7 = .ok (.getfield 22, 3) := by decide +kernel
theorem dX2_childOfRank_10 : decode cX2_childOfRank 10 = .ok (.if_icmp .ge 20, 3) := by decide +kernel
theorem dX2_childOfRank_13 : decode cX2_childOfRank 13 = .ok (.aload_n 0, 1) := by decide +kernel
theorem dX2_childOfRank_14 : decode cX2_childOfRank 14 = .ok (.iload_n 2, 1) := by decide +kernel
theorem dX2_childOfRank_15 : decode cX2_childOfRank 15 = .ok (.invokevirtual 26, 3) := by decide +kernel
theorem dX2_childOfRank_18 : decode cX2_childOfRank 18 = .ok (.iload_n 1, 1) := by decide +kernel
theorem dX2_childOfRank_19 : decode cX2_childOfRank 19 = .ok (.if_icmp .ne 5, 3) := by decide +kernel
theorem dX2_childOfRank_22 : decode cX2_childOfRank 22 = .ok (.iload_n 2, 1) := by decide +kernel
theorem dX2_childOfRank_23 : decode cX2_childOfRank 23 = .ok (.ireturn, 1) := by decide +kernel
theorem dX2_childOfRank_24 : decode cX2_childOfRank 24 = .ok (.iinc 2 1, 3) := by decide +kernel
theorem dX2_childOfRank_27 : decode cX2_childOfRank 27 = .ok (.goto (-25), 3) := by decide +kernel
theorem dX2_childOfRank_30 : decode cX2_childOfRank 30 = .ok (.iconst (-1), 1) := by decide +kernel
theorem dX2_childOfRank_31 : decode cX2_childOfRank 31 = .ok (.ireturn, 1) := by decide +kernel
theorem dX2_sumOfRank_0 : decode cX2_sumOfRank 0 = .ok (.aload_n 0, 1) := by decide +kernel
theorem dX2_sumOfRank_1 : decode cX2_sumOfRank 1 = .ok (.iload_n 1, 1) := by decide +kernel
theorem dX2_sumOfRank_2 : decode cX2_sumOfRank 2 = .ok (.invokevirtual 30, 3) := by decide +kernel
theorem dX2_sumOfRank_5 : decode cX2_sumOfRank 5 = .ok (.istore_n 2, 1) := by decide +kernel
theorem dX2_sumOfRank_6 : decode cX2_sumOfRank 6 = .ok (.aload_n 0, 1) := by decide +kernel
theorem dX2_sumOfRank_7 : decode cX2_sumOfRank 7 = .ok (.getfield 12, 3) := by decide +kernel
theorem dX2_sumOfRank_10 : decode cX2_sumOfRank 10 = .ok (.iload_n 2, 1) := by decide +kernel
theorem dX2_sumOfRank_11 : decode cX2_sumOfRank 11 = .ok (.invokevirtual 33, 3) := by decide +kernel
theorem dX2_sumOfRank_14 : decode cX2_sumOfRank 14 = .ok (.ifCond .eq 12, 3) := by decide +kernel
theorem dX2_sumOfRank_17 : decode cX2_sumOfRank 17 = .ok (.aload_n 0, 1) := by decide +kernel
theorem dX2_sumOfRank_18 : decode cX2_sumOfRank 18 = .ok (.getfield 18, 3) := by decide +kernel
theorem dX2_sumOfRank_21 : decode cX2_sumOfRank 21 = .ok (.iload_n 2, 1) := by decide +kernel
theorem dX2_sumOfRank_22 : decode cX2_sumOfRank 22 = .ok (.iaload, 1) := by decide +kernel
theorem dX2_sumOfRank_23 : decode cX2_sumOfRank 23 = .ok (.goto 4, 3) := by decide +kernel
theorem dX2_sumOfRank_26 : decode cX2_sumOfRank 26 = .ok (.iconst 0, 1) := by decide +kernel
theorem dX2_sumOfRank_27 : decode cX2_sumOfRank 27 = .ok (.ireturn, 1) := by decide +kernel
/-! by program: wip/whole/gen.py out of wip/whole/src/13.parts.eb -/
/-! FactList (6), ViewList (11), Axis (15), Lineup (20) -/
set_option maxRecDepth 100000 in
set_option maxHeartbeats 8000000 in
theorem c_X1_has {l : Launch} {D : va_G} {cys : Nat → ClassId} {ad : Nat → Int → Nat} {L : List Nat} {g : Nat → va_E} {X : Int64} {Z : ZT} (hi : injA ad) {q : Int} (hq : inR q) (hs : inR (Z 6 0 3)) : CM l D cys ad yX1_has cX1_has 2 (some .boolean) 0 0 0 0 [.ref (ad 6 0), .int (iI q)] L g X Z (PI L g X Z (fun r => (r = 1 ∧ 0 ≤ q ∧ q < Z 6 0 3) ∨ (r = 0 ∧ ¬ (0 ≤ q ∧ q < Z 6 0 3)))) := by
  refine cm_start hi (by decide +kernel) (Nat.le_of_ble_eq_true rfl) ?_
  intro p_ e_ s_ m_ args_ below_ meth_ c_ A_ Q_ hQ G hr hin
  refine j_iload_n G dX1_has_0 rfl ?_
  refine j_if_lt G 16 dX1_has_1 (by decide) (by omega) (fun c1 => ?_) (fun c1 => ?_)
  · refine j_iconst G dX1_has_16 ?_
    refine jr_B G hQ hr dX1_has_17 (by decide) (by decide) (by omega) ?_
    first | omega | (refine ⟨?_, ?_⟩ <;> (try intros) <;> first | rfl | omega | (exfalso; omega)) | simp
  · refine j_iload_n G dX1_has_4 rfl ?_
    refine j_aload_n G dX1_has_5 rfl ?_
    refine gf_6_3 G dX1_has_6 lf1_23 (by first | assumption | decide) ?_
    refine j_icmp_ge G 16 dX1_has_9 (by decide) (by omega) (by omega) (fun c9 => ?_) (fun c9 => ?_)
    · refine j_iconst G dX1_has_16 ?_
      refine jr_B G hQ hr dX1_has_17 (by decide) (by decide) (by omega) ?_
      first | omega | (refine ⟨?_, ?_⟩ <;> (try intros) <;> first | rfl | omega | (exfalso; omega)) | simp
    · refine j_iconst G dX1_has_12 ?_
      refine j_goto G 17 dX1_has_13 (by decide) ?_
      refine jr_B G hQ hr dX1_has_17 (by decide) (by decide) (by omega) ?_
      first | omega | (refine ⟨?_, ?_⟩ <;> (try intros) <;> first | rfl | omega | (exfalso; omega)) | simp
set_option maxRecDepth 100000 in
set_option maxHeartbeats 8000000 in
theorem c_X1_closeGapAt {l : Launch} {D : va_G} {cys : Nat → ClassId} {ad : Nat → Int → Nat} {L : List Nat} {g : Nat → va_E} {X : Int64} {Z : ZT} (hi : injA ad) {gap : Int} (hg : 0 ≤ gap ∧ gap < Z 6 0 3) (hs : Z 6 0 3 ≤ 80) : CM l D cys ad yX1_closeGapAt cX1_closeGapAt 4 none 0 0 0 0 [.ref (ad 6 0), .int (iI gap)] L g X Z (PVZ L g X Z (fun Z' => (∀ k, k ≠ 6 → k ≠ 8 → k ≠ 9 → Z' k = Z k) ∧ Z' 6 0 3 = Z 6 0 3 - 1 ∧ (∀ k, Z' 9 0 k = gapF gap (Z 6 0 3 - 1) (Z 9 0) k) ∧ (∀ d, 0 ≤ d → d < 4 → ∀ k, Z' 8 d k = gapF gap (Z 6 0 3 - 1) (Z 8 d) k))) := by
  refine cm_start hi (by decide +kernel) (Nat.le_of_ble_eq_true rfl) ?_
  intro p_ e_ s_ m_ args_ below_ meth_ c_ A_ Q_ hQ G hr hin
  have loop : ∀ (n : Nat) (a : Int) (Y : ZT), gap ≤ a → a < Z 6 0 3 → (Z 6 0 3 - 1 - a).toNat = n → (∀ k, k ≠ 8 → k ≠ 9 → Y k = Z k) → (∀ k, Y 9 0 k = gapF gap a (Z 9 0) k) → (∀ d, 0 ≤ d → d < 4 → ∀ k, Y 8 d k = gapF gap a (Z 8 d) k) → JJ p_ l e_ { frames := 0, cells := 0, slots := 0, locals := 0 } s_ m_ args_ below_ meth_ c_ D cys ad A_ Q_ 4 0 0 L g X Y 2 [(0, .ref (ad 6 0)), (1, .int (iI gap)), (2, .int (iI a))] [] := by
    have hfin : ∀ (a : Int) (Y : ZT) , a = Z 6 0 3 - 1 → (∀ k, k ≠ 8 → k ≠ 9 → Y k = Z k) → (∀ k, Y 9 0 k = gapF gap a (Z 9 0) k) → (∀ d, 0 ≤ d → d < 4 → ∀ k, Y 8 d k = gapF gap a (Z 8 d) k) → (∀ k, k ≠ 6 → k ≠ 8 → k ≠ 9 → zS Y 6 0 3 (Y 6 0 3 - 1) k = Z k) ∧ zS Y 6 0 3 (Y 6 0 3 - 1) 6 0 3 = Z 6 0 3 - 1 ∧ (∀ k, zS Y 6 0 3 (Y 6 0 3 - 1) 9 0 k = gapF gap (Z 6 0 3 - 1) (Z 9 0) k) ∧ (∀ d, 0 ≤ d → d < 4 → ∀ k, zS Y 6 0 3 (Y 6 0 3 - 1) 8 d k = gapF gap (Z 6 0 3 - 1) (Z 8 d) k) := by
      intro a Y h0 h3 h4 h5
      subst h0
      refine ⟨fun k k1 k2 k3 => ?_, ?_, fun k => ?_, fun d d0 d1 k => ?_⟩
      · rw [zS_k k1]; exact h3 k k2 k3
      · rw [zS_s, h3 6 (by decide) (by decide)]
      · rw [zS_k (by decide)]; exact h4 k
      · rw [zS_k (by decide)]; exact h5 d d0 d1 k
    intro n
    induction n with
    | zero =>
      intro a Y h0 h1 h2 h3 h4 h5
      have e6 : Y 6 0 3 = Z 6 0 3 := by rw [h3 6 (by decide) (by decide)]
      have hf := hfin a Y (by omega) h3 h4 h5
      refine j_iload_n G dX1_closeGapAt_2 rfl ?_
      refine j_iconst G dX1_closeGapAt_3 ?_
      refine j_iadd G dX1_closeGapAt_4 ?_
      refine j_aload_n G dX1_closeGapAt_5 rfl ?_
      refine gf_6_3 G dX1_closeGapAt_6 lf1_23 (by first | assumption | decide) ?_
      refine j_icmp_ge G 63 dX1_closeGapAt_9 (by decide) (by omega) (by omega) (fun c9 => ?_) (fun c9 => ?_)
      · refine j_aload_n G dX1_closeGapAt_63 rfl ?_
        refine j_dup G dX1_closeGapAt_64 rfl ?_
        refine gf_6_3 G dX1_closeGapAt_65 lf1_23 (by first | assumption | decide) ?_
        refine j_iconst G dX1_closeGapAt_68 ?_
        refine j_isub G dX1_closeGapAt_69 ?_
        refine pf_6_3 G dX1_closeGapAt_70 lf1_23 (by first | assumption | decide) ?_
        refine jr_VZ G hQ hr dX1_closeGapAt_73 (by decide) (by decide) ?_
        try simp (config := { decide := true }) only [zS_k, zS_s, zS_j, ne_eq]
        exact hf
      · exfalso; omega
    | succ n ih =>
      intro a Y h0 h1 h2 h3 h4 h5
      have e6 : Y 6 0 3 = Z 6 0 3 := by rw [h3 6 (by decide) (by decide)]
      refine j_iload_n G dX1_closeGapAt_2 rfl ?_
      refine j_iconst G dX1_closeGapAt_3 ?_
      refine j_iadd G dX1_closeGapAt_4 ?_
      refine j_aload_n G dX1_closeGapAt_5 rfl ?_
      refine gf_6_3 G dX1_closeGapAt_6 lf1_23 (by first | assumption | decide) ?_
      refine j_icmp_ge G 63 dX1_closeGapAt_9 (by decide) (by omega) (by omega) (fun c9 => ?_) (fun c9 => ?_)
      · exfalso; omega
      · refine j_aload_n G dX1_closeGapAt_12 rfl ?_
        refine gf_6_1 G dX1_closeGapAt_13 lf1_16 (by first | assumption | decide) ?_
        refine j_iload_n G dX1_closeGapAt_16 rfl ?_
        refine j_aload_n G dX1_closeGapAt_17 rfl ?_
        refine gf_6_1 G dX1_closeGapAt_18 lf1_16 (by first | assumption | decide) ?_
        refine j_iload_n G dX1_closeGapAt_21 rfl ?_
        refine j_iconst G dX1_closeGapAt_22 ?_
        refine j_iadd G dX1_closeGapAt_23 ?_
        refine al_9 G dX1_closeGapAt_24 (by first | assumption | decide) (by omega) (by omega) ?_
        refine as_9 G dX1_closeGapAt_25 (by first | assumption | decide) (by omega) (by omega) ?_
        refine j_iconst G dX1_closeGapAt_26 ?_
        refine j_istore_n G dX1_closeGapAt_27 (by decide) rfl ?_
        have inner : ∀ (n : Nat) (b : Int) (V : ZT), 0 ≤ b → b ≤ 4 → (4 - b).toNat = n → (∀ k, k ≠ 8 → k ≠ 9 → V k = Z k) → (∀ k, V 9 0 k = gapF gap (a + 1) (Z 9 0) k) → (∀ d, 0 ≤ d → d < b → ∀ k, V 8 d k = gapF gap (a + 1) (Z 8 d) k) → (∀ d, b ≤ d → d < 4 → ∀ k, V 8 d k = gapF gap a (Z 8 d) k) → JJ p_ l e_ { frames := 0, cells := 0, slots := 0, locals := 0 } s_ m_ args_ below_ meth_ c_ D cys ad A_ Q_ 4 0 0 L g X V 28 [(0, .ref (ad 6 0)), (1, .int (iI gap)), (2, .int (iI a)), (3, .int (iI b))] [] := by
          intro n2
          induction n2 with
          | zero =>
            intro b V g0 g1 g2 g3 g4 g5 g6
            refine j_iload_n G dX1_closeGapAt_28 rfl ?_
            refine j_iconst G dX1_closeGapAt_29 ?_
            refine j_icmp_ge G 57 dX1_closeGapAt_30 (by decide) (by omega) (by omega) (fun c30 => ?_) (fun c30 => ?_)
            · refine j_iinc G dX1_closeGapAt_57 rfl (by decide) rfl ?_
              refine j_goto G 2 dX1_closeGapAt_60 (by decide) ?_
              refine j_keep [0, 1, 2] ?_
              exact ih (a + 1) V (by omega) (by omega) (by omega) g3 g4 (fun d d0 d1 => g5 d d0 (by omega))
            · exfalso; omega
          | succ n2 ih2 =>
            intro b V g0 g1 g2 g3 g4 g5 g6
            have hb8 : vd 8 b := ⟨g0, show b < 4 by omega⟩
            refine j_iload_n G dX1_closeGapAt_28 rfl ?_
            refine j_iconst G dX1_closeGapAt_29 ?_
            refine j_icmp_ge G 57 dX1_closeGapAt_30 (by decide) (by omega) (by omega) (fun c30 => ?_) (fun c30 => ?_)
            · exfalso; omega
            · refine j_aload_n G dX1_closeGapAt_33 rfl ?_
              refine gf_6_0 G dX1_closeGapAt_34 lf1_11 (by first | assumption | decide) ?_
              refine j_iload_n G dX1_closeGapAt_37 rfl ?_
              refine al_7 G dX1_closeGapAt_38 (by first | assumption | decide) (by omega) (by omega) ?_
              refine j_iload_n G dX1_closeGapAt_39 rfl ?_
              refine j_aload_n G dX1_closeGapAt_40 rfl ?_
              refine gf_6_0 G dX1_closeGapAt_41 lf1_11 (by first | assumption | decide) ?_
              refine j_iload_n G dX1_closeGapAt_44 rfl ?_
              refine al_7 G dX1_closeGapAt_45 (by first | assumption | decide) (by omega) (by omega) ?_
              refine j_iload_n G dX1_closeGapAt_46 rfl ?_
              refine j_iconst G dX1_closeGapAt_47 ?_
              refine j_iadd G dX1_closeGapAt_48 ?_
              refine al_8 G dX1_closeGapAt_49 (by first | assumption | decide) (by omega) (by omega) ?_
              refine as_8 G dX1_closeGapAt_50 (by first | assumption | decide) (by omega) (by omega) ?_
              refine j_iinc G dX1_closeGapAt_51 rfl (by decide) rfl ?_
              refine j_goto G 28 dX1_closeGapAt_54 (by decide) ?_
              refine ih2 (b + 1) _ (by omega) (by omega) (by omega) (fun k k1 k2 => ?_) (fun k => ?_) (fun d d0 d1 k => ?_) (fun d d0 d1 k => ?_)
              · rw [zS_k k1]; exact g3 k k1 k2
              · rw [zS_k (by decide)]; exact g4 k
              · by_cases e : d = b
                · subst e
                  rw [zS_v, g6 d (by omega) (by omega), g6 d (by omega) (by omega)]
                  unfold gapF
                  by_cases e2 : k = a
                  · subst e2
                    rw [if_pos rfl, if_neg (by omega), if_pos (by omega)]
                  · rw [if_neg e2]
                    by_cases e3 : gap ≤ k ∧ k < a
                    · rw [if_pos e3, if_pos (by omega)]
                    · rw [if_neg e3, if_neg (by omega)]
                · rw [zS_o (fun q => e q.2)]; exact g5 d d0 (by omega) k
              · rw [zS_o (by omega)]; exact g6 d (by omega) d1 k
        refine inner 4 0 _ (by omega) (by omega) rfl (fun k k1 k2 => ?_) (fun k => ?_) (fun d d0 d1 => by omega) (fun d d0 d1 k => ?_)
        · rw [zS_k k2]; exact h3 k k1 k2
        · rw [zS_v, h4, h4]
          unfold gapF
          by_cases e2 : k = a
          · subst e2
            rw [if_pos rfl, if_neg (by omega), if_pos (by omega)]
          · rw [if_neg e2]
            by_cases e3 : gap ≤ k ∧ k < a
            · rw [if_pos e3, if_pos (by omega)]
            · rw [if_neg e3, if_neg (by omega)]
        · rw [zS_k (by decide)]; exact h5 d d0 d1 k
  refine j_iload_n G dX1_closeGapAt_0 rfl ?_
  refine j_istore_n G dX1_closeGapAt_1 (by decide) rfl ?_
  refine loop _ gap Z (by omega) hg.2 rfl (fun _ _ _ => rfl) (fun k => ?_) (fun d _ _ k => ?_)
  · unfold gapF; rw [if_neg (by omega)]
  · unfold gapF; rw [if_neg (by omega)]
set_option maxRecDepth 100000 in
set_option maxHeartbeats 8000000 in
theorem c_X1_isFirstOfItsCell {l : Launch} {D : va_G} {cys : Nat → ClassId} {ad : Nat → Int → Nat} {L : List Nat} {g : Nat → va_E} {X : Int64} {Z : ZT} (hi : injA ad) {q : Int} (hq : 0 ≤ q ∧ q < 80) (hv : ∀ j, 0 ≤ j → j ≤ q → inR (Z 10 0 j)) : CM l D cys ad yX1_isFirstOfItsCell cX1_isFirstOfItsCell 3 (some .boolean) 0 0 0 0 [.ref (ad 6 0), .int (iI q)] L g X Z (PI L g X Z (fun r => (r = 1 ∧ ∀ j, 0 ≤ j → j < q → Z 10 0 j ≠ Z 10 0 q) ∨ (r = 0 ∧ ∃ j, 0 ≤ j ∧ j < q ∧ Z 10 0 j = Z 10 0 q))) := by
  refine cm_start hi (by decide +kernel) (Nat.le_of_ble_eq_true rfl) ?_
  intro p_ e_ s_ m_ args_ below_ meth_ c_ A_ Q_ hQ G hr hin
  have hvq := hv q hq.1 (by omega)
  have loop : ∀ (n : Nat) (a : Int), 0 ≤ a → a ≤ q → (q - a).toNat = n → (∀ j, 0 ≤ j → j < a → Z 10 0 j ≠ Z 10 0 q) → JJ p_ l e_ { frames := 0, cells := 0, slots := 0, locals := 0 } s_ m_ args_ below_ meth_ c_ D cys ad A_ Q_ 3 0 0 L g X Z 2 [(0, .ref (ad 6 0)), (1, .int (iI q)), (2, .int (iI a))] [] := by
    intro n
    induction n with
    | zero =>
      intro a h0 h1 h2 h3
      refine j_iload_n G dX1_isFirstOfItsCell_2 rfl ?_
      refine j_iload_n G dX1_isFirstOfItsCell_3 rfl ?_
      refine j_icmp_ge G 30 dX1_isFirstOfItsCell_4 (by decide) (by omega) (by omega) (fun c4 => ?_) (fun c4 => ?_)
      · refine j_iconst G dX1_isFirstOfItsCell_30 ?_
        refine jr_B G hQ hr dX1_isFirstOfItsCell_31 (by decide) (by decide) (by omega) ?_
        exact Or.inl ⟨rfl, fun j h4 h5 => h3 j h4 (by omega)⟩
      · exfalso; omega
    | succ n ih =>
      intro a h0 h1 h2 h3
      have hva := hv a h0 h1
      refine j_iload_n G dX1_isFirstOfItsCell_2 rfl ?_
      refine j_iload_n G dX1_isFirstOfItsCell_3 rfl ?_
      refine j_icmp_ge G 30 dX1_isFirstOfItsCell_4 (by decide) (by omega) (by omega) (fun c4 => ?_) (fun c4 => ?_)
      · exfalso; omega
      · refine j_aload_n G dX1_isFirstOfItsCell_7 rfl ?_
        refine gf_6_2 G dX1_isFirstOfItsCell_8 lf1_20 (by first | assumption | decide) ?_
        refine j_iload_n G dX1_isFirstOfItsCell_11 rfl ?_
        refine al_10 G dX1_isFirstOfItsCell_12 (by first | assumption | decide) (by omega) (by omega) ?_
        refine j_aload_n G dX1_isFirstOfItsCell_13 rfl ?_
        refine gf_6_2 G dX1_isFirstOfItsCell_14 lf1_20 (by first | assumption | decide) ?_
        refine j_iload_n G dX1_isFirstOfItsCell_17 rfl ?_
        refine al_10 G dX1_isFirstOfItsCell_18 (by first | assumption | decide) (by omega) (by omega) ?_
        refine j_icmp_ne G 24 dX1_isFirstOfItsCell_19 (by decide) (by omega) (by omega) (fun c19 => ?_) (fun c19 => ?_)
        · refine j_iinc G dX1_isFirstOfItsCell_24 rfl (by decide) rfl ?_
          refine j_goto G 2 dX1_isFirstOfItsCell_27 (by decide) ?_
          refine ih (a + 1) (by omega) (by omega) (by omega) (fun j h4 h5 => ?_)
          by_cases e : j = a
          · subst e; assumption
          · exact h3 j h4 (by omega)
        · refine j_iconst G dX1_isFirstOfItsCell_22 ?_
          refine jr_B G hQ hr dX1_isFirstOfItsCell_23 (by decide) (by decide) (by omega) ?_
          exact Or.inr ⟨rfl, a, h0, by omega, by omega⟩
  refine j_iconst G dX1_isFirstOfItsCell_0 ?_
  refine j_istore_n G dX1_isFirstOfItsCell_1 (by decide) rfl ?_
  exact loop _ 0 (by omega) (by omega) rfl (fun j h4 h5 => by omega)
set_option maxRecDepth 100000 in
set_option maxHeartbeats 8000000 in
theorem c_X5_has {l : Launch} {D : va_G} {cys : Nat → ClassId} {ad : Nat → Int → Nat} {L : List Nat} {g : Nat → va_E} {X : Int64} {Z : ZT} (hi : injA ad) {q : Int} (hq : inR q) (hs : inR (Z 11 0 3)) : CM l D cys ad yX5_has cX5_has 2 (some .boolean) 0 0 0 0 [.ref (ad 11 0), .int (iI q)] L g X Z (PI L g X Z (fun r => (r = 1 ∧ 0 ≤ q ∧ q < Z 11 0 3) ∨ (r = 0 ∧ ¬ (0 ≤ q ∧ q < Z 11 0 3)))) := by
  refine cm_start hi (by decide +kernel) (Nat.le_of_ble_eq_true rfl) ?_
  intro p_ e_ s_ m_ args_ below_ meth_ c_ A_ Q_ hQ G hr hin
  refine j_iload_n G dX5_has_0 rfl ?_
  refine j_if_lt G 16 dX5_has_1 (by decide) (by omega) (fun c1 => ?_) (fun c1 => ?_)
  · refine j_iconst G dX5_has_16 ?_
    refine jr_B G hQ hr dX5_has_17 (by decide) (by decide) (by omega) ?_
    first | omega | (refine ⟨?_, ?_⟩ <;> (try intros) <;> first | rfl | omega | (exfalso; omega)) | simp
  · refine j_iload_n G dX5_has_4 rfl ?_
    refine j_aload_n G dX5_has_5 rfl ?_
    refine gf_11_3 G dX5_has_6 lf5_22 (by first | assumption | decide) ?_
    refine j_icmp_ge G 16 dX5_has_9 (by decide) (by omega) (by omega) (fun c9 => ?_) (fun c9 => ?_)
    · refine j_iconst G dX5_has_16 ?_
      refine jr_B G hQ hr dX5_has_17 (by decide) (by decide) (by omega) ?_
      first | omega | (refine ⟨?_, ?_⟩ <;> (try intros) <;> first | rfl | omega | (exfalso; omega)) | simp
    · refine j_iconst G dX5_has_12 ?_
      refine j_goto G 17 dX5_has_13 (by decide) ?_
      refine jr_B G hQ hr dX5_has_17 (by decide) (by decide) (by omega) ?_
      first | omega | (refine ⟨?_, ?_⟩ <;> (try intros) <;> first | rfl | omega | (exfalso; omega)) | simp
set_option maxRecDepth 100000 in
set_option maxHeartbeats 8000000 in
theorem c_X5_fill {l : Launch} {D : va_G} {cys : Nat → ClassId} {ad : Nat → Int → Nat} {L : List Nat} {g : Nat → va_E} {X : Int64} {Z : ZT} (hi : injA ad) {q n : Int} (hq : 0 ≤ q ∧ q < Z 11 0 3) (hs : Z 11 0 3 ≤ 6) : CM l D cys ad yX5_fill cX5_fill 3 none 1 21 0 0 [.ref (ad 11 0), .int (iI q), .int (iI n)] L g X Z (PVZ L g X Z (fun Z' => Z' = zS (zS Z 13 0 q n) 14 0 q 0)) := by
  refine cm_start hi (by decide +kernel) (Nat.le_of_ble_eq_true rfl) ?_
  intro p_ e_ s_ m_ args_ below_ meth_ c_ A_ Q_ hQ G hr hin
  refine j_aload_n G dX5_fill_0 rfl ?_
  refine j_iload_n G dX5_fill_1 rfl ?_
  refine j_cVI G cvX5_has ml5_26 (c_X5_has hi (by first | assumption | omega | decide) (by first | assumption | omega | decide)) dX5_fill_2 ⟨by decide, by decide⟩ ⟨by decide, by decide⟩ rfl rfl (Nat.le_of_ble_eq_true rfl) (by first | assumption | decide) rfl rfl rfl (fun r2 h2 => ?_)
  refine j_if_eq G 22 dX5_fill_5 (by decide) (by omega) (fun c5 => ?_) (fun c5 => ?_)
  · exfalso; omega
  · refine j_aload_n G dX5_fill_8 rfl ?_
    refine gf_11_1 G dX5_fill_9 lf5_15 (by first | assumption | decide) ?_
    refine j_iload_n G dX5_fill_12 rfl ?_
    refine j_iload_n G dX5_fill_13 rfl ?_
    refine as_13 G dX5_fill_14 (by first | assumption | decide) (by omega) (by omega) ?_
    refine j_aload_n G dX5_fill_15 rfl ?_
    refine gf_11_2 G dX5_fill_16 lf5_18 (by first | assumption | decide) ?_
    refine j_iload_n G dX5_fill_19 rfl ?_
    refine j_iconst G dX5_fill_20 ?_
    refine as_14 G dX5_fill_21 (by first | assumption | decide) (by omega) (by omega) (by omega) ?_
    refine jr_VZ G hQ hr dX5_fill_22 (by decide) (by decide) ?_
    try simp (config := { decide := true }) only [zS_k, zS_s, zS_j, ne_eq]
    all_goals rfl
set_option maxRecDepth 100000 in
set_option maxHeartbeats 8000000 in
theorem c_X5_makeAllStale {l : Launch} {D : va_G} {cys : Nat → ClassId} {ad : Nat → Int → Nat} {L : List Nat} {g : Nat → va_E} {X : Int64} {Z : ZT} (hi : injA ad)  (hs : 0 ≤ Z 11 0 3 ∧ Z 11 0 3 ≤ 6) : CM l D cys ad yX5_makeAllStale cX5_makeAllStale 2 none 0 0 0 0 [.ref (ad 11 0)] L g X Z (PVZ L g X Z (fun Z' => (∀ k, k ≠ 14 → Z' k = Z k) ∧ ∀ v, Z' 14 0 v = if 0 ≤ v ∧ v < Z 11 0 3 then 1 else Z 14 0 v)) := by
  refine cm_start hi (by decide +kernel) (Nat.le_of_ble_eq_true rfl) ?_
  intro p_ e_ s_ m_ args_ below_ meth_ c_ A_ Q_ hQ G hr hin
  have loop : ∀ (n : Nat) (a : Int) (Y : ZT), 0 ≤ a → a ≤ Z 11 0 3 → (Z 11 0 3 - a).toNat = n → (∀ k, k ≠ 14 → Y k = Z k) → (∀ v, Y 14 0 v = if 0 ≤ v ∧ v < a then 1 else Z 14 0 v) → JJ p_ l e_ { frames := 0, cells := 0, slots := 0, locals := 0 } s_ m_ args_ below_ meth_ c_ D cys ad A_ Q_ 2 0 0 L g X Y 2 [(0, .ref (ad 11 0)), (1, .int (iI a))] [] := by
    intro n
    induction n with
    | zero =>
      intro a Y h0 h1 h2 h3 h4
      have e : Y 11 0 3 = Z 11 0 3 := by rw [h3 11 (by decide)]
      have ea : a = Z 11 0 3 := by omega
      refine j_iload_n G dX5_makeAllStale_2 rfl ?_
      refine j_aload_n G dX5_makeAllStale_3 rfl ?_
      refine gf_11_3 G dX5_makeAllStale_4 lf5_22 (by first | assumption | decide) ?_
      refine j_icmp_ge G 23 dX5_makeAllStale_7 (by decide) (by omega) (by omega) (fun c7 => ?_) (fun c7 => ?_)
      · refine jr_VZ G hQ hr dX5_makeAllStale_23 (by decide) (by decide) ?_
        exact ⟨h3, fun v => by rw [h4 v, ea]⟩
      · exfalso; omega
    | succ n ih =>
      intro a Y h0 h1 h2 h3 h4
      have e : Y 11 0 3 = Z 11 0 3 := by rw [h3 11 (by decide)]
      refine j_iload_n G dX5_makeAllStale_2 rfl ?_
      refine j_aload_n G dX5_makeAllStale_3 rfl ?_
      refine gf_11_3 G dX5_makeAllStale_4 lf5_22 (by first | assumption | decide) ?_
      refine j_icmp_ge G 23 dX5_makeAllStale_7 (by decide) (by omega) (by omega) (fun c7 => ?_) (fun c7 => ?_)
      · exfalso; omega
      · refine j_aload_n G dX5_makeAllStale_10 rfl ?_
        refine gf_11_2 G dX5_makeAllStale_11 lf5_18 (by first | assumption | decide) ?_
        refine j_iload_n G dX5_makeAllStale_14 rfl ?_
        refine j_iconst G dX5_makeAllStale_15 ?_
        refine as_14 G dX5_makeAllStale_16 (by first | assumption | decide) (by omega) (by omega) (by omega) ?_
        refine j_iinc G dX5_makeAllStale_17 rfl (by decide) rfl ?_
        refine j_goto G 2 dX5_makeAllStale_20 (by decide) ?_
        refine ih (a + 1) _ (by omega) (by omega) (by omega) (fun k hk => ?_) (fun v => ?_)
        · rw [zS_k hk]; exact h3 k hk
        · rw [zS_v, h4 v]
          by_cases e1 : v = a
          · rw [if_pos e1, if_pos (by omega)]
          · rw [if_neg e1]
            by_cases e2 : 0 ≤ v ∧ v < a
            · rw [if_pos e2, if_pos (by omega)]
            · rw [if_neg e2, if_neg (by omega)]
  refine j_iconst G dX5_makeAllStale_0 ?_
  refine j_istore_n G dX5_makeAllStale_1 (by decide) rfl ?_
  refine loop _ 0 Z (by omega) (by omega) rfl (fun _ _ => rfl) (fun v => ?_)
  rw [if_neg (by omega)]
set_option maxRecDepth 100000 in
set_option maxHeartbeats 8000000 in
theorem c_X5_closeGapAt {l : Launch} {D : va_G} {cys : Nat → ClassId} {ad : Nat → Int → Nat} {L : List Nat} {g : Nat → va_E} {X : Int64} {Z : ZT} (hi : injA ad) {gap : Int} (hg : 0 ≤ gap ∧ gap < Z 11 0 3) (hs : Z 11 0 3 ≤ 6) (hb : ∀ v, 0 ≤ v → v < 6 → Z 14 0 v = 0 ∨ Z 14 0 v = 1) : CM l D cys ad yX5_closeGapAt cX5_closeGapAt 3 none 0 0 0 0 [.ref (ad 11 0), .int (iI gap)] L g X Z (PVZ L g X Z (fun Z' => (∀ k, k ≠ 11 → k ≠ 12 → k ≠ 13 → k ≠ 14 → Z' k = Z k) ∧ Z' 11 0 3 = Z 11 0 3 - 1 ∧ (∀ k, Z' 12 0 k = gapF gap (Z 11 0 3 - 1) (Z 12 0) k) ∧ (∀ k, Z' 13 0 k = gapF gap (Z 11 0 3 - 1) (Z 13 0) k) ∧ (∀ k, Z' 14 0 k = gapF gap (Z 11 0 3 - 1) (Z 14 0) k))) := by
  refine cm_start hi (by decide +kernel) (Nat.le_of_ble_eq_true rfl) ?_
  intro p_ e_ s_ m_ args_ below_ meth_ c_ A_ Q_ hQ G hr hin
  have hstep : ∀ (a : Int) (f h : Int → Int), gap ≤ a → (∀ k, f k = gapF gap a h k) → ∀ k, (if k = a then f (a + 1) else f k) = gapF gap (a + 1) h k := by
    intro a f h h0 h1 k
    rw [h1, h1]
    unfold gapF
    by_cases e2 : k = a
    · subst e2
      rw [if_pos rfl, if_neg (by omega), if_pos (by omega)]
    · rw [if_neg e2]
      by_cases e3 : gap ≤ k ∧ k < a
      · rw [if_pos e3, if_pos (by omega)]
      · rw [if_neg e3, if_neg (by omega)]
  have loop : ∀ (n : Nat) (a : Int) (Y : ZT), gap ≤ a → a < Z 11 0 3 → (Z 11 0 3 - 1 - a).toNat = n → (∀ k, k ≠ 12 → k ≠ 13 → k ≠ 14 → Y k = Z k) → (∀ k, Y 12 0 k = gapF gap a (Z 12 0) k) → (∀ k, Y 13 0 k = gapF gap a (Z 13 0) k) → (∀ k, Y 14 0 k = gapF gap a (Z 14 0) k) → JJ p_ l e_ { frames := 0, cells := 0, slots := 0, locals := 0 } s_ m_ args_ below_ meth_ c_ D cys ad A_ Q_ 3 0 0 L g X Y 2 [(0, .ref (ad 11 0)), (1, .int (iI gap)), (2, .int (iI a))] [] := by
    intro n
    induction n with
    | zero =>
      intro a Y h0 h1 h2 h3 h4 h5 h6
      have e : Y 11 0 3 = Z 11 0 3 := by rw [h3 11 (by decide) (by decide) (by decide)]
      have ea : a = Z 11 0 3 - 1 := by omega
      subst ea
      have hf : (∀ k, k ≠ 11 → k ≠ 12 → k ≠ 13 → k ≠ 14 → zS Y 11 0 3 (Y 11 0 3 - 1) k = Z k) ∧ zS Y 11 0 3 (Y 11 0 3 - 1) 11 0 3 = Z 11 0 3 - 1 ∧ (∀ k, zS Y 11 0 3 (Y 11 0 3 - 1) 12 0 k = gapF gap (Z 11 0 3 - 1) (Z 12 0) k) ∧ (∀ k, zS Y 11 0 3 (Y 11 0 3 - 1) 13 0 k = gapF gap (Z 11 0 3 - 1) (Z 13 0) k) ∧ (∀ k, zS Y 11 0 3 (Y 11 0 3 - 1) 14 0 k = gapF gap (Z 11 0 3 - 1) (Z 14 0) k) := by
        refine ⟨fun k k1 k2 k3 k4 => ?_, ?_, fun k => ?_, fun k => ?_, fun k => ?_⟩
        · rw [zS_k k1]; exact h3 k k2 k3 k4
        · rw [zS_s, e]
        · rw [zS_k (by decide)]; exact h4 k
        · rw [zS_k (by decide)]; exact h5 k
        · rw [zS_k (by decide)]; exact h6 k
      refine j_iload_n G dX5_closeGapAt_2 rfl ?_
      refine j_iconst G dX5_closeGapAt_3 ?_
      refine j_iadd G dX5_closeGapAt_4 ?_
      refine j_aload_n G dX5_closeGapAt_5 rfl ?_
      refine gf_11_3 G dX5_closeGapAt_6 lf5_22 (by first | assumption | decide) ?_
      refine j_icmp_ge G 60 dX5_closeGapAt_9 (by decide) (by omega) (by omega) (fun c9 => ?_) (fun c9 => ?_)
      · refine j_aload_n G dX5_closeGapAt_60 rfl ?_
        refine j_dup G dX5_closeGapAt_61 rfl ?_
        refine gf_11_3 G dX5_closeGapAt_62 lf5_22 (by first | assumption | decide) ?_
        refine j_iconst G dX5_closeGapAt_65 ?_
        refine j_isub G dX5_closeGapAt_66 ?_
        refine pf_11_3 G dX5_closeGapAt_67 lf5_22 (by first | assumption | decide) ?_
        refine jr_VZ G hQ hr dX5_closeGapAt_70 (by decide) (by decide) ?_
        try simp (config := { decide := true }) only [zS_k, zS_s, zS_j, ne_eq]
        exact hf
      · exfalso; omega
    | succ n ih =>
      intro a Y h0 h1 h2 h3 h4 h5 h6
      have e : Y 11 0 3 = Z 11 0 3 := by rw [h3 11 (by decide) (by decide) (by decide)]
      have hbv : Y 14 0 (a + 1) = 0 ∨ Y 14 0 (a + 1) = 1 := by
        rw [h6]
        unfold gapF
        rw [if_neg (by omega)]
        exact hb _ (by omega) (by omega)
      refine j_iload_n G dX5_closeGapAt_2 rfl ?_
      refine j_iconst G dX5_closeGapAt_3 ?_
      refine j_iadd G dX5_closeGapAt_4 ?_
      refine j_aload_n G dX5_closeGapAt_5 rfl ?_
      refine gf_11_3 G dX5_closeGapAt_6 lf5_22 (by first | assumption | decide) ?_
      refine j_icmp_ge G 60 dX5_closeGapAt_9 (by decide) (by omega) (by omega) (fun c9 => ?_) (fun c9 => ?_)
      · exfalso; omega
      · refine j_aload_n G dX5_closeGapAt_12 rfl ?_
        refine gf_11_0 G dX5_closeGapAt_13 lf5_9 (by first | assumption | decide) ?_
        refine j_iload_n G dX5_closeGapAt_16 rfl ?_
        refine j_aload_n G dX5_closeGapAt_17 rfl ?_
        refine gf_11_0 G dX5_closeGapAt_18 lf5_9 (by first | assumption | decide) ?_
        refine j_iload_n G dX5_closeGapAt_21 rfl ?_
        refine j_iconst G dX5_closeGapAt_22 ?_
        refine j_iadd G dX5_closeGapAt_23 ?_
        refine al_12 G dX5_closeGapAt_24 (by first | assumption | decide) (by omega) (by omega) ?_
        refine as_12 G dX5_closeGapAt_25 (by first | assumption | decide) (by omega) (by omega) ?_
        refine j_aload_n G dX5_closeGapAt_26 rfl ?_
        refine gf_11_1 G dX5_closeGapAt_27 lf5_15 (by first | assumption | decide) ?_
        refine j_iload_n G dX5_closeGapAt_30 rfl ?_
        refine j_aload_n G dX5_closeGapAt_31 rfl ?_
        refine gf_11_1 G dX5_closeGapAt_32 lf5_15 (by first | assumption | decide) ?_
        refine j_iload_n G dX5_closeGapAt_35 rfl ?_
        refine j_iconst G dX5_closeGapAt_36 ?_
        refine j_iadd G dX5_closeGapAt_37 ?_
        refine al_13 G dX5_closeGapAt_38 (by first | assumption | decide) (by omega) (by omega) ?_
        try simp (config := { decide := true }) only [zS_k, zS_s, zS_j, ne_eq]
        refine as_13 G dX5_closeGapAt_39 (by first | assumption | decide) (by omega) (by omega) ?_
        refine j_aload_n G dX5_closeGapAt_40 rfl ?_
        refine gf_11_2 G dX5_closeGapAt_41 lf5_18 (by first | assumption | decide) ?_
        refine j_iload_n G dX5_closeGapAt_44 rfl ?_
        refine j_aload_n G dX5_closeGapAt_45 rfl ?_
        refine gf_11_2 G dX5_closeGapAt_46 lf5_18 (by first | assumption | decide) ?_
        refine j_iload_n G dX5_closeGapAt_49 rfl ?_
        refine j_iconst G dX5_closeGapAt_50 ?_
        refine j_iadd G dX5_closeGapAt_51 ?_
        refine al_14 G dX5_closeGapAt_52 (by first | assumption | decide) (by omega) (by omega) ?_
        try simp (config := { decide := true }) only [zS_k, zS_s, zS_j, ne_eq]
        refine as_14 G dX5_closeGapAt_53 (by first | assumption | decide) (by omega) (by omega) (by omega) ?_
        refine j_iinc G dX5_closeGapAt_54 rfl (by decide) rfl ?_
        refine j_goto G 2 dX5_closeGapAt_57 (by decide) ?_
        refine ih (a + 1) _ (by omega) (by omega) (by omega) (fun k k1 k2 k3 => ?_) (fun k => ?_) (fun k => ?_) (fun k => ?_)
        · rw [zS_k k3, zS_k k2, zS_k k1]; exact h3 k k1 k2 k3
        · rw [zS_k (by decide), zS_k (by decide), zS_v]; exact hstep a _ _ h0 h4 k
        · rw [zS_k (by decide), zS_v, zS_k (by decide)]; exact hstep a _ _ h0 h5 k
        · rw [zS_v, zS_k (by decide), zS_k (by decide)]; exact hstep a _ _ h0 h6 k
  refine j_iload_n G dX5_closeGapAt_0 rfl ?_
  refine j_istore_n G dX5_closeGapAt_1 (by decide) rfl ?_
  refine loop _ gap Z (by omega) hg.2 rfl (fun _ _ _ _ => rfl) (fun k => ?_) (fun k => ?_) (fun k => ?_)
  · unfold gapF; rw [if_neg (by omega)]
  · unfold gapF; rw [if_neg (by omega)]
  · unfold gapF; rw [if_neg (by omega)]
set_option maxRecDepth 100000 in
set_option maxHeartbeats 8000000 in
theorem c_X0_forgetUse {l : Launch} {D : va_G} {cys : Nat → ClassId} {ad : Nat → Int → Nat} {L : List Nat} {g : Nat → va_E} {X : Int64} {Z : ZT} (hi : injA ad) {i : Int} (hi15 : vd 15 i) : CM l D cys ad yX0_forgetUse cX0_forgetUse 2 none 0 0 0 0 [.ref (ad 15 i)] L g X Z (PVZ L g X Z (fun Z' => (∀ k i', ¬ (k = 18 ∧ i' = i) → Z' k i' = Z k i') ∧ ∀ j, 0 ≤ j → j < 24 → Z' 18 i j = 0)) := by
  refine cm_start hi (by decide +kernel) (Nat.le_of_ble_eq_true rfl) ?_
  intro p_ e_ s_ m_ args_ below_ meth_ c_ A_ Q_ hQ G hr hin
  have loop : ∀ (n : Nat) (a : Int) (Y : ZT), 0 ≤ a → a ≤ 24 → (24 - a).toNat = n → (∀ k i', ¬ (k = 18 ∧ i' = i) → Y k i' = Z k i') → (∀ j, 0 ≤ j → j < a → Y 18 i j = 0) → JJ p_ l e_ { frames := 0, cells := 0, slots := 0, locals := 0 } s_ m_ args_ below_ meth_ c_ D cys ad A_ Q_ 2 0 0 L g X Y 2 [(0, .ref (ad 15 i)), (1, .int (iI a))] [] := by
    intro n
    induction n with
    | zero =>
      intro a Y h0 h1 h2 h3 h4
      refine j_iload_n G dX0_forgetUse_2 rfl ?_
      refine j_bipush G dX0_forgetUse_3 (by decide +kernel) ?_
      refine j_icmp_ge G 21 dX0_forgetUse_5 (by decide) (by omega) (by omega) (fun c5 => ?_) (fun c5 => ?_)
      · refine jr_VZ G hQ hr dX0_forgetUse_21 (by decide) (by decide) ?_
        exact ⟨h3, fun j j0 j1 => h4 j j0 (by omega)⟩
      · exfalso; omega
    | succ n ih =>
      intro a Y h0 h1 h2 h3 h4
      refine j_iload_n G dX0_forgetUse_2 rfl ?_
      refine j_bipush G dX0_forgetUse_3 (by decide +kernel) ?_
      refine j_icmp_ge G 21 dX0_forgetUse_5 (by decide) (by omega) (by omega) (fun c5 => ?_) (fun c5 => ?_)
      · exfalso; omega
      · refine j_aload_n G dX0_forgetUse_8 rfl ?_
        refine gf_15_1 G dX0_forgetUse_9 lf0_18 (by first | assumption | decide) ?_
        refine j_iload_n G dX0_forgetUse_12 rfl ?_
        refine j_iconst G dX0_forgetUse_13 ?_
        refine as_18 G dX0_forgetUse_14 (by first | assumption | decide) (by omega) (by omega) (by omega) ?_
        refine j_iinc G dX0_forgetUse_15 rfl (by decide) rfl ?_
        refine j_goto G 2 dX0_forgetUse_18 (by decide) ?_
        refine ih (a + 1) _ (by omega) (by omega) (by omega) (fun k i hk => ?_) (fun j j0 j1 => ?_)
        · rw [zS_o hk]; exact h3 k i hk
        · rw [zS_v]
          split
          · rfl
          · exact h4 j j0 (by omega)
  refine j_iconst G dX0_forgetUse_0 ?_
  refine j_istore_n G dX0_forgetUse_1 (by decide) rfl ?_
  exact loop _ 0 Z (by omega) (by omega) rfl (fun _ _ _ => rfl) (fun j a b => by omega)
set_option maxRecDepth 100000 in
set_option maxHeartbeats 8000000 in
theorem c_X0_showLines {l : Launch} {D : va_G} {cys : Nat → ClassId} {ad : Nat → Int → Nat} {L : List Nat} {g : Nat → va_E} {X : Int64} {Z : ZT} (hi : injA ad) {i b : Int} (hi15 : vd 15 i) (hi16 : vd 16 i) (hb : b = 0 ∨ b = 1) (hn : 0 ≤ Z 16 i 1 ∧ Z 16 i 1 ≤ 24) (hu : ∀ j, 0 ≤ j → j < Z 16 i 1 → Z 18 i j = 0 ∨ Z 18 i j = 1) : CM l D cys ad yX0_showLines cX0_showLines 3 none 0 0 0 0 [.ref (ad 15 i), .int (iI b)] L g X Z (PVZ L g X Z (fun Z' => (∀ k i', ¬ ((k = 15 ∨ k = 19) ∧ i' = i) → Z' k i' = Z k i') ∧ (∀ j, j ≠ 3 → Z' 15 i j = Z 15 i j) ∧ Z' 15 i 3 = (shwF (Z 18 i) b (Z 16 i 1).toNat).length ∧ (∀ j : Nat, j < (shwF (Z 18 i) b (Z 16 i 1).toNat).length → (shwF (Z 18 i) b (Z 16 i 1).toNat)[j]? = some (Z' 19 i j)))) := by
  refine cm_start hi (by decide +kernel) (Nat.le_of_ble_eq_true rfl) ?_
  intro p_ e_ s_ m_ args_ below_ meth_ c_ A_ Q_ hQ G hr hin
  have loop : ∀ (n : Nat) (a : Int) (Y : ZT), 0 ≤ a → a ≤ Z 16 i 1 → (Z 16 i 1 - a).toNat = n → (∀ k i', ¬ ((k = 15 ∨ k = 19) ∧ i' = i) → Y k i' = Z k i') → (∀ j, j ≠ 3 → Y 15 i j = Z 15 i j) → Y 15 i 3 = (shwF (Z 18 i) b a.toNat).length → (∀ j : Nat, j < (shwF (Z 18 i) b a.toNat).length → (shwF (Z 18 i) b a.toNat)[j]? = some (Y 19 i j)) → JJ p_ l e_ { frames := 0, cells := 0, slots := 0, locals := 0 } s_ m_ args_ below_ meth_ c_ D cys ad A_ Q_ 3 0 0 L g X Y 7 [(0, .ref (ad 15 i)), (1, .int (iI b)), (2, .int (iI a))] [] := by
    intro n
    induction n with
    | zero =>
      intro a Y h0 h1 h2 h3 h4 h5 h6
      have e : Y 16 i 1 = Z 16 i 1 := by rw [h3 16 i (by omega)]
      have ea : a = Z 16 i 1 := by omega
      subst ea
      refine j_iload_n G dX0_showLines_7 rfl ?_
      refine j_aload_n G dX0_showLines_8 rfl ?_
      refine gf_15_0 G dX0_showLines_9 lf0_12 (by first | assumption | decide) ?_
      refine gf_16_1 G dX0_showLines_12 lf0_30 (by first | assumption | decide) ?_
      refine j_icmp_ge G 57 dX0_showLines_15 (by decide) (by omega) (by omega) (fun c15 => ?_) (fun c15 => ?_)
      · refine jr_VZ G hQ hr dX0_showLines_57 (by decide) (by decide) ?_
        exact ⟨h3, h4, h5, h6⟩
      · exfalso; omega
    | succ n ih =>
      intro a Y h0 h1 h2 h3 h4 h5 h6
      have e : Y 16 i 1 = Z 16 i 1 := by rw [h3 16 i (by omega)]
      have e18 : Y 18 i a = Z 18 i a := by rw [h3 18 i (by omega)]
      have hua := hu a h0 (by omega)
      have hl := shwF_len (used := Z 18 i) (b := b) a.toNat
      have hsa : shwF (Z 18 i) b (a + 1).toNat = shwF (Z 18 i) b a.toNat ++ (if Z 18 i a = 1 ∨ b = 0 then [a] else []) := by
        rw [show (a + 1).toNat = a.toNat + 1 by omega]
        show _ ++ (if Z 18 i (a.toNat : Int) = 1 ∨ b = 0 then [(a.toNat : Int)] else []) = _
        rw [Int.toNat_of_nonneg h0]
      refine j_iload_n G dX0_showLines_7 rfl ?_
      refine j_aload_n G dX0_showLines_8 rfl ?_
      refine gf_15_0 G dX0_showLines_9 lf0_12 (by first | assumption | decide) ?_
      refine gf_16_1 G dX0_showLines_12 lf0_30 (by first | assumption | decide) ?_
      refine j_icmp_ge G 57 dX0_showLines_15 (by decide) (by omega) (by omega) (fun c15 => ?_) (fun c15 => ?_)
      · exfalso; omega
      · refine j_aload_n G dX0_showLines_18 rfl ?_
        refine gf_15_1 G dX0_showLines_19 lf0_18 (by first | assumption | decide) ?_
        refine j_iload_n G dX0_showLines_22 rfl ?_
        refine al_18 G dX0_showLines_23 (by first | assumption | decide) (by omega) (by omega) ?_
        refine j_if_ne G 31 dX0_showLines_24 (by decide) (by omega) (fun c24 => ?_) (fun c24 => ?_)
        · have hc : Z 18 i a = 1 ∨ b = 0 := by omega
          rw [if_pos hc] at hsa
          refine j_aload_n G dX0_showLines_31 rfl ?_
          refine gf_15_2 G dX0_showLines_32 lf0_22 (by first | assumption | decide) ?_
          refine j_aload_n G dX0_showLines_35 rfl ?_
          refine gf_15_3 G dX0_showLines_36 lf0_26 (by first | assumption | decide) ?_
          refine j_iload_n G dX0_showLines_39 rfl ?_
          refine as_19 G dX0_showLines_40 (by first | assumption | decide) (by omega) (by omega) ?_
          refine j_aload_n G dX0_showLines_41 rfl ?_
          refine j_dup G dX0_showLines_42 rfl ?_
          refine gf_15_3 G dX0_showLines_43 lf0_26 (by first | assumption | decide) ?_
          try simp (config := { decide := true }) only [zS_k, zS_s, zS_j, ne_eq]
          refine j_iconst G dX0_showLines_46 ?_
          refine j_iadd G dX0_showLines_47 ?_
          refine pf_15_3 G dX0_showLines_48 lf0_26 (by first | assumption | decide) ?_
          first
          | (have hc : ¬ (Z 18 i a = 1 ∨ b = 0) := by omega
             rw [if_neg hc, List.append_nil] at hsa)
          | skip
          refine j_iinc G dX0_showLines_51 rfl (by decide) rfl ?_
          refine j_goto G 7 dX0_showLines_54 (by decide) ?_
          first
          | (refine ih (a + 1) Y (by omega) (by omega) (by omega) h3 h4 (by rw [hsa]; exact h5) (by rw [hsa]; exact h6))
          | (refine ih (a + 1) _ (by omega) (by omega) (by omega) (fun k i' hk => ?_) (fun j hj => ?_) ?_ (fun j hj => ?_)
             · rw [zS_o (by omega), zS_o (by omega)]; exact h3 k i' hk
             · rw [zS_v, if_neg hj, zS_k (by decide)]; exact h4 j hj
             · rw [zS_s, hsa, List.length_append, h5]; rfl
             · rw [hsa] at hj ⊢
               rw [zS_k (by decide), zS_v]
               rw [List.length_append, List.length_singleton] at hj
               by_cases e1 : j = (shwF (Z 18 i) b a.toNat).length
               · rw [if_pos (by omega), e1]; simp
               · rw [if_neg (by omega), List.getElem?_append_left (by omega)]
                 exact h6 j (by omega))
        · refine j_iload_n G dX0_showLines_27 rfl ?_
          refine j_if_ne G 51 dX0_showLines_28 (by decide) (by omega) (fun c28 => ?_) (fun c28 => ?_)
          · first
            | (have hc : ¬ (Z 18 i a = 1 ∨ b = 0) := by omega
               rw [if_neg hc, List.append_nil] at hsa)
            | skip
            refine j_iinc G dX0_showLines_51 rfl (by decide) rfl ?_
            refine j_goto G 7 dX0_showLines_54 (by decide) ?_
            first
            | (refine ih (a + 1) Y (by omega) (by omega) (by omega) h3 h4 (by rw [hsa]; exact h5) (by rw [hsa]; exact h6))
            | (refine ih (a + 1) _ (by omega) (by omega) (by omega) (fun k i' hk => ?_) (fun j hj => ?_) ?_ (fun j hj => ?_)
               · rw [zS_o (by omega), zS_o (by omega)]; exact h3 k i' hk
               · rw [zS_v, if_neg hj, zS_k (by decide)]; exact h4 j hj
               · rw [zS_s, hsa, List.length_append, h5]; rfl
               · rw [hsa] at hj ⊢
                 rw [zS_k (by decide), zS_v]
                 rw [List.length_append, List.length_singleton] at hj
                 by_cases e1 : j = (shwF (Z 18 i) b a.toNat).length
                 · rw [if_pos (by omega), e1]; simp
                 · rw [if_neg (by omega), List.getElem?_append_left (by omega)]
                   exact h6 j (by omega))
          · have hc : Z 18 i a = 1 ∨ b = 0 := by omega
            rw [if_pos hc] at hsa
            refine j_aload_n G dX0_showLines_31 rfl ?_
            refine gf_15_2 G dX0_showLines_32 lf0_22 (by first | assumption | decide) ?_
            refine j_aload_n G dX0_showLines_35 rfl ?_
            refine gf_15_3 G dX0_showLines_36 lf0_26 (by first | assumption | decide) ?_
            refine j_iload_n G dX0_showLines_39 rfl ?_
            refine as_19 G dX0_showLines_40 (by first | assumption | decide) (by omega) (by omega) ?_
            refine j_aload_n G dX0_showLines_41 rfl ?_
            refine j_dup G dX0_showLines_42 rfl ?_
            refine gf_15_3 G dX0_showLines_43 lf0_26 (by first | assumption | decide) ?_
            try simp (config := { decide := true }) only [zS_k, zS_s, zS_j, ne_eq]
            refine j_iconst G dX0_showLines_46 ?_
            refine j_iadd G dX0_showLines_47 ?_
            refine pf_15_3 G dX0_showLines_48 lf0_26 (by first | assumption | decide) ?_
            first
            | (have hc : ¬ (Z 18 i a = 1 ∨ b = 0) := by omega
               rw [if_neg hc, List.append_nil] at hsa)
            | skip
            refine j_iinc G dX0_showLines_51 rfl (by decide) rfl ?_
            refine j_goto G 7 dX0_showLines_54 (by decide) ?_
            first
            | (refine ih (a + 1) Y (by omega) (by omega) (by omega) h3 h4 (by rw [hsa]; exact h5) (by rw [hsa]; exact h6))
            | (refine ih (a + 1) _ (by omega) (by omega) (by omega) (fun k i' hk => ?_) (fun j hj => ?_) ?_ (fun j hj => ?_)
               · rw [zS_o (by omega), zS_o (by omega)]; exact h3 k i' hk
               · rw [zS_v, if_neg hj, zS_k (by decide)]; exact h4 j hj
               · rw [zS_s, hsa, List.length_append, h5]; rfl
               · rw [hsa] at hj ⊢
                 rw [zS_k (by decide), zS_v]
                 rw [List.length_append, List.length_singleton] at hj
                 by_cases e1 : j = (shwF (Z 18 i) b a.toNat).length
                 · rw [if_pos (by omega), e1]; simp
                 · rw [if_neg (by omega), List.getElem?_append_left (by omega)]
                   exact h6 j (by omega))
  refine j_aload_n G dX0_showLines_0 rfl ?_
  refine j_iconst G dX0_showLines_1 ?_
  refine pf_15_3 G dX0_showLines_2 lf0_26 (by first | assumption | decide) ?_
  refine j_iconst G dX0_showLines_5 ?_
  refine j_istore_n G dX0_showLines_6 (by decide) rfl ?_
  refine loop _ 0 _ (by omega) (by omega) rfl (fun k i' hk => ?_) (fun j hj => ?_) ?_ (fun j hj => ?_)
  · exact zS_o (by omega)
  · exact zS_j hj
  · rw [zS_s]; rfl
  · exact absurd hj (Nat.not_lt_zero _)
set_option maxRecDepth 100000 in
set_option maxHeartbeats 8000000 in
theorem c_X0_hasLine {l : Launch} {D : va_G} {cys : Nat → ClassId} {ad : Nat → Int → Nat} {L : List Nat} {g : Nat → va_E} {X : Int64} {Z : ZT} (hi : injA ad) {i q : Int} (hi15 : vd 15 i) (hq : inR q) (hs : inR (Z 15 i 3)) : CM l D cys ad yX0_hasLine cX0_hasLine 2 (some .boolean) 0 0 0 0 [.ref (ad 15 i), .int (iI q)] L g X Z (PI L g X Z (fun r => (r = 1 ∧ 0 ≤ q ∧ q < Z 15 i 3) ∨ (r = 0 ∧ ¬ (0 ≤ q ∧ q < Z 15 i 3)))) := by
  refine cm_start hi (by decide +kernel) (Nat.le_of_ble_eq_true rfl) ?_
  intro p_ e_ s_ m_ args_ below_ meth_ c_ A_ Q_ hQ G hr hin
  refine j_iload_n G dX0_hasLine_0 rfl ?_
  refine j_if_lt G 16 dX0_hasLine_1 (by decide) (by omega) (fun c1 => ?_) (fun c1 => ?_)
  · refine j_iconst G dX0_hasLine_16 ?_
    refine jr_B G hQ hr dX0_hasLine_17 (by decide) (by decide) (by omega) ?_
    first | omega | (refine ⟨?_, ?_⟩ <;> (try intros) <;> first | rfl | omega | (exfalso; omega)) | simp
  · refine j_iload_n G dX0_hasLine_4 rfl ?_
    refine j_aload_n G dX0_hasLine_5 rfl ?_
    refine gf_15_3 G dX0_hasLine_6 lf0_26 (by first | assumption | decide) ?_
    refine j_icmp_ge G 16 dX0_hasLine_9 (by decide) (by omega) (by omega) (fun c9 => ?_) (fun c9 => ?_)
    · refine j_iconst G dX0_hasLine_16 ?_
      refine jr_B G hQ hr dX0_hasLine_17 (by decide) (by decide) (by omega) ?_
      first | omega | (refine ⟨?_, ?_⟩ <;> (try intros) <;> first | rfl | omega | (exfalso; omega)) | simp
    · refine j_iconst G dX0_hasLine_12 ?_
      refine j_goto G 17 dX0_hasLine_13 (by decide) ?_
      refine jr_B G hQ hr dX0_hasLine_17 (by decide) (by decide) (by omega) ?_
      first | omega | (refine ⟨?_, ?_⟩ <;> (try intros) <;> first | rfl | omega | (exfalso; omega)) | simp
set_option maxRecDepth 100000 in
set_option maxHeartbeats 8000000 in
theorem c_X0_memberOfLine {l : Launch} {D : va_G} {cys : Nat → ClassId} {ad : Nat → Int → Nat} {L : List Nat} {g : Nat → va_E} {X : Int64} {Z : ZT} (hi : injA ad) {i q : Int} (hi15 : vd 15 i) (hi16 : vd 16 i) (hq : inR q) (hs : 0 ≤ Z 15 i 3 ∧ Z 15 i 3 ≤ 24) (hv : ∀ j, 0 ≤ j → j < Z 15 i 3 → 0 ≤ Z 19 i j ∧ Z 19 i j < 24) : CM l D cys ad yX0_memberOfLine cX0_memberOfLine 2 (some .int) 1 21 0 0 [.ref (ad 15 i), .int (iI q)] L g X Z (PI L g X Z (fun r => (0 ≤ q ∧ q < Z 15 i 3 ∧ r = Z 17 i (Z 19 i q)) ∨ (¬ (0 ≤ q ∧ q < Z 15 i 3) ∧ r = -1))) := by
  refine cm_start hi (by decide +kernel) (Nat.le_of_ble_eq_true rfl) ?_
  intro p_ e_ s_ m_ args_ below_ meth_ c_ A_ Q_ hQ G hr hin
  have hvq := hv q
  refine j_aload_n G dX0_memberOfLine_0 rfl ?_
  refine j_iload_n G dX0_memberOfLine_1 rfl ?_
  refine j_cVI G cvX0_hasLine ml0_33 (c_X0_hasLine hi (by first | assumption | omega | decide) (by first | assumption | omega | decide) (by first | assumption | omega | decide)) dX0_memberOfLine_2 ⟨by decide, by decide⟩ ⟨by decide, by decide⟩ rfl rfl (Nat.le_of_ble_eq_true rfl) (by first | assumption | decide) rfl rfl rfl (fun r2 h2 => ?_)
  refine j_if_eq G 25 dX0_memberOfLine_5 (by decide) (by omega) (fun c5 => ?_) (fun c5 => ?_)
  · refine j_iconst G dX0_memberOfLine_25 ?_
    refine jr_I G hQ hr dX0_memberOfLine_26 (by decide) (by decide) ?_
    first | omega | (refine ⟨?_, ?_⟩ <;> (try intros) <;> first | rfl | omega | (exfalso; omega)) | simp
  · have hvq := hvq (by omega) (by omega)
    refine j_aload_n G dX0_memberOfLine_8 rfl ?_
    refine gf_15_0 G dX0_memberOfLine_9 lf0_12 (by first | assumption | decide) ?_
    refine gf_16_0 G dX0_memberOfLine_12 lf0_37 (by first | assumption | decide) ?_
    refine j_aload_n G dX0_memberOfLine_15 rfl ?_
    refine gf_15_2 G dX0_memberOfLine_16 lf0_22 (by first | assumption | decide) ?_
    refine j_iload_n G dX0_memberOfLine_19 rfl ?_
    refine al_19 G dX0_memberOfLine_20 (by first | assumption | decide) (by omega) (by omega) ?_
    refine al_17 G dX0_memberOfLine_21 (by first | assumption | decide) (by omega) (by omega) ?_
    refine j_goto G 26 dX0_memberOfLine_22 (by decide) ?_
    refine jr_I G hQ hr dX0_memberOfLine_26 (by decide) (by decide) ?_
    first | omega | (refine ⟨?_, ?_⟩ <;> (try intros) <;> first | rfl | omega | (exfalso; omega)) | simp
set_option maxRecDepth 100000 in
set_option maxHeartbeats 8000000 in
theorem c_X2_clearSums {l : Launch} {D : va_G} {cys : Nat → ClassId} {ad : Nat → Int → Nat} {L : List Nat} {g : Nat → va_E} {X : Int64} {Z : ZT} (hi : injA ad)   : CM l D cys ad yX2_clearSums cX2_clearSums 2 none 0 0 0 0 [.ref (ad 20 0)] L g X Z (PVZ L g X Z (fun Z' => (∀ k, k ≠ 21 → Z' k = Z k) ∧ ∀ j, 0 ≤ j → j < 24 → Z' 21 0 j = 0)) := by
  refine cm_start hi (by decide +kernel) (Nat.le_of_ble_eq_true rfl) ?_
  intro p_ e_ s_ m_ args_ below_ meth_ c_ A_ Q_ hQ G hr hin
  have loop : ∀ (n : Nat) (a : Int) (Y : ZT), 0 ≤ a → a ≤ 24 → (24 - a).toNat = n → (∀ k, k ≠ 21 → Y k = Z k) → (∀ j, 0 ≤ j → j < a → Y 21 0 j = 0) → JJ p_ l e_ { frames := 0, cells := 0, slots := 0, locals := 0 } s_ m_ args_ below_ meth_ c_ D cys ad A_ Q_ 2 0 0 L g X Y 2 [(0, .ref (ad 20 0)), (1, .int (iI a))] [] := by
    intro n
    induction n with
    | zero =>
      intro a Y h0 h1 h2 h3 h4
      refine j_iload_n G dX2_clearSums_2 rfl ?_
      refine j_bipush G dX2_clearSums_3 (by decide +kernel) ?_
      refine j_icmp_ge G 21 dX2_clearSums_5 (by decide) (by omega) (by omega) (fun c5 => ?_) (fun c5 => ?_)
      · refine jr_VZ G hQ hr dX2_clearSums_21 (by decide) (by decide) ?_
        exact ⟨h3, fun j j0 j1 => h4 j j0 (by omega)⟩
      · exfalso; omega
    | succ n ih =>
      intro a Y h0 h1 h2 h3 h4
      refine j_iload_n G dX2_clearSums_2 rfl ?_
      refine j_bipush G dX2_clearSums_3 (by decide +kernel) ?_
      refine j_icmp_ge G 21 dX2_clearSums_5 (by decide) (by omega) (by omega) (fun c5 => ?_) (fun c5 => ?_)
      · exfalso; omega
      · refine j_aload_n G dX2_clearSums_8 rfl ?_
        refine gf_20_1 G dX2_clearSums_9 lf2_18 (by first | assumption | decide) ?_
        refine j_iload_n G dX2_clearSums_12 rfl ?_
        refine j_iconst G dX2_clearSums_13 ?_
        refine as_21 G dX2_clearSums_14 (by first | assumption | decide) (by omega) (by omega) ?_
        refine j_iinc G dX2_clearSums_15 rfl (by decide) rfl ?_
        refine j_goto G 2 dX2_clearSums_18 (by decide) ?_
        refine ih (a + 1) _ (by omega) (by omega) (by omega) (fun k hk => ?_) (fun j j0 j1 => ?_)
        · rw [zS_k hk]; exact h3 k hk
        · rw [zS_v]
          split
          · rfl
          · exact h4 j j0 (by omega)
  refine j_iconst G dX2_clearSums_0 ?_
  refine j_istore_n G dX2_clearSums_1 (by decide) rfl ?_
  exact loop _ 0 Z (by omega) (by omega) rfl (fun _ _ => rfl) (fun j a b => by omega)
set_option maxRecDepth 100000 in
set_option maxHeartbeats 8000000 in
theorem c_X2_childrenAheadOf {l : Launch} {D : va_G} {cys : Nat → ClassId} {ad : Nat → Int → Nat} {L : List Nat} {g : Nat → va_E} {X : Int64} {Z : ZT} (hi : injA ad) {q : Int} (hn : 0 ≤ Z 16 3 1 ∧ Z 16 3 1 ≤ 24) (hq : 0 ≤ q ∧ q < 24) (hv : ∀ j, 0 ≤ j → j < 24 → inR (Z 21 0 j)) : CM l D cys ad yX2_childrenAheadOf cX2_childrenAheadOf 5 (some .int) 0 0 0 0 [.ref (ad 20 0), .int (iI q)] L g X Z (PI L g X Z (fun r => r = ahd (Z 21 0) q (Z 16 3 1).toNat)) := by
  refine cm_start hi (by decide +kernel) (Nat.le_of_ble_eq_true rfl) ?_
  intro p_ e_ s_ m_ args_ below_ meth_ c_ A_ Q_ hQ G hr hin
  have hvq := hv q hq.1 hq.2
  have loop : ∀ (n : Nat) (a cnt : Int), 0 ≤ a → a ≤ Z 16 3 1 → (Z 16 3 1 - a).toNat = n → cnt = ahd (Z 21 0) q a.toNat → JJ p_ l e_ { frames := 0, cells := 0, slots := 0, locals := 0 } s_ m_ args_ below_ meth_ c_ D cys ad A_ Q_ 5 0 0 L g X Z 4 [(0, .ref (ad 20 0)), (1, .int (iI q)), (2, .int (iI cnt)), (3, .int (iI a))] [] := by
    intro n
    induction n with
    | zero =>
      intro a cnt h0 h1 h2 h3
      have ea : a = Z 16 3 1 := by omega
      subst ea
      refine j_iload_n G dX2_childrenAheadOf_4 rfl ?_
      refine j_aload_n G dX2_childrenAheadOf_5 rfl ?_
      refine gf_20_0 G dX2_childrenAheadOf_6 lf2_12 (by first | assumption | decide) ?_
      refine gf_16_1 G dX2_childrenAheadOf_9 lf2_22 (by first | assumption | decide) ?_
      refine j_icmp_ge G 71 dX2_childrenAheadOf_12 (by decide) (by omega) (by omega) (fun c12 => ?_) (fun c12 => ?_)
      · refine j_iload_n G dX2_childrenAheadOf_71 rfl ?_
        refine jr_I G hQ hr dX2_childrenAheadOf_72 (by decide) (by decide) ?_
        exact h3
      · exfalso; omega
    | succ n ih =>
      intro a cnt h0 h1 h2 h3
      have hva := hv a h0 (by omega)
      have hs : ahd (Z 21 0) q (a + 1).toNat = cnt + iv (Z 21 0 q < Z 21 0 a ∨ (Z 21 0 a = Z 21 0 q ∧ a < q)) := by
        rw [h3]; unfold ahd; rw [sumTo_s h0]
      refine j_iload_n G dX2_childrenAheadOf_4 rfl ?_
      refine j_aload_n G dX2_childrenAheadOf_5 rfl ?_
      refine gf_20_0 G dX2_childrenAheadOf_6 lf2_12 (by first | assumption | decide) ?_
      refine gf_16_1 G dX2_childrenAheadOf_9 lf2_22 (by first | assumption | decide) ?_
      refine j_icmp_ge G 71 dX2_childrenAheadOf_12 (by decide) (by omega) (by omega) (fun c12 => ?_) (fun c12 => ?_)
      · exfalso; omega
      · refine j_aload_n G dX2_childrenAheadOf_15 rfl ?_
        refine gf_20_1 G dX2_childrenAheadOf_16 lf2_18 (by first | assumption | decide) ?_
        refine j_iload_n G dX2_childrenAheadOf_19 rfl ?_
        refine al_21 G dX2_childrenAheadOf_20 (by first | assumption | decide) (by omega) (by omega) ?_
        refine j_aload_n G dX2_childrenAheadOf_21 rfl ?_
        refine gf_20_1 G dX2_childrenAheadOf_22 lf2_18 (by first | assumption | decide) ?_
        refine j_iload_n G dX2_childrenAheadOf_25 rfl ?_
        refine al_21 G dX2_childrenAheadOf_26 (by first | assumption | decide) (by omega) (by omega) ?_
        refine j_icmp_ne G 34 dX2_childrenAheadOf_27 (by decide) (by omega) (by omega) (fun c27 => ?_) (fun c27 => ?_)
        · refine j_iconst G dX2_childrenAheadOf_34 ?_
          refine j_istore G dX2_childrenAheadOf_35 (by decide) rfl ?_
          refine j_aload_n G dX2_childrenAheadOf_37 rfl ?_
          refine gf_20_1 G dX2_childrenAheadOf_38 lf2_18 (by first | assumption | decide) ?_
          refine j_iload_n G dX2_childrenAheadOf_41 rfl ?_
          refine al_21 G dX2_childrenAheadOf_42 (by first | assumption | decide) (by omega) (by omega) ?_
          refine j_aload_n G dX2_childrenAheadOf_43 rfl ?_
          refine gf_20_1 G dX2_childrenAheadOf_44 lf2_18 (by first | assumption | decide) ?_
          refine j_iload_n G dX2_childrenAheadOf_47 rfl ?_
          refine al_21 G dX2_childrenAheadOf_48 (by first | assumption | decide) (by omega) (by omega) ?_
          refine j_icmp_gt G 62 dX2_childrenAheadOf_49 (by decide) (by omega) (by omega) (fun c49 => ?_) (fun c49 => ?_)
          · refine j_iinc G dX2_childrenAheadOf_62 rfl (by decide) rfl ?_
            refine j_iinc G dX2_childrenAheadOf_65 rfl (by decide) rfl ?_
            refine j_goto G 4 dX2_childrenAheadOf_68 (by decide) ?_
            refine j_keep [0, 1, 2, 3] ?_
            refine ih (a + 1) _ (by omega) (by omega) (by omega) ?_
            rw [hs]
            first
            | (exfalso; omega)
            | rw [iv_t (by omega)]
            | (rw [iv_f (by omega)]; omega)
          · refine j_iload G dX2_childrenAheadOf_52 rfl ?_
            refine j_if_eq G 65 dX2_childrenAheadOf_54 (by decide) (by omega) (fun c54 => ?_) (fun c54 => ?_)
            · refine j_iinc G dX2_childrenAheadOf_65 rfl (by decide) rfl ?_
              refine j_goto G 4 dX2_childrenAheadOf_68 (by decide) ?_
              refine j_keep [0, 1, 2, 3] ?_
              refine ih (a + 1) _ (by omega) (by omega) (by omega) ?_
              rw [hs]
              first
              | (exfalso; omega)
              | rw [iv_t (by omega)]
              | (rw [iv_f (by omega)]; omega)
            · refine j_iload_n G dX2_childrenAheadOf_57 rfl ?_
              refine j_iload_n G dX2_childrenAheadOf_58 rfl ?_
              refine j_icmp_ge G 65 dX2_childrenAheadOf_59 (by decide) (by omega) (by omega) (fun c59 => ?_) (fun c59 => ?_)
              · refine j_iinc G dX2_childrenAheadOf_65 rfl (by decide) rfl ?_
                refine j_goto G 4 dX2_childrenAheadOf_68 (by decide) ?_
                refine j_keep [0, 1, 2, 3] ?_
                refine ih (a + 1) _ (by omega) (by omega) (by omega) ?_
                rw [hs]
                first
                | (exfalso; omega)
                | rw [iv_t (by omega)]
                | (rw [iv_f (by omega)]; omega)
              · refine j_iinc G dX2_childrenAheadOf_62 rfl (by decide) rfl ?_
                refine j_iinc G dX2_childrenAheadOf_65 rfl (by decide) rfl ?_
                refine j_goto G 4 dX2_childrenAheadOf_68 (by decide) ?_
                refine j_keep [0, 1, 2, 3] ?_
                refine ih (a + 1) _ (by omega) (by omega) (by omega) ?_
                rw [hs]
                first
                | (exfalso; omega)
                | rw [iv_t (by omega)]
                | (rw [iv_f (by omega)]; omega)
        · refine j_iconst G dX2_childrenAheadOf_30 ?_
          refine j_goto G 35 dX2_childrenAheadOf_31 (by decide) ?_
          refine j_istore G dX2_childrenAheadOf_35 (by decide) rfl ?_
          refine j_aload_n G dX2_childrenAheadOf_37 rfl ?_
          refine gf_20_1 G dX2_childrenAheadOf_38 lf2_18 (by first | assumption | decide) ?_
          refine j_iload_n G dX2_childrenAheadOf_41 rfl ?_
          refine al_21 G dX2_childrenAheadOf_42 (by first | assumption | decide) (by omega) (by omega) ?_
          refine j_aload_n G dX2_childrenAheadOf_43 rfl ?_
          refine gf_20_1 G dX2_childrenAheadOf_44 lf2_18 (by first | assumption | decide) ?_
          refine j_iload_n G dX2_childrenAheadOf_47 rfl ?_
          refine al_21 G dX2_childrenAheadOf_48 (by first | assumption | decide) (by omega) (by omega) ?_
          refine j_icmp_gt G 62 dX2_childrenAheadOf_49 (by decide) (by omega) (by omega) (fun c49 => ?_) (fun c49 => ?_)
          · refine j_iinc G dX2_childrenAheadOf_62 rfl (by decide) rfl ?_
            refine j_iinc G dX2_childrenAheadOf_65 rfl (by decide) rfl ?_
            refine j_goto G 4 dX2_childrenAheadOf_68 (by decide) ?_
            refine j_keep [0, 1, 2, 3] ?_
            refine ih (a + 1) _ (by omega) (by omega) (by omega) ?_
            rw [hs]
            first
            | (exfalso; omega)
            | rw [iv_t (by omega)]
            | (rw [iv_f (by omega)]; omega)
          · refine j_iload G dX2_childrenAheadOf_52 rfl ?_
            refine j_if_eq G 65 dX2_childrenAheadOf_54 (by decide) (by omega) (fun c54 => ?_) (fun c54 => ?_)
            · refine j_iinc G dX2_childrenAheadOf_65 rfl (by decide) rfl ?_
              refine j_goto G 4 dX2_childrenAheadOf_68 (by decide) ?_
              refine j_keep [0, 1, 2, 3] ?_
              refine ih (a + 1) _ (by omega) (by omega) (by omega) ?_
              rw [hs]
              first
              | (exfalso; omega)
              | rw [iv_t (by omega)]
              | (rw [iv_f (by omega)]; omega)
            · refine j_iload_n G dX2_childrenAheadOf_57 rfl ?_
              refine j_iload_n G dX2_childrenAheadOf_58 rfl ?_
              refine j_icmp_ge G 65 dX2_childrenAheadOf_59 (by decide) (by omega) (by omega) (fun c59 => ?_) (fun c59 => ?_)
              · refine j_iinc G dX2_childrenAheadOf_65 rfl (by decide) rfl ?_
                refine j_goto G 4 dX2_childrenAheadOf_68 (by decide) ?_
                refine j_keep [0, 1, 2, 3] ?_
                refine ih (a + 1) _ (by omega) (by omega) (by omega) ?_
                rw [hs]
                first
                | (exfalso; omega)
                | rw [iv_t (by omega)]
                | (rw [iv_f (by omega)]; omega)
              · refine j_iinc G dX2_childrenAheadOf_62 rfl (by decide) rfl ?_
                refine j_iinc G dX2_childrenAheadOf_65 rfl (by decide) rfl ?_
                refine j_goto G 4 dX2_childrenAheadOf_68 (by decide) ?_
                refine j_keep [0, 1, 2, 3] ?_
                refine ih (a + 1) _ (by omega) (by omega) (by omega) ?_
                rw [hs]
                first
                | (exfalso; omega)
                | rw [iv_t (by omega)]
                | (rw [iv_f (by omega)]; omega)
  refine j_iconst G dX2_childrenAheadOf_0 ?_
  refine j_istore_n G dX2_childrenAheadOf_1 (by decide) rfl ?_
  refine j_iconst G dX2_childrenAheadOf_2 ?_
  refine j_istore_n G dX2_childrenAheadOf_3 (by decide) rfl ?_
  exact loop _ 0 0 (by omega) (by omega) rfl rfl
set_option maxRecDepth 100000 in
set_option maxHeartbeats 8000000 in
theorem c_X2_childOfRank {l : Launch} {D : va_G} {cys : Nat → ClassId} {ad : Nat → Int → Nat} {L : List Nat} {g : Nat → va_E} {X : Int64} {Z : ZT} (hi : injA ad) {q : Int} (hn : 0 ≤ Z 16 3 1 ∧ Z 16 3 1 ≤ 24) (hq : inR q) (hv : ∀ j, 0 ≤ j → j < 24 → inR (Z 21 0 j)) : CM l D cys ad yX2_childOfRank cX2_childOfRank 3 (some .int) 1 24 0 0 [.ref (ad 20 0), .int (iI q)] L g X Z (PI L g X Z (fun r => (0 ≤ r ∧ r < Z 16 3 1 ∧ ahd (Z 21 0) r (Z 16 3 1).toNat = q ∧ ∀ j, 0 ≤ j → j < r → ahd (Z 21 0) j (Z 16 3 1).toNat ≠ q) ∨ (r = -1 ∧ ∀ j, 0 ≤ j → j < Z 16 3 1 → ahd (Z 21 0) j (Z 16 3 1).toNat ≠ q))) := by
  refine cm_start hi (by decide +kernel) (Nat.le_of_ble_eq_true rfl) ?_
  intro p_ e_ s_ m_ args_ below_ meth_ c_ A_ Q_ hQ G hr hin
  have loop : ∀ (n : Nat) (a : Int), 0 ≤ a → a ≤ Z 16 3 1 → (Z 16 3 1 - a).toNat = n → (∀ j, 0 ≤ j → j < a → ahd (Z 21 0) j (Z 16 3 1).toNat ≠ q) → JJ p_ l e_ { frames := 1, cells := 0, slots := 0, locals := 24 } s_ m_ args_ below_ meth_ c_ D cys ad A_ Q_ 3 0 0 L g X Z 2 [(0, .ref (ad 20 0)), (1, .int (iI q)), (2, .int (iI a))] [] := by
    intro n
    induction n with
    | zero =>
      intro a h0 h1 h2 h3
      refine j_iload_n G dX2_childOfRank_2 rfl ?_
      refine j_aload_n G dX2_childOfRank_3 rfl ?_
      refine gf_20_0 G dX2_childOfRank_4 lf2_12 (by first | assumption | decide) ?_
      refine gf_16_1 G dX2_childOfRank_7 lf2_22 (by first | assumption | decide) ?_
      refine j_icmp_ge G 30 dX2_childOfRank_10 (by decide) (by omega) (by omega) (fun c10 => ?_) (fun c10 => ?_)
      · refine j_iconst G dX2_childOfRank_30 ?_
        refine jr_I G hQ hr dX2_childOfRank_31 (by decide) (by decide) ?_
        exact Or.inr ⟨rfl, fun j h4 h5 => h3 j h4 (by omega)⟩
      · exfalso; omega
    | succ n ih =>
      intro a h0 h1 h2 h3
      have hb := ahd_bd (Z 21 0) a (Z 16 3 1).toNat
      refine j_iload_n G dX2_childOfRank_2 rfl ?_
      refine j_aload_n G dX2_childOfRank_3 rfl ?_
      refine gf_20_0 G dX2_childOfRank_4 lf2_12 (by first | assumption | decide) ?_
      refine gf_16_1 G dX2_childOfRank_7 lf2_22 (by first | assumption | decide) ?_
      refine j_icmp_ge G 30 dX2_childOfRank_10 (by decide) (by omega) (by omega) (fun c10 => ?_) (fun c10 => ?_)
      · exfalso; omega
      · refine j_aload_n G dX2_childOfRank_13 rfl ?_
        refine j_iload_n G dX2_childOfRank_14 rfl ?_
        refine j_cVI G cvX2_childrenAheadOf ml2_26 (c_X2_childrenAheadOf hi (by first | assumption | omega | decide) (by first | assumption | omega | decide) (by first | assumption | omega | decide)) dX2_childOfRank_15 ⟨by decide, by decide⟩ ⟨by decide, by decide⟩ rfl rfl (Nat.le_of_ble_eq_true rfl) (by first | assumption | decide) rfl rfl rfl (fun r15 h15 => ?_)
        refine j_iload_n G dX2_childOfRank_18 rfl ?_
        refine j_icmp_ne G 24 dX2_childOfRank_19 (by decide) (by omega) (by omega) (fun c19 => ?_) (fun c19 => ?_)
        · refine j_iinc G dX2_childOfRank_24 rfl (by decide) rfl ?_
          refine j_goto G 2 dX2_childOfRank_27 (by decide) ?_
          refine ih (a + 1) (by omega) (by omega) (by omega) (fun j h4 h5 => ?_)
          by_cases e : j = a
          · subst e; omega
          · exact h3 j h4 (by omega)
        · refine j_iload_n G dX2_childOfRank_22 rfl ?_
          refine jr_I G hQ hr dX2_childOfRank_23 (by decide) (by decide) ?_
          exact Or.inl ⟨h0, by omega, by omega, h3⟩
  refine j_iconst G dX2_childOfRank_0 ?_
  refine j_istore_n G dX2_childOfRank_1 (by decide) rfl ?_
  exact loop _ 0 (by omega) (by omega) rfl (fun j h4 h5 => by omega)
set_option maxRecDepth 100000 in
set_option maxHeartbeats 8000000 in
theorem c_X2_sumOfRank {l : Launch} {D : va_G} {cys : Nat → ClassId} {ad : Nat → Int → Nat} {L : List Nat} {g : Nat → va_E} {X : Int64} {Z : ZT} (hi : injA ad) {q : Int} (hn : 0 ≤ Z 16 3 1 ∧ Z 16 3 1 ≤ 24) (hq : inR q) (hv : ∀ j, 0 ≤ j → j < 24 → inR (Z 21 0 j)) : CM l D cys ad yX2_sumOfRank cX2_sumOfRank 3 (some .int) 2 46 0 0 [.ref (ad 20 0), .int (iI q)] L g X Z (PI L g X Z (fun r => (∃ c, 0 ≤ c ∧ c < Z 16 3 1 ∧ ahd (Z 21 0) c (Z 16 3 1).toNat = q ∧ (∀ j, 0 ≤ j → j < c → ahd (Z 21 0) j (Z 16 3 1).toNat ≠ q) ∧ r = Z 21 0 c) ∨ (r = 0 ∧ ∀ j, 0 ≤ j → j < Z 16 3 1 → ahd (Z 21 0) j (Z 16 3 1).toNat ≠ q))) := by
  refine cm_start hi (by decide +kernel) (Nat.le_of_ble_eq_true rfl) ?_
  intro p_ e_ s_ m_ args_ below_ meth_ c_ A_ Q_ hQ G hr hin
  refine j_aload_n G dX2_sumOfRank_0 rfl ?_
  refine j_iload_n G dX2_sumOfRank_1 rfl ?_
  refine j_cVI G cvX2_childOfRank ml2_30 (c_X2_childOfRank hi (by first | assumption | omega | decide) (by first | assumption | omega | decide) (by first | assumption | omega | decide)) dX2_sumOfRank_2 ⟨by decide, by decide⟩ ⟨by decide, by decide⟩ rfl rfl (Nat.le_of_ble_eq_true rfl) (by first | assumption | decide) rfl rfl rfl (fun r2 h2 => ?_)
  have hr2 : inR r2 := by omega
  refine j_istore_n G dX2_sumOfRank_5 (by decide) rfl ?_
  refine j_aload_n G dX2_sumOfRank_6 rfl ?_
  refine gf_20_0 G dX2_sumOfRank_7 lf2_12 (by first | assumption | decide) ?_
  refine j_iload_n G dX2_sumOfRank_10 rfl ?_
  refine j_cVI G cvX3_hasPlace ml2_33 (c_X3_hasPlace hi (by first | assumption | omega | decide) (by first | assumption | omega | decide) (by first | assumption | omega | decide)) dX2_sumOfRank_11 ⟨by decide, by decide⟩ ⟨by decide, by decide⟩ rfl rfl (Nat.le_of_ble_eq_true rfl) (by first | assumption | decide) rfl rfl rfl (fun r11 h11 => ?_)
  refine j_if_eq G 26 dX2_sumOfRank_14 (by decide) (by omega) (fun c14 => ?_) (fun c14 => ?_)
  · refine j_iconst G dX2_sumOfRank_26 ?_
    refine jr_I G hQ hr dX2_sumOfRank_27 (by decide) (by decide) ?_
    first
    | (rcases h2 with w | w
       · exact Or.inl ⟨r2, w.1, w.2.1, w.2.2.1, w.2.2.2, rfl⟩
       · exfalso; omega)
    | (rcases h2 with w | w
       · exfalso; omega
       · exact Or.inr ⟨rfl, w.2⟩)
  · refine j_aload_n G dX2_sumOfRank_17 rfl ?_
    refine gf_20_1 G dX2_sumOfRank_18 lf2_18 (by first | assumption | decide) ?_
    refine j_iload_n G dX2_sumOfRank_21 rfl ?_
    refine al_21 G dX2_sumOfRank_22 (by first | assumption | decide) (by omega) (by omega) ?_
    refine j_goto G 27 dX2_sumOfRank_23 (by decide) ?_
    refine jr_I G hQ hr dX2_sumOfRank_27 (by decide) (by decide) ?_
    first
    | (rcases h2 with w | w
       · exact Or.inl ⟨r2, w.1, w.2.1, w.2.2.1, w.2.2.2, rfl⟩
       · exfalso; omega)
    | (rcases h2 with w | w
       · exfalso; omega
       · exact Or.inr ⟨rfl, w.2⟩)

