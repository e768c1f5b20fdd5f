theorem dX7_digit_0 : decode cX7_digit 0 = .ok (.iload_n 1, 1) := by decide +kernel
theorem dX7_digit_1 : decode cX7_digit 1 = .ok (.iconst 2, 1) := by decide +kernel
theorem dX7_digit_2 : decode cX7_digit 2 = .ok (.aload_n 0, 1) := by decide +kernel
theorem dX7_digit_3 : decode cX7_digit 3 = .ok (.getfield 56, 3) := by decide +kernel
theorem dX7_digit_6 : decode cX7_digit 6 = .ok (.iconst 1, 1) := by decide +kernel
theorem dX7_digit_7 : decode cX7_digit 7 = .ok (.isub, 1) := by decide +kernel
theorem dX7_digit_8 : decode cX7_digit 8 = .ok (.iload_n 2, 1) := by decide +kernel
theorem dX7_digit_9 : decode cX7_digit 9 = .ok (.isub, 1) := by decide +kernel
theorem dX7_digit_10 : decode cX7_digit 10 = .ok (.imul, 1) := by decide +kernel
theorem dX7_digit_11 : decode cX7_digit 11 = .ok (.ishr, 1) := by decide +kernel
theorem dX7_digit_12 : decode cX7_digit 12 = .ok (.iconst 3, 1) := by decide +kernel
theorem dX7_digit_13 : decode cX7_digit 13 = .ok (.iand, 1) := by decide +kernel
theorem dX7_digit_14 : decode cX7_digit 14 = .ok (.ireturn, 1) := by decide +kernel
theorem dX7_levelsNow_0 : decode cX7_levelsNow 0 = .ok (.iconst 0, 1) := by decide +kernel
theorem dX7_levelsNow_1 : decode cX7_levelsNow 1 = .ok (.istore_n 1, 1) := by decide +kernel
theorem dX7_levelsNow_2 : decode cX7_levelsNow 2 = .ok (.iconst 0, 1) := by decide +kernel
theorem dX7_levelsNow_3 : decode cX7_levelsNow 3 = .ok (.istore_n 2, 1) := by decide +kernel
theorem dX7_levelsNow_4 : decode cX7_levelsNow 4 = .ok (.iload_n 2, 1) := by decide +kernel
theorem dX7_levelsNow_5 : decode cX7_levelsNow 5 = .ok (.aload_n 0, 1) := by decide +kernel
theorem dX7_levelsNow_6 : decode cX7_levelsNow 6 = .ok (.getfield 56, 3) := by decide +kernel
theorem dX7_levelsNow_9 : decode cX7_levelsNow 9 = .ok (.if_icmp .ge 20, 3) := by decide +kernel
theorem dX7_levelsNow_12 : decode cX7_levelsNow 12 = .ok (.iload_n 1, 1) := by decide +kernel
theorem dX7_levelsNow_13 : decode cX7_levelsNow 13 = .ok (.iconst 4, 1) := by decide +kernel
theorem dX7_levelsNow_14 : decode cX7_levelsNow 14 = .ok (.imul, 1) := by decide +kernel
theorem dX7_levelsNow_15 : decode cX7_levelsNow 15 = .ok (.aload_n 0, 1) := by decide +kernel
theorem dX7_levelsNow_16 : decode cX7_levelsNow 16 = .ok (.getfield 29, 3) := by decide +kernel
theorem dX7_levelsNow_19 : decode cX7_levelsNow 19 = .ok (.iload_n 2, 1) := by decide +kernel
theorem dX7_levelsNow_20 : decode cX7_levelsNow 20 = .ok (.iaload, 1) := by decide +kernel
theorem dX7_levelsNow_21 : decode cX7_levelsNow 21 = .ok (.iadd, 1) := by decide +kernel
theorem dX7_levelsNow_22 : decode cX7_levelsNow 22 = .ok (.istore_n 1, 1) := by decide +kernel
theorem dX7_levelsNow_23 : decode cX7_levelsNow 23 = .ok (.iinc 2 1, 3) := by decide +kernel
theorem dX7_levelsNow_26 : decode cX7_levelsNow 26 = .ok (.goto (-22), 3) := by decide +kernel
theorem dX7_levelsNow_29 : decode cX7_levelsNow 29 = .ok (.iload_n 1, 1) := by decide +kernel
theorem dX7_levelsNow_30 : decode cX7_levelsNow 30 = .ok (.ireturn, 1) := by decide +kernel
theorem dX7_memberOn_0 : decode cX7_memberOn 0 = .ok (.iload_n 2, 1) := by decide +kernel
theorem dX7_memberOn_1 : decode cX7_memberOn 1 = .ok (.istore 4, 2) := by decide +kernel
theorem dX7_memberOn_3 : decode cX7_memberOn 3 = .ok (.aload_n 0, 1) := by decide +kernel
theorem dX7_memberOn_4 : decode cX7_memberOn 4 = .ok (.iload_n 1, 1) := by decide +kernel
theorem dX7_memberOn_5 : decode cX7_memberOn 5 = .ok (.iload 4, 2) := by decide +kernel
theorem dX7_memberOn_7 : decode cX7_memberOn 7 = .ok (.invokevirtual 67, 3) := by decide +kernel
theorem dX7_memberOn_10 : decode cX7_memberOn 10 = .ok (.iload_n 3, 1) := by decide +kernel
theorem dX7_memberOn_11 : decode cX7_memberOn 11 = .ok (.if_icmp .le 17, 3) := by decide +kernel
theorem dX7_memberOn_14 : decode cX7_memberOn 14 = .ok (.aload_n 0, 1) := by decide +kernel
theorem dX7_memberOn_15 : decode cX7_memberOn 15 = .ok (.getfield 18, 3) := by decide +kernel
theorem dX7_memberOn_18 : decode cX7_memberOn 18 = .ok (.iload_n 1, 1) := by decide +kernel
theorem dX7_memberOn_19 : decode cX7_memberOn 19 = .ok (.aaload, 1) := by decide +kernel
theorem dX7_memberOn_20 : decode cX7_memberOn 20 = .ok (.iload 4, 2) := by decide +kernel
theorem dX7_memberOn_22 : decode cX7_memberOn 22 = .ok (.iaload, 1) := by decide +kernel
theorem dX7_memberOn_23 : decode cX7_memberOn 23 = .ok (.istore 4, 2) := by decide +kernel
theorem dX7_memberOn_25 : decode cX7_memberOn 25 = .ok (.goto (-22), 3) := by decide +kernel
theorem dX7_memberOn_28 : decode cX7_memberOn 28 = .ok (.iload 4, 2) := by decide +kernel
theorem dX7_memberOn_30 : decode cX7_memberOn 30 = .ok (.ireturn, 1) := by decide +kernel
theorem dX7_areInOne_0 : decode cX7_areInOne 0 = .ok (.iconst 1, 1) := by decide +kernel
theorem dX7_areInOne_1 : decode cX7_areInOne 1 = .ok (.istore 4, 2) := by decide +kernel
theorem dX7_areInOne_3 : decode cX7_areInOne 3 = .ok (.iconst 0, 1) := by decide +kernel
theorem dX7_areInOne_4 : decode cX7_areInOne 4 = .ok (.istore 5, 2) := by decide +kernel
theorem dX7_areInOne_6 : decode cX7_areInOne 6 = .ok (.iload 5, 2) := by decide +kernel
theorem dX7_areInOne_8 : decode cX7_areInOne 8 = .ok (.aload_n 0, 1) := by decide +kernel
theorem dX7_areInOne_9 : decode cX7_areInOne 9 = .ok (.getfield 56, 3) := by decide +kernel
theorem dX7_areInOne_12 : decode cX7_areInOne 12 = .ok (.if_icmp .ge 66, 3) := by decide +kernel
theorem dX7_areInOne_15 : decode cX7_areInOne 15 = .ok (.iload 4, 2) := by decide +kernel
theorem dX7_areInOne_17 : decode cX7_areInOne 17 = .ok (.aload_n 0, 1) := by decide +kernel
theorem dX7_areInOne_18 : decode cX7_areInOne 18 = .ok (.iload 5, 2) := by decide +kernel
theorem dX7_areInOne_20 : decode cX7_areInOne 20 = .ok (.aload_n 0, 1) := by decide +kernel
theorem dX7_areInOne_21 : decode cX7_areInOne 21 = .ok (.getfield 33, 3) := by decide +kernel
theorem dX7_areInOne_24 : decode cX7_areInOne 24 = .ok (.iload_n 1, 1) := by decide +kernel
theorem dX7_areInOne_25 : decode cX7_areInOne 25 = .ok (.aaload, 1) := by decide +kernel
theorem dX7_areInOne_26 : decode cX7_areInOne 26 = .ok (.iload 5, 2) := by decide +kernel
theorem dX7_areInOne_28 : decode cX7_areInOne 28 = .ok (.iaload, 1) := by decide +kernel
theorem dX7_areInOne_29 : decode cX7_areInOne 29 = .ok (.aload_n 0, 1) := by decide +kernel
theorem dX7_areInOne_30 : decode cX7_areInOne 30 = .ok (.iload_n 3, 1) := by decide +kernel
theorem dX7_areInOne_31 : decode cX7_areInOne 31 = .ok (.iload 5, 2) := by decide +kernel
theorem dX7_areInOne_33 : decode cX7_areInOne 33 = .ok (.invokevirtual 190, 3) := by decide +kernel
theorem dX7_areInOne_36 : decode cX7_areInOne 36 = .ok (.invokevirtual 193, 3) := by decide +kernel
theorem dX7_areInOne_39 : decode cX7_areInOne 39 = .ok (.aload_n 0, 1) := by decide +kernel
theorem dX7_areInOne_40 : decode cX7_areInOne 40 = .ok (.iload 5, 2) := by decide +kernel
theorem dX7_areInOne_42 : decode cX7_areInOne 42 = .ok (.aload_n 0, 1) := by decide +kernel
theorem dX7_areInOne_43 : decode cX7_areInOne 43 = .ok (.getfield 33, 3) := by decide +kernel
theorem dX7_areInOne_46 : decode cX7_areInOne 46 = .ok (.iload_n 2, 1) := by decide +kernel
theorem dX7_areInOne_47 : decode cX7_areInOne 47 = .ok (.aaload, 1) := by decide +kernel
theorem dX7_areInOne_48 : decode cX7_areInOne 48 = .ok (.iload 5, 2) := by decide +kernel
theorem dX7_areInOne_50 : decode cX7_areInOne 50 = .ok (.iaload, 1) := by decide +kernel
theorem dX7_areInOne_51 : decode cX7_areInOne 51 = .ok (.aload_n 0, 1) := by decide +kernel
theorem dX7_areInOne_52 : decode cX7_areInOne 52 = .ok (.iload_n 3, 1) := by decide +kernel
theorem dX7_areInOne_53 : decode cX7_areInOne 53 = .ok (.iload 5, 2) := by decide +kernel
theorem dX7_areInOne_55 : decode cX7_areInOne 55 = .ok (.invokevirtual 190, 3) := by decide +kernel
theorem dX7_areInOne_58 : decode cX7_areInOne 58 = .ok (.invokevirtual 193, 3) := by decide +kernel
theorem dX7_areInOne_61 : decode cX7_areInOne 61 = .ok (.if_icmp .ne 7, 3) := by decide +kernel
theorem dX7_areInOne_64 : decode cX7_areInOne 64 = .ok (.iconst 1, 1) := by decide +kernel
theorem dX7_areInOne_65 : decode cX7_areInOne 65 = .ok (.goto 4, 3) := by decide +kernel
theorem dX7_areInOne_68 : decode cX7_areInOne 68 = .ok (.iconst 0, 1) := by decide +kernel
theorem dX7_areInOne_69 : decode cX7_areInOne 69 = .ok (.iand, 1) := by decide +kernel
theorem dX7_areInOne_70 : decode cX7_areInOne 70 = .ok (.istore 4, 2) := by decide +kernel
theorem dX7_areInOne_72 : decode cX7_areInOne 72 = .ok (.iinc 5 1, 3) := by decide +kernel
theorem dX7_areInOne_75 : decode cX7_areInOne 75 = .ok (.goto (-69), 3) := by decide +kernel
theorem dX7_areInOne_78 : decode cX7_areInOne 78 = .ok (.iload 4, 2) := by decide +kernel
theorem dX7_areInOne_80 : decode cX7_areInOne 80 = .ok (.ireturn, 1) := by decide +kernel
theorem dX7_cells_0 : decode cX7_cells 0 = .ok (.iconst 0, 1) := by decide +kernel
theorem dX7_cells_1 : decode cX7_cells 1 = .ok (.istore_n 2, 1) := by decide +kernel
theorem dX7_cells_2 : decode cX7_cells 2 = .ok (.iconst 0, 1) := by decide +kernel
theorem dX7_cells_3 : decode cX7_cells 3 = .ok (.istore_n 3, 1) := by decide +kernel
theorem dX7_cells_4 : decode cX7_cells 4 = .ok (.iload_n 3, 1) := by decide +kernel
theorem dX7_cells_5 : decode cX7_cells 5 = .ok (.aload_n 0, 1) := by decide +kernel
theorem dX7_cells_6 : decode cX7_cells 6 = .ok (.getfield 89, 3) := by decide +kernel
theorem dX7_cells_9 : decode cX7_cells 9 = .ok (.if_icmp .ge 63, 3) := by decide +kernel
theorem dX7_cells_12 : decode cX7_cells 12 = .ok (.iconst 1, 1) := by decide +kernel
theorem dX7_cells_13 : decode cX7_cells 13 = .ok (.istore 4, 2) := by decide +kernel
theorem dX7_cells_15 : decode cX7_cells 15 = .ok (.iconst 0, 1) := by decide +kernel
theorem dX7_cells_16 : decode cX7_cells 16 = .ok (.istore 5, 2) := by decide +kernel
theorem dX7_cells_18 : decode cX7_cells 18 = .ok (.iload 5, 2) := by decide +kernel
theorem dX7_cells_20 : decode cX7_cells 20 = .ok (.iload_n 3, 1) := by decide +kernel
theorem dX7_cells_21 : decode cX7_cells 21 = .ok (.if_icmp .ge 32, 3) := by decide +kernel
theorem dX7_cells_24 : decode cX7_cells 24 = .ok (.iload 4, 2) := by decide +kernel
theorem dX7_cells_26 : decode cX7_cells 26 = .ok (.ifCond .eq 27, 3) := by decide +kernel
theorem dX7_cells_29 : decode cX7_cells 29 = .ok (.aload_n 0, 1) := by decide +kernel
theorem dX7_cells_30 : decode cX7_cells 30 = .ok (.iload_n 3, 1) := by decide +kernel
theorem dX7_cells_31 : decode cX7_cells 31 = .ok (.iload 5, 2) := by decide +kernel
theorem dX7_cells_33 : decode cX7_cells 33 = .ok (.iload_n 1, 1) := by decide +kernel
theorem dX7_cells_34 : decode cX7_cells 34 = .ok (.invokevirtual 197, 3) := by decide +kernel
theorem dX7_cells_37 : decode cX7_cells 37 = .ok (.ifCond .ne 7, 3) := by decide +kernel
theorem dX7_cells_40 : decode cX7_cells 40 = .ok (.iconst 1, 1) := by decide +kernel
theorem dX7_cells_41 : decode cX7_cells 41 = .ok (.goto 4, 3) := by decide +kernel
theorem dX7_cells_44 : decode cX7_cells 44 = .ok (.iconst 0, 1) := by decide +kernel
theorem dX7_cells_45 : decode cX7_cells 45 = .ok (.istore 4, 2) := by decide +kernel
theorem dX7_cells_47 : decode cX7_cells 47 = .ok (.iinc 5 1, 3) := by decide +kernel
theorem dX7_cells_50 : decode cX7_cells 50 = .ok (.goto (-32), 3) := by decide +kernel
theorem dX7_cells_53 : decode cX7_cells 53 = .ok (.iload_n 2, 1) := by decide +kernel
theorem dX7_cells_54 : decode cX7_cells 54 = .ok (.iload 4, 2) := by decide +kernel
theorem dX7_cells_56 : decode cX7_cells 56 = .ok (.ifCond .eq 7, 3) := by decide +kernel
theorem dX7_cells_59 : decode cX7_cells 59 = .ok (.iconst 1, 1) := by decide +kernel
theorem dX7_cells_60 : decode cX7_cells 60 = .ok (.goto 4, 3) := by decide +kernel
theorem dX7_cells_63 : decode cX7_cells 63 = .ok (.iconst 0, 1) := by decide +kernel
theorem dX7_cells_64 : decode cX7_cells 64 = .ok (.iadd, 1) := by decide +kernel
theorem dX7_cells_65 : decode cX7_cells 65 = .ok (.istore_n 2, 1) := by decide +kernel
theorem dX7_cells_66 : decode cX7_cells 66 = .ok (.iinc 3 1, 3) := by decide +kernel
theorem dX7_cells_69 : decode cX7_cells 69 = .ok (.goto (-65), 3) := by decide +kernel
theorem dX7_cells_72 : decode cX7_cells 72 = .ok (.iload_n 2, 1) := by decide +kernel
theorem dX7_cells_73 : decode cX7_cells 73 = .ok (.ireturn, 1) := by decide +kernel
theorem dX7_answers_0 : decode cX7_answers 0 = .ok (.iconst 1, 1) := by decide +kernel
theorem dX7_answers_1 : decode cX7_answers 1 = .ok (.istore_n 3, 1) := by decide +kernel
theorem dX7_answers_2 : decode cX7_answers 2 = .ok (.iconst 0, 1) := by decide +kernel
theorem dX7_answers_3 : decode cX7_answers 3 = .ok (.istore 4, 2) := by decide +kernel
theorem dX7_answers_5 : decode cX7_answers 5 = .ok (.iload 4, 2) := by decide +kernel
theorem dX7_answers_7 : decode cX7_answers 7 = .ok (.aload_n 0, 1) := by decide +kernel
theorem dX7_answers_8 : decode cX7_answers 8 = .ok (.getfield 56, 3) := by decide +kernel
theorem dX7_answers_11 : decode cX7_answers 11 = .ok (.if_icmp .ge 34, 3) := by decide +kernel
theorem dX7_answers_14 : decode cX7_answers 14 = .ok (.iload_n 3, 1) := by decide +kernel
theorem dX7_answers_15 : decode cX7_answers 15 = .ok (.aload_n 0, 1) := by decide +kernel
theorem dX7_answers_16 : decode cX7_answers 16 = .ok (.iload_n 1, 1) := by decide +kernel
theorem dX7_answers_17 : decode cX7_answers 17 = .ok (.iload 4, 2) := by decide +kernel
theorem dX7_answers_19 : decode cX7_answers 19 = .ok (.invokevirtual 190, 3) := by decide +kernel
theorem dX7_answers_22 : decode cX7_answers 22 = .ok (.aload_n 0, 1) := by decide +kernel
theorem dX7_answers_23 : decode cX7_answers 23 = .ok (.iload_n 2, 1) := by decide +kernel
theorem dX7_answers_24 : decode cX7_answers 24 = .ok (.iload 4, 2) := by decide +kernel
theorem dX7_answers_26 : decode cX7_answers 26 = .ok (.invokevirtual 190, 3) := by decide +kernel
theorem dX7_answers_29 : decode cX7_answers 29 = .ok (.if_icmp .lt 7, 3) := by decide +kernel
theorem dX7_answers_32 : decode cX7_answers 32 = .ok (.iconst 1, 1) := by decide +kernel
theorem dX7_answers_33 : decode cX7_answers 33 = .ok (.goto 4, 3) := by decide +kernel
theorem dX7_answers_36 : decode cX7_answers 36 = .ok (.iconst 0, 1) := by decide +kernel
theorem dX7_answers_37 : decode cX7_answers 37 = .ok (.iand, 1) := by decide +kernel
theorem dX7_answers_38 : decode cX7_answers 38 = .ok (.istore_n 3, 1) := by decide +kernel
theorem dX7_answers_39 : decode cX7_answers 39 = .ok (.iinc 4 1, 3) := by decide +kernel
theorem dX7_answers_42 : decode cX7_answers 42 = .ok (.goto (-37), 3) := by decide +kernel
theorem dX7_answers_45 : decode cX7_answers 45 = .ok (.iload_n 3, 1) := by decide +kernel
theorem dX7_answers_46 : decode cX7_answers 46 = .ok (.ireturn, 1) := by decide +kernel
theorem dX7_areLevels_0 : decode cX7_areLevels 0 = .ok (.iconst 1, 1) := by decide +kernel
theorem dX7_areLevels_1 : decode cX7_areLevels 1 = .ok (.istore_n 2, 1) := by decide +kernel
theorem dX7_areLevels_2 : decode cX7_areLevels 2 = .ok (.iconst 0, 1) := by decide +kernel
theorem dX7_areLevels_3 : decode cX7_areLevels 3 = .ok (.istore_n 3, 1) := by decide +kernel
theorem dX7_areLevels_4 : decode cX7_areLevels 4 = .ok (.iload_n 3, 1) := by decide +kernel
theorem dX7_areLevels_5 : decode cX7_areLevels 5 = .ok (.aload_n 0, 1) := by decide +kernel
theorem dX7_areLevels_6 : decode cX7_areLevels 6 = .ok (.getfield 56, 3) := by decide +kernel
theorem dX7_areLevels_9 : decode cX7_areLevels 9 = .ok (.if_icmp .ge 32, 3) := by decide +kernel
theorem dX7_areLevels_12 : decode cX7_areLevels 12 = .ok (.iload_n 2, 1) := by decide +kernel
theorem dX7_areLevels_13 : decode cX7_areLevels 13 = .ok (.aload_n 0, 1) := by decide +kernel
theorem dX7_areLevels_14 : decode cX7_areLevels 14 = .ok (.iload_n 1, 1) := by decide +kernel
theorem dX7_areLevels_15 : decode cX7_areLevels 15 = .ok (.iload_n 3, 1) := by decide +kernel
theorem dX7_areLevels_16 : decode cX7_areLevels 16 = .ok (.invokevirtual 190, 3) := by decide +kernel
theorem dX7_areLevels_19 : decode cX7_areLevels 19 = .ok (.aload_n 0, 1) := by decide +kernel
theorem dX7_areLevels_20 : decode cX7_areLevels 20 = .ok (.getfield 9, 3) := by decide +kernel
theorem dX7_areLevels_23 : decode cX7_areLevels 23 = .ok (.iload_n 3, 1) := by decide +kernel
theorem dX7_areLevels_24 : decode cX7_areLevels 24 = .ok (.iaload, 1) := by decide +kernel
theorem dX7_areLevels_25 : decode cX7_areLevels 25 = .ok (.if_icmp .gt 7, 3) := by decide +kernel
theorem dX7_areLevels_28 : decode cX7_areLevels 28 = .ok (.iconst 1, 1) := by decide +kernel
theorem dX7_areLevels_29 : decode cX7_areLevels 29 = .ok (.goto 4, 3) := by decide +kernel
theorem dX7_areLevels_32 : decode cX7_areLevels 32 = .ok (.iconst 0, 1) := by decide +kernel
theorem dX7_areLevels_33 : decode cX7_areLevels 33 = .ok (.iand, 1) := by decide +kernel
theorem dX7_areLevels_34 : decode cX7_areLevels 34 = .ok (.istore_n 2, 1) := by decide +kernel
theorem dX7_areLevels_35 : decode cX7_areLevels 35 = .ok (.iinc 3 1, 3) := by decide +kernel
theorem dX7_areLevels_38 : decode cX7_areLevels 38 = .ok (.goto (-34), 3) := by decide +kernel
theorem dX7_areLevels_41 : decode cX7_areLevels 41 = .ok (.iload_n 2, 1) := by decide +kernel
theorem dX7_areLevels_42 : decode cX7_areLevels 42 = .ok (.ifCond .eq 19, 3) := by decide +kernel
theorem dX7_areLevels_45 : decode cX7_areLevels 45 = .ok (.iload_n 1, 1) := by decide +kernel
theorem dX7_areLevels_46 : decode cX7_areLevels 46 = .ok (.iconst 1, 1) := by decide +kernel
theorem dX7_areLevels_47 : decode cX7_areLevels 47 = .ok (.iconst 2, 1) := by decide +kernel
theorem dX7_areLevels_48 : decode cX7_areLevels 48 = .ok (.aload_n 0, 1) := by decide +kernel
theorem dX7_areLevels_49 : decode cX7_areLevels 49 = .ok (.getfield 56, 3) := by decide +kernel
theorem dX7_areLevels_52 : decode cX7_areLevels 52 = .ok (.imul, 1) := by decide +kernel
theorem dX7_areLevels_53 : decode cX7_areLevels 53 = .ok (.ishl, 1) := by decide +kernel
theorem dX7_areLevels_54 : decode cX7_areLevels 54 = .ok (.if_icmp .ge 7, 3) := by decide +kernel
theorem dX7_areLevels_57 : decode cX7_areLevels 57 = .ok (.iconst 1, 1) := by decide +kernel
theorem dX7_areLevels_58 : decode cX7_areLevels 58 = .ok (.goto 4, 3) := by decide +kernel
theorem dX7_areLevels_61 : decode cX7_areLevels 61 = .ok (.iconst 0, 1) := by decide +kernel
theorem dX7_areLevels_62 : decode cX7_areLevels 62 = .ok (.ireturn, 1) := by decide +kernel
/-! by program: wip/whole/gen.py out of wip/whole/src/27.model.eb -/
/-! EbbTableModel: levels, cells, views, costs -/
set_option maxRecDepth 100000 in
set_option maxHeartbeats 8000000 in
theorem c_X7_digit {l : Launch} {D : va_G} {cys : Nat → ClassId} {ad : Nat → Int → Nat} {L : List Nat} {g : Nat → va_E} {X : Int64} {Z : ZT} (hi : injA ad) {S : ZT} {q d : Int} (hS : RMZ S Z) (hW : WF S) (hq : 0 ≤ q ∧ q < 256) (hd : 0 ≤ d ∧ d < S 0 0 5) : CM l D cys ad yX7_digit cX7_digit 3 (some .int) 0 0 0 0 [.ref (ad 24 0), .int (iI q), .int (iI d)] L g X Z (PI L g X Z (fun r => r = dg (S 0 0 5) q d)) := by
  refine cm_start hi (by decide +kernel) (Nat.le_of_ble_eq_true rfl) ?_
  intro p_ e_ s_ m_ args_ below_ meth_ c_ A_ Q_ hQ G hr hin
  have hn := hW.n
  have e1 := hS.a.1
  have hsd := shr_dg hq.1 hq.2 hd.1 hd.2 hn.2
  refine j_iload_n G dX7_digit_0 rfl ?_
  refine j_iconst G dX7_digit_1 ?_
  refine j_aload_n G dX7_digit_2 rfl ?_
  refine gf_24_1 G dX7_digit_3 lf7_56 (by first | assumption | decide) ?_
  refine j_iconst G dX7_digit_6 ?_
  refine j_isub G dX7_digit_7 ?_
  refine j_iload_n G dX7_digit_8 rfl ?_
  refine j_isub G dX7_digit_9 ?_
  refine j_imul G dX7_digit_10 ?_
  rw [e1]
  refine j_ishr G dX7_digit_11 hsd.1 ?_
  refine j_iconst G dX7_digit_12 ?_
  refine j_iand G dX7_digit_13 hsd.2 ?_
  refine jr_I G hQ hr dX7_digit_14 (by decide) (by decide) ?_
  rfl
set_option maxRecDepth 100000 in
set_option maxHeartbeats 8000000 in
theorem c_X7_levelsNow {l : Launch} {D : va_G} {cys : Nat → ClassId} {ad : Nat → Int → Nat} {L : List Nat} {g : Nat → va_E} {X : Int64} {Z : ZT} (hi : injA ad) {S : ZT} (hS : RMZ S Z) (hW : WF S) : CM l D cys ad yX7_levelsNow cX7_levelsNow 3 (some .int) 0 0 0 0 [.ref (ad 24 0)] L g X Z (PI L g X Z (fun r => LV (S 0 0 5) r = S 0 0 6 ∧ 0 ≤ r ∧ r < 256)) := by
  refine cm_start hi (by decide +kernel) (Nat.le_of_ble_eq_true rfl) ?_
  intro p_ e_ s_ m_ args_ below_ meth_ c_ A_ Q_ hQ G hr hin
  have hn := hW.n
  have e1 := hS.a.1
  have hlv := hW.lv
  have loop : ∀ (n : Nat) (a b : Int), 0 ≤ a → a ≤ S 0 0 5 → (S 0 0 5 - a).toNat = n → b = S 0 0 6 / 4 ^ (4 - a).toNat → JJ p_ l e_ { frames := 0, cells := 0, slots := 0, locals := 0 } s_ m_ args_ below_ meth_ c_ D cys ad A_ Q_ 3 0 0 L g X Z 4 [(0, .ref (ad 24 0)), (1, .int (iI b)), (2, .int (iI a))] [] := by
    intro n
    induction n with
    | zero =>
      intro a b h0 h1 h2 h3
      have ea : a = S 0 0 5 := by omega
      subst ea
      refine j_iload_n G dX7_levelsNow_4 rfl ?_
      refine j_aload_n G dX7_levelsNow_5 rfl ?_
      refine gf_24_1 G dX7_levelsNow_6 lf7_56 (by first | assumption | decide) ?_
      refine j_icmp_ge G 29 dX7_levelsNow_9 (by decide) (by omega) (by omega) (fun c9 => ?_) (fun c9 => ?_)
      · refine j_iload_n G dX7_levelsNow_29 rfl ?_
        refine jr_I G hQ hr dX7_levelsNow_30 (by decide) (by decide) ?_
        have e := lev_e hW hlv
        rw [← h3] at e
        exact ⟨e, LV_in hn.1 hn.2 (by rw [e]; exact hlv.1) (by rw [e]; exact hlv.2.1)⟩
      · exfalso; omega
    | succ n ih =>
      intro a b h0 h1 h2 h3
      have e32 := (hS.d h0 (by omega)).2.2.2
      have hs := lev_s hlv.1 hlv.2.1 h0 (by omega : a < 4)
      refine j_iload_n G dX7_levelsNow_4 rfl ?_
      refine j_aload_n G dX7_levelsNow_5 rfl ?_
      refine gf_24_1 G dX7_levelsNow_6 lf7_56 (by first | assumption | decide) ?_
      refine j_icmp_ge G 29 dX7_levelsNow_9 (by decide) (by omega) (by omega) (fun c9 => ?_) (fun c9 => ?_)
      · exfalso; omega
      · refine j_iload_n G dX7_levelsNow_12 rfl ?_
        refine j_iconst G dX7_levelsNow_13 ?_
        refine j_imul G dX7_levelsNow_14 ?_
        refine j_aload_n G dX7_levelsNow_15 rfl ?_
        refine gf_24_7 G dX7_levelsNow_16 lf7_29 (by first | assumption | decide) ?_
        refine j_iload_n G dX7_levelsNow_19 rfl ?_
        refine al_32 G dX7_levelsNow_20 (by first | assumption | decide) (by omega) (by omega) ?_
        rw [e32]
        refine j_iadd G dX7_levelsNow_21 ?_
        refine j_istore_n G dX7_levelsNow_22 (by decide) rfl ?_
        refine j_iinc G dX7_levelsNow_23 rfl (by decide) rfl ?_
        refine j_goto G 4 dX7_levelsNow_26 (by decide) ?_
        refine ih (a + 1) _ (by omega) (by omega) (by omega) ?_
        rw [← hs, h3]
  refine j_iconst G dX7_levelsNow_0 ?_
  refine j_istore_n G dX7_levelsNow_1 (by decide) rfl ?_
  refine j_iconst G dX7_levelsNow_2 ?_
  refine j_istore_n G dX7_levelsNow_3 (by decide) rfl ?_
  exact loop _ 0 0 (by omega) (by omega) rfl (lev_0 hlv.1 hlv.2.1).symm
set_option maxRecDepth 100000 in
set_option maxHeartbeats 8000000 in
theorem c_X7_memberOn {l : Launch} {D : va_G} {cys : Nat → ClassId} {ad : Nat → Int → Nat} {L : List Nat} {g : Nat → va_E} {X : Int64} {Z : ZT} (hi : injA ad) {S : ZT} {d q w : Int} (hS : RMZ S Z) (hW : WF S) (hd : 0 ≤ d ∧ d < S 0 0 5) (hq : 0 ≤ q ∧ q < S 2 d 4) (hw : 0 ≤ w ∧ w < 4) : CM l D cys ad yX7_memberOn cX7_memberOn 5 (some .int) 1 24 0 0 [.ref (ad 24 0), .int (iI d), .int (iI q), .int (iI w)] L g X Z (PI L g X Z (fun r => r = abv S d q w)) := by
  refine cm_start hi (by decide +kernel) (Nat.le_of_ble_eq_true rfl) ?_
  intro p_ e_ s_ m_ args_ below_ meth_ c_ A_ Q_ hQ G hr hin
  have hn := hW.n
  have ht := hW.t hd.1 hd.2
  have ht1 := ht.1
  have hv27 : 0 ≤ d ∧ d < 4 := by omega
  have hv28 : vd 28 d := ⟨hd.1, show d < 4 by omega⟩
  have loop : ∀ (n : Nat) (b : Int), 0 ≤ b → b < S 2 d 4 → S 4 d b = n → abv S d q w = abv S d b w → JJ p_ l e_ { frames := 1, cells := 0, slots := 0, locals := 24 } s_ m_ args_ below_ meth_ c_ D cys ad A_ Q_ 5 0 0 L g X Z 3 [(0, .ref (ad 24 0)), (1, .int (iI d)), (2, .int (iI q)), (3, .int (iI w)), (4, .int (iI b))] [] := by
    intro n
    induction n with
    | zero =>
      intro b h0 h1 h2 h3
      have hbb : 0 ≤ b ∧ b < S 2 d 4 := ⟨h0, h1⟩
      have hb := ht.at h0 h1
      unfold MOK at hb
      refine j_aload_n G dX7_memberOn_3 rfl ?_
      refine j_iload_n G dX7_memberOn_4 rfl ?_
      refine j_iload G dX7_memberOn_5 rfl ?_
      refine j_cVI G cvX7_depth ml7_67 (c_X7_depth hi hS hW hd hbb) dX7_memberOn_7 ⟨by decide, by decide⟩ ⟨by decide, by decide⟩ rfl rfl (Nat.le_of_ble_eq_true rfl) (by first | assumption | decide) rfl rfl rfl (fun r7 h7 => ?_)
      refine j_iload_n G dX7_memberOn_10 rfl ?_
      refine j_icmp_le G 28 dX7_memberOn_11 (by decide) (by omega) (by omega) (fun c11 => ?_) (fun c11 => ?_)
      · refine j_iload G dX7_memberOn_28 rfl ?_
        refine jr_I G hQ hr dX7_memberOn_30 (by decide) (by decide) ?_
        rw [h3, (abv_ok ht h0 h1 hw.1).2.2.2 (by omega)]
      · exfalso; omega
    | succ n ih =>
      intro b h0 h1 h2 h3
      have hbb : 0 ≤ b ∧ b < S 2 d 4 := ⟨h0, h1⟩
      have hb := ht.at h0 h1
      unfold MOK at hb
      have hb0 : 0 < b := by omega
      have hb3 := hb.2.2.2 hb0
      have ep := hS.p hd.1 hd.2 hb0 h1
      refine j_aload_n G dX7_memberOn_3 rfl ?_
      refine j_iload_n G dX7_memberOn_4 rfl ?_
      refine j_iload G dX7_memberOn_5 rfl ?_
      refine j_cVI G cvX7_depth ml7_67 (c_X7_depth hi hS hW hd hbb) dX7_memberOn_7 ⟨by decide, by decide⟩ ⟨by decide, by decide⟩ rfl rfl (Nat.le_of_ble_eq_true rfl) (by first | assumption | decide) rfl rfl rfl (fun r7 h7 => ?_)
      refine j_iload_n G dX7_memberOn_10 rfl ?_
      refine j_icmp_le G 28 dX7_memberOn_11 (by decide) (by omega) (by omega) (fun c11 => ?_) (fun c11 => ?_)
      · refine j_iload G dX7_memberOn_28 rfl ?_
        refine jr_I G hQ hr dX7_memberOn_30 (by decide) (by decide) ?_
        rw [h3, (abv_ok ht h0 h1 hw.1).2.2.2 (by omega)]
      · refine j_aload_n G dX7_memberOn_14 rfl ?_
        refine gf_24_4 G dX7_memberOn_15 lf7_18 (by first | assumption | decide) ?_
        refine j_iload_n G dX7_memberOn_18 rfl ?_
        refine al_27 G dX7_memberOn_19 (by first | assumption | decide) (by omega) (by omega) ?_
        refine j_iload G dX7_memberOn_20 rfl ?_
        refine al_28 G dX7_memberOn_22 (by first | assumption | decide) (by omega) (by omega) ?_
        rw [ep]
        refine j_istore G dX7_memberOn_23 (by decide) rfl ?_
        refine j_goto G 3 dX7_memberOn_25 (by decide) ?_
        exact ih (S 3 d b) (by omega) (by omega) (by omega) (h3.trans (abv_step ht hb0 h1 (by omega)))
  have hqm := ht.at hq.1 hq.2
  unfold MOK at hqm
  refine j_iload_n G dX7_memberOn_0 rfl ?_
  refine j_istore G dX7_memberOn_1 (by decide) rfl ?_
  exact loop (S 4 d q).toNat q hq.1 hq.2 (by omega) rfl
set_option maxRecDepth 100000 in
set_option maxHeartbeats 8000000 in
theorem c_X7_areInOne {l : Launch} {D : va_G} {cys : Nat → ClassId} {ad : Nat → Int → Nat} {L : List Nat} {g : Nat → va_E} {X : Int64} {Z : ZT} (hi : injA ad) {S : ZT} {k j q : Int} (hS : RMZ S Z) (hRL : RML cys ad S L g) (hW : WF S) (hk : 0 ≤ k ∧ k < S 6 0 3) (hj : 0 ≤ j ∧ j < S 6 0 3) (hq : 0 ≤ q ∧ q < 256) : CM l D cys ad yX7_areInOne cX7_areInOne 6 (some .boolean) 2 48 0 0 [.ref (ad 24 0), .int (iI k), .int (iI j), .int (iI q)] L g X Z (PI L g X Z (fun r => (r = 1 ∧ sameC S (LV (S 0 0 5) q) k j) ∨ (r = 0 ∧ ¬ sameC S (LV (S 0 0 5) q) k j))) := by
  refine cm_start hi (by decide +kernel) (Nat.le_of_ble_eq_true rfl) ?_
  intro p_ e_ s_ m_ args_ below_ meth_ c_ A_ Q_ hQ G hr hin
  have hn := hW.n
  have hf := hW.f
  have e1 := hS.a.1
  have hfk := (hW.fk hk.1 hk.2).1
  have hfj := (hW.fk hj.1 hj.2).1
  have loop : ∀ (n : Nat) (a b : Int), 0 ≤ a → a ≤ S 0 0 5 → (S 0 0 5 - a).toNat = n → (b = 0 ∨ b = 1) → (b = 1 ↔ ∀ e, 0 ≤ e → e < a → abv S e (S 8 e k) (lvl (LV (S 0 0 5) q) e) = abv S e (S 8 e j) (lvl (LV (S 0 0 5) q) e)) → JJ p_ l e_ { frames := 2, cells := 0, slots := 0, locals := 48 } s_ m_ args_ below_ meth_ c_ D cys ad A_ Q_ 6 0 0 L g X Z 6 [(0, .ref (ad 24 0)), (1, .int (iI k)), (2, .int (iI j)), (3, .int (iI q)), (4, .int (iI b)), (5, .int (iI a))] [] := by
    intro n
    induction n with
    | zero =>
      intro a b h0 h1 h2 h3 h4
      have ea : a = S 0 0 5 := by omega
      subst ea
      refine j_iload G dX7_areInOne_6 rfl ?_
      refine j_aload_n G dX7_areInOne_8 rfl ?_
      refine gf_24_1 G dX7_areInOne_9 lf7_56 (by first | assumption | decide) ?_
      refine j_icmp_ge G 78 dX7_areInOne_12 (by decide) (by omega) (by omega) (fun c12 => ?_) (fun c12 => ?_)
      · refine j_iload G dX7_areInOne_78 rfl ?_
        refine jr_B G hQ hr dX7_areInOne_80 (by decide) (by decide) (by omega) ?_
        rcases h3 with z | z
        · exact Or.inr ⟨z, fun y => by have := h4.mpr y; omega⟩
        · exact Or.inl ⟨z, h4.mp z⟩
      · exfalso; omega
    | succ n ih =>
      intro a b h0 h1 h2 h3 h4
      have hda : 0 ≤ a ∧ a < S 0 0 5 := by omega
      have hlk := hfk a h0 hda.2
      have hlj := hfj a h0 hda.2
      have hkm : 0 ≤ S 8 a k ∧ S 8 a k < S 2 a 4 := ⟨hlk.1, hlk.2.1⟩
      have hjm : 0 ≤ S 8 a j ∧ S 8 a j < S 2 a 4 := ⟨hlj.1, hlj.2.1⟩
      have ht := hW.t hda.1 hda.2
      have ht1 := ht.1
      have hdg := dg_in (S 0 0 5) q a
      have eg := dg_lvl hda.1 hda.2 hn.2 hq.1
      have hb1 := abv_ok ht hkm.1 hkm.2 hdg.1
      have hb2 := abv_ok ht hjm.1 hjm.2 hdg.1
      have hi1 : inR (abv S a (S 8 a k) (dg (S 0 0 5) q a)) := by omega
      have hi2 : inR (abv S a (S 8 a j) (dg (S 0 0 5) q a)) := by omega
      have hh1 : 0 ≤ a + 1 := by omega
      have hh2 : a + 1 ≤ S 0 0 5 := by omega
      have hh3 : (S 0 0 5 - (a + 1)).toNat = n := by omega
      have hstep := fun c => all_step (P := fun e => abv S e (S 8 e k) (lvl (LV (S 0 0 5) q) e) = abv S e (S 8 e j) (lvl (LV (S 0 0 5) q) e)) (b := b) (c := c) h0 h4
      refine j_iload G dX7_areInOne_6 rfl ?_
      refine j_aload_n G dX7_areInOne_8 rfl ?_
      refine gf_24_1 G dX7_areInOne_9 lf7_56 (by first | assumption | decide) ?_
      refine j_icmp_ge G 78 dX7_areInOne_12 (by decide) (by omega) (by omega) (fun c12 => ?_) (fun c12 => ?_)
      · exfalso; omega
      · refine j_iload G dX7_areInOne_15 rfl ?_
        refine j_aload_n G dX7_areInOne_17 rfl ?_
        refine j_iload G dX7_areInOne_18 rfl ?_
        refine j_aload_n G dX7_areInOne_20 rfl ?_
        refine gf_24_9 G dX7_areInOne_21 lf7_33 (by first | assumption | decide) ?_
        refine j_iload_n G dX7_areInOne_24 rfl ?_
        refine j_leaf G dX7_areInOne_25 hRL (by omega) (by omega) (by omega) (fun a25 W25 l25 => ?_)
        refine j_iload G dX7_areInOne_26 rfl ?_
        refine j_dld G dX7_areInOne_28 l25.1 l25.2.1 l25.2.2.1 (by rw [l25.2.2.2.1]; decide) (by omega) (by rw [l25.2.2.2.1]; omega) ?_
        rw [l25.2.2.2.2 _ (by omega) (by omega)]
        refine j_aload_n G dX7_areInOne_29 rfl ?_
        refine j_iload_n G dX7_areInOne_30 rfl ?_
        refine j_iload G dX7_areInOne_31 rfl ?_
        refine j_cVI G cvX7_digit ml7_190 (c_X7_digit hi hS hW hq hda) dX7_areInOne_33 ⟨by decide, by decide⟩ ⟨by decide, by decide⟩ rfl rfl (Nat.le_of_ble_eq_true rfl) (by first | assumption | decide) rfl rfl rfl (fun r33 h33 => ?_)
        subst h33
        refine j_cVI G cvX7_memberOn ml7_193 (c_X7_memberOn hi hS hW hda hkm hdg) dX7_areInOne_36 ⟨by decide, by decide⟩ ⟨by decide, by decide⟩ rfl rfl (Nat.le_of_ble_eq_true rfl) (by first | assumption | decide) rfl rfl rfl (fun r36 h36 => ?_)
        subst h36
        refine j_aload_n G dX7_areInOne_39 rfl ?_
        refine j_iload G dX7_areInOne_40 rfl ?_
        refine j_aload_n G dX7_areInOne_42 rfl ?_
        refine gf_24_9 G dX7_areInOne_43 lf7_33 (by first | assumption | decide) ?_
        refine j_iload_n G dX7_areInOne_46 rfl ?_
        refine j_leaf G dX7_areInOne_47 hRL (by omega) (by omega) (by omega) (fun a47 W47 l47 => ?_)
        refine j_iload G dX7_areInOne_48 rfl ?_
        refine j_dld G dX7_areInOne_50 l47.1 l47.2.1 l47.2.2.1 (by rw [l47.2.2.2.1]; decide) (by omega) (by rw [l47.2.2.2.1]; omega) ?_
        rw [l47.2.2.2.2 _ (by omega) (by omega)]
        refine j_aload_n G dX7_areInOne_51 rfl ?_
        refine j_iload_n G dX7_areInOne_52 rfl ?_
        refine j_iload G dX7_areInOne_53 rfl ?_
        refine j_cVI G cvX7_digit ml7_190 (c_X7_digit hi hS hW hq hda) dX7_areInOne_55 ⟨by decide, by decide⟩ ⟨by decide, by decide⟩ rfl rfl (Nat.le_of_ble_eq_true rfl) (by first | assumption | decide) rfl rfl rfl (fun r55 h55 => ?_)
        subst h55
        refine j_cVI G cvX7_memberOn ml7_193 (c_X7_memberOn hi hS hW hda hjm hdg) dX7_areInOne_58 ⟨by decide, by decide⟩ ⟨by decide, by decide⟩ rfl rfl (Nat.le_of_ble_eq_true rfl) (by first | assumption | decide) rfl rfl rfl (fun r58 h58 => ?_)
        subst h58
        refine j_icmp_ne G 68 dX7_areInOne_61 (by decide) (by omega) (by omega) (fun c61 => ?_) (fun c61 => ?_)
        · refine j_iconst G dX7_areInOne_68 ?_
          refine j_iand G dX7_areInOne_69 (and_01 h3 (by decide)) ?_
          refine j_istore G dX7_areInOne_70 (by decide) rfl ?_
          refine j_iinc G dX7_areInOne_72 rfl (by decide) rfl ?_
          refine j_goto G 6 dX7_areInOne_75 (by decide) ?_
          refine ih (a + 1) _ hh1 hh2 hh3 if_01 (hstep _ ?_)
          rw [← eg]
          first
          | exact ⟨fun z => absurd z (by decide), fun z => absurd z (by assumption)⟩
          | exact ⟨fun _ => by assumption, fun _ => rfl⟩
        · refine j_iconst G dX7_areInOne_64 ?_
          refine j_goto G 69 dX7_areInOne_65 (by decide) ?_
          refine j_iand G dX7_areInOne_69 (and_01 h3 (by decide)) ?_
          refine j_istore G dX7_areInOne_70 (by decide) rfl ?_
          refine j_iinc G dX7_areInOne_72 rfl (by decide) rfl ?_
          refine j_goto G 6 dX7_areInOne_75 (by decide) ?_
          refine ih (a + 1) _ hh1 hh2 hh3 if_01 (hstep _ ?_)
          rw [← eg]
          first
          | exact ⟨fun z => absurd z (by decide), fun z => absurd z (by assumption)⟩
          | exact ⟨fun _ => by assumption, fun _ => rfl⟩
  refine j_iconst G dX7_areInOne_0 ?_
  refine j_istore G dX7_areInOne_1 (by decide) rfl ?_
  refine j_iconst G dX7_areInOne_3 ?_
  refine j_istore G dX7_areInOne_4 (by decide) rfl ?_
  exact loop _ 0 1 (by omega) (by omega) rfl (Or.inr rfl) ⟨fun _ e e0 e1 => by omega, fun _ => rfl⟩
set_option maxRecDepth 100000 in
set_option maxHeartbeats 8000000 in
theorem c_X7_cells {l : Launch} {D : va_G} {cys : Nat → ClassId} {ad : Nat → Int → Nat} {L : List Nat} {g : Nat → va_E} {X : Int64} {Z : ZT} (hi : injA ad) {S : ZT} {q : Int} (hS : RMZ S Z) (hRL : RML cys ad S L g) (hW : WF S) (hq : 0 ≤ q ∧ q < 256) : CM l D cys ad yX7_cells cX7_cells 6 (some .int) 3 73 0 0 [.ref (ad 24 0), .int (iI q)] L g X Z (PI L g X Z (fun r => r = CELLS S (LV (S 0 0 5) q))) := by
  refine cm_start hi (by decide +kernel) (Nat.le_of_ble_eq_true rfl) ?_
  intro p_ e_ s_ m_ args_ below_ meth_ c_ A_ Q_ hQ G hr hin
  have hf := hW.f
  have e63 := hS.a.2.1
  have loop : ∀ (n : Nat) (a b : Int), 0 ≤ a → a ≤ S 6 0 3 → (S 6 0 3 - a).toNat = n → b = sumTo (fun k => iv (∀ j, 0 ≤ j → j < k → ¬ sameC S (LV (S 0 0 5) q) j k)) a.toNat → JJ p_ l e_ { frames := 3, cells := 0, slots := 0, locals := 73 } s_ m_ args_ below_ meth_ c_ D cys ad A_ Q_ 6 0 0 L g X Z 4 [(0, .ref (ad 24 0)), (1, .int (iI q)), (2, .int (iI b)), (3, .int (iI a))] [] := by
    intro n
    induction n with
    | zero =>
      intro a b h0 h1 h2 h3
      have ea : a = S 6 0 3 := by omega
      subst ea
      refine j_iload_n G dX7_cells_4 rfl ?_
      refine j_aload_n G dX7_cells_5 rfl ?_
      refine gf_24_8 G dX7_cells_6 lf7_89 (by first | assumption | decide) ?_
      refine j_icmp_ge G 72 dX7_cells_9 (by decide) (by omega) (by omega) (fun c9 => ?_) (fun c9 => ?_)
      · refine j_iload_n G dX7_cells_72 rfl ?_
        refine jr_I G hQ hr dX7_cells_73 (by decide) (by decide) ?_
        exact h3
      · exfalso; omega
    | succ n ih =>
      intro a b h0 h1 h2 h3
      have hk : 0 ≤ a ∧ a < S 6 0 3 := by omega
      have hs := sumTo_s (f := fun k => iv (∀ j, 0 ≤ j → j < k → ¬ sameC S (LV (S 0 0 5) q) j k)) h0
      have inner : ∀ (m : Nat) (c f : Int), 0 ≤ c → c ≤ a → (a - c).toNat = m → (f = 0 ∨ f = 1) → (f = 1 ↔ ∀ j, 0 ≤ j → j < c → ¬ sameC S (LV (S 0 0 5) q) j a) → JJ p_ l e_ { frames := 3, cells := 0, slots := 0, locals := 73 } s_ m_ args_ below_ meth_ c_ D cys ad A_ Q_ 6 0 0 L g X Z 18 [(0, .ref (ad 24 0)), (1, .int (iI q)), (2, .int (iI b)), (3, .int (iI a)), (4, .int (iI f)), (5, .int (iI c))] [] := by
        intro m
        induction m with
        | zero =>
          intro c f g0 g1 g2 g3 g4
          have ec : c = a := by omega
          subst ec
          refine j_iload G dX7_cells_18 rfl ?_
          refine j_iload_n G dX7_cells_20 rfl ?_
          refine j_icmp_ge G 53 dX7_cells_21 (by decide) (by omega) (by omega) (fun c21 => ?_) (fun c21 => ?_)
          · refine j_iload_n G dX7_cells_53 rfl ?_
            refine j_iload G dX7_cells_54 rfl ?_
            refine j_if_eq G 63 dX7_cells_56 (by decide) (by omega) (fun c56 => ?_) (fun c56 => ?_)
            · refine j_iconst G dX7_cells_63 ?_
              refine j_iadd G dX7_cells_64 ?_
              refine j_istore_n G dX7_cells_65 (by decide) rfl ?_
              refine j_iinc G dX7_cells_66 rfl (by decide) rfl ?_
              refine j_goto G 4 dX7_cells_69 (by decide) ?_
              refine j_keep [0, 1, 2, 3] ?_
              refine ih (c + 1) _ (by omega) (by omega) (by omega) ?_
              rw [hs, ← h3]
              first
              | rw [iv_t (g4.mp (by omega))]
              | rw [iv_f (fun z => by have := g4.mpr z; omega)]
            · refine j_iconst G dX7_cells_59 ?_
              refine j_goto G 64 dX7_cells_60 (by decide) ?_
              refine j_iadd G dX7_cells_64 ?_
              refine j_istore_n G dX7_cells_65 (by decide) rfl ?_
              refine j_iinc G dX7_cells_66 rfl (by decide) rfl ?_
              refine j_goto G 4 dX7_cells_69 (by decide) ?_
              refine j_keep [0, 1, 2, 3] ?_
              refine ih (c + 1) _ (by omega) (by omega) (by omega) ?_
              rw [hs, ← h3]
              first
              | rw [iv_t (g4.mp (by omega))]
              | rw [iv_f (fun z => by have := g4.mpr z; omega)]
          · exfalso; omega
        | succ m ihm =>
          intro c f g0 g1 g2 g3 g4
          have hc : 0 ≤ c ∧ c < S 6 0 3 := by omega
          have hm1 : 0 ≤ c + 1 := by omega
          have hm2 : c + 1 ≤ a := by omega
          have hm3 : (a - (c + 1)).toNat = m := by omega
          refine j_iload G dX7_cells_18 rfl ?_
          refine j_iload_n G dX7_cells_20 rfl ?_
          refine j_icmp_ge G 53 dX7_cells_21 (by decide) (by omega) (by omega) (fun c21 => ?_) (fun c21 => ?_)
          · exfalso; omega
          · refine j_iload G dX7_cells_24 rfl ?_
            refine j_if_eq G 53 dX7_cells_26 (by decide) (by omega) (fun c26 => ?_) (fun c26 => ?_)
            · refine j_iload_n G dX7_cells_53 rfl ?_
              refine j_iload G dX7_cells_54 rfl ?_
              refine j_if_eq G 63 dX7_cells_56 (by decide) (by omega) (fun c56 => ?_) (fun c56 => ?_)
              · refine j_iconst G dX7_cells_63 ?_
                refine j_iadd G dX7_cells_64 ?_
                refine j_istore_n G dX7_cells_65 (by decide) rfl ?_
                refine j_iinc G dX7_cells_66 rfl (by decide) rfl ?_
                refine j_goto G 4 dX7_cells_69 (by decide) ?_
                first
                | (exfalso; omega)
                | (refine j_keep [0, 1, 2, 3] ?_
                   refine ih (a + 1) _ (by omega) (by omega) (by omega) ?_
                   rw [hs, ← h3]
                   rw [iv_f (fun z => by have := g4.mpr (fun j j0 j1 => z j j0 (by omega)); omega)])
              · refine j_iconst G dX7_cells_59 ?_
                refine j_goto G 64 dX7_cells_60 (by decide) ?_
                refine j_iadd G dX7_cells_64 ?_
                refine j_istore_n G dX7_cells_65 (by decide) rfl ?_
                refine j_iinc G dX7_cells_66 rfl (by decide) rfl ?_
                refine j_goto G 4 dX7_cells_69 (by decide) ?_
                first
                | (exfalso; omega)
                | (refine j_keep [0, 1, 2, 3] ?_
                   refine ih (a + 1) _ (by omega) (by omega) (by omega) ?_
                   rw [hs, ← h3]
                   rw [iv_f (fun z => by have := g4.mpr (fun j j0 j1 => z j j0 (by omega)); omega)])
            · refine j_aload_n G dX7_cells_29 rfl ?_
              refine j_iload_n G dX7_cells_30 rfl ?_
              refine j_iload G dX7_cells_31 rfl ?_
              refine j_iload_n G dX7_cells_33 rfl ?_
              refine j_cVI G cvX7_areInOne ml7_197 (c_X7_areInOne hi hS hRL hW hk hc hq) dX7_cells_34 ⟨by decide, by decide⟩ ⟨by decide, by decide⟩ rfl rfl (Nat.le_of_ble_eq_true rfl) (by first | assumption | decide) rfl rfl rfl (fun r34 h34 => ?_)
              have h34' : (r34 = 0 ∨ r34 = 1) ∧ (r34 = 0 → ¬ sameC S (LV (S 0 0 5) q) c a) ∧ (r34 = 1 → sameC S (LV (S 0 0 5) q) c a) := by
                rcases h34 with z | z
                · exact ⟨Or.inr z.1, fun y => by omega, fun _ => sameC_sym.mp z.2⟩
                · exact ⟨Or.inl z.1, fun _ y => z.2 (sameC_sym.mp y), fun y => by omega⟩
              clear h34
              refine j_if_ne G 44 dX7_cells_37 (by decide) (by omega) (fun c37 => ?_) (fun c37 => ?_)
              · refine j_iconst G dX7_cells_44 ?_
                refine j_istore G dX7_cells_45 (by decide) rfl ?_
                refine j_iinc G dX7_cells_47 rfl (by decide) rfl ?_
                refine j_goto G 18 dX7_cells_50 (by decide) ?_
                first
                | (refine ihm (c + 1) 1 hm1 hm2 hm3 (Or.inr rfl) ⟨fun _ j j0 j1 => ?_, fun _ => rfl⟩
                   by_cases e : j = c
                   · subst e; exact h34'.2.1 (by omega)
                   · exact g4.mp (by omega) j j0 (by omega))
                | (refine ihm (c + 1) 0 hm1 hm2 hm3 (Or.inl rfl) ⟨fun z => absurd z (by decide), fun z => ?_⟩
                   exact absurd (h34'.2.2 (by omega)) (z c g0 (by omega)))
              · refine j_iconst G dX7_cells_40 ?_
                refine j_goto G 45 dX7_cells_41 (by decide) ?_
                refine j_istore G dX7_cells_45 (by decide) rfl ?_
                refine j_iinc G dX7_cells_47 rfl (by decide) rfl ?_
                refine j_goto G 18 dX7_cells_50 (by decide) ?_
                first
                | (refine ihm (c + 1) 1 hm1 hm2 hm3 (Or.inr rfl) ⟨fun _ j j0 j1 => ?_, fun _ => rfl⟩
                   by_cases e : j = c
                   · subst e; exact h34'.2.1 (by omega)
                   · exact g4.mp (by omega) j j0 (by omega))
                | (refine ihm (c + 1) 0 hm1 hm2 hm3 (Or.inl rfl) ⟨fun z => absurd z (by decide), fun z => ?_⟩
                   exact absurd (h34'.2.2 (by omega)) (z c g0 (by omega)))
      refine j_iload_n G dX7_cells_4 rfl ?_
      refine j_aload_n G dX7_cells_5 rfl ?_
      refine gf_24_8 G dX7_cells_6 lf7_89 (by first | assumption | decide) ?_
      refine j_icmp_ge G 72 dX7_cells_9 (by decide) (by omega) (by omega) (fun c9 => ?_) (fun c9 => ?_)
      · exfalso; omega
      · refine j_iconst G dX7_cells_12 ?_
        refine j_istore G dX7_cells_13 (by decide) rfl ?_
        refine j_iconst G dX7_cells_15 ?_
        refine j_istore G dX7_cells_16 (by decide) rfl ?_
        exact inner _ 0 1 (by omega) (by omega) rfl (Or.inr rfl) ⟨fun _ j j0 j1 => by omega, fun _ => rfl⟩
  refine j_iconst G dX7_cells_0 ?_
  refine j_istore_n G dX7_cells_1 (by decide) rfl ?_
  refine j_iconst G dX7_cells_2 ?_
  refine j_istore_n G dX7_cells_3 (by decide) rfl ?_
  exact loop _ 0 0 (by omega) (by omega) rfl rfl
set_option maxRecDepth 100000 in
set_option maxHeartbeats 8000000 in
theorem c_X7_answers {l : Launch} {D : va_G} {cys : Nat → ClassId} {ad : Nat → Int → Nat} {L : List Nat} {g : Nat → va_E} {X : Int64} {Z : ZT} (hi : injA ad) {S : ZT} {q w : Int} (hS : RMZ S Z) (hW : WF S) (hq : 0 ≤ q ∧ q < 256) (hw : 0 ≤ w ∧ w < 256) : CM l D cys ad yX7_answers cX7_answers 5 (some .boolean) 1 22 0 0 [.ref (ad 24 0), .int (iI q), .int (iI w)] L g X Z (PI L g X Z (fun r => (r = 1 ∧ reachP (LV (S 0 0 5) q) (LV (S 0 0 5) w)) ∨ (r = 0 ∧ ¬ reachP (LV (S 0 0 5) q) (LV (S 0 0 5) w)))) := by
  refine cm_start hi (by decide +kernel) (Nat.le_of_ble_eq_true rfl) ?_
  intro p_ e_ s_ m_ args_ below_ meth_ c_ A_ Q_ hQ G hr hin
  have hn := hW.n
  have e1 := hS.a.1
  have hrd := reach_dg hn.1 hn.2 hq.1 hw.1
  have loop : ∀ (n : Nat) (a b : Int), 0 ≤ a → a ≤ S 0 0 5 → (S 0 0 5 - a).toNat = n → (b = 0 ∨ b = 1) → (b = 1 ↔ ∀ e, 0 ≤ e → e < a → dg (S 0 0 5) w e ≤ dg (S 0 0 5) q e) → JJ p_ l e_ { frames := 1, cells := 0, slots := 0, locals := 22 } s_ m_ args_ below_ meth_ c_ D cys ad A_ Q_ 5 0 0 L g X Z 5 [(0, .ref (ad 24 0)), (1, .int (iI q)), (2, .int (iI w)), (3, .int (iI b)), (4, .int (iI a))] [] := by
    intro n
    induction n with
    | zero =>
      intro a b h0 h1 h2 h3 h4
      have ea : a = S 0 0 5 := by omega
      subst ea
      refine j_iload G dX7_answers_5 rfl ?_
      refine j_aload_n G dX7_answers_7 rfl ?_
      refine gf_24_1 G dX7_answers_8 lf7_56 (by first | assumption | decide) ?_
      refine j_icmp_ge G 45 dX7_answers_11 (by decide) (by omega) (by omega) (fun c11 => ?_) (fun c11 => ?_)
      · refine j_iload_n G dX7_answers_45 rfl ?_
        refine jr_B G hQ hr dX7_answers_46 (by decide) (by decide) (by omega) ?_
        rw [hrd]
        rcases h3 with z | z
        · exact Or.inr ⟨z, fun y => by have := h4.mpr y; omega⟩
        · exact Or.inl ⟨z, h4.mp z⟩
      · exfalso; omega
    | succ n ih =>
      intro a b h0 h1 h2 h3 h4
      have hda : 0 ≤ a ∧ a < S 0 0 5 := by omega
      have hg1 := dg_in (S 0 0 5) q a
      have hg2 := dg_in (S 0 0 5) w a
      have hh1 : 0 ≤ a + 1 := by omega
      have hh2 : a + 1 ≤ S 0 0 5 := by omega
      have hh3 : (S 0 0 5 - (a + 1)).toNat = n := by omega
      have hstep := fun c => all_step (P := fun e => dg (S 0 0 5) w e ≤ dg (S 0 0 5) q e) (b := b) (c := c) h0 h4
      refine j_iload G dX7_answers_5 rfl ?_
      refine j_aload_n G dX7_answers_7 rfl ?_
      refine gf_24_1 G dX7_answers_8 lf7_56 (by first | assumption | decide) ?_
      refine j_icmp_ge G 45 dX7_answers_11 (by decide) (by omega) (by omega) (fun c11 => ?_) (fun c11 => ?_)
      · exfalso; omega
      · refine j_iload_n G dX7_answers_14 rfl ?_
        refine j_aload_n G dX7_answers_15 rfl ?_
        refine j_iload_n G dX7_answers_16 rfl ?_
        refine j_iload G dX7_answers_17 rfl ?_
        refine j_cVI G cvX7_digit ml7_190 (c_X7_digit hi hS hW hq hda) dX7_answers_19 ⟨by decide, by decide⟩ ⟨by decide, by decide⟩ rfl rfl (Nat.le_of_ble_eq_true rfl) (by first | assumption | decide) rfl rfl rfl (fun r19 h19 => ?_)
        subst h19
        refine j_aload_n G dX7_answers_22 rfl ?_
        refine j_iload_n G dX7_answers_23 rfl ?_
        refine j_iload G dX7_answers_24 rfl ?_
        refine j_cVI G cvX7_digit ml7_190 (c_X7_digit hi hS hW hw hda) dX7_answers_26 ⟨by decide, by decide⟩ ⟨by decide, by decide⟩ rfl rfl (Nat.le_of_ble_eq_true rfl) (by first | assumption | decide) rfl rfl rfl (fun r26 h26 => ?_)
        subst h26
        refine j_icmp_lt G 36 dX7_answers_29 (by decide) (by omega) (by omega) (fun c29 => ?_) (fun c29 => ?_)
        · refine j_iconst G dX7_answers_36 ?_
          refine j_iand G dX7_answers_37 (and_01 h3 (by decide)) ?_
          refine j_istore_n G dX7_answers_38 (by decide) rfl ?_
          refine j_iinc G dX7_answers_39 rfl (by decide) rfl ?_
          refine j_goto G 5 dX7_answers_42 (by decide) ?_
          refine ih (a + 1) _ hh1 hh2 hh3 if_01 (hstep _ ?_)
          first
          | exact ⟨fun _ => by assumption, fun _ => rfl⟩
          | exact ⟨fun z => absurd z (by decide), fun z => by omega⟩
        · refine j_iconst G dX7_answers_32 ?_
          refine j_goto G 37 dX7_answers_33 (by decide) ?_
          refine j_iand G dX7_answers_37 (and_01 h3 (by decide)) ?_
          refine j_istore_n G dX7_answers_38 (by decide) rfl ?_
          refine j_iinc G dX7_answers_39 rfl (by decide) rfl ?_
          refine j_goto G 5 dX7_answers_42 (by decide) ?_
          refine ih (a + 1) _ hh1 hh2 hh3 if_01 (hstep _ ?_)
          first
          | exact ⟨fun _ => by assumption, fun _ => rfl⟩
          | exact ⟨fun z => absurd z (by decide), fun z => by omega⟩
  refine j_iconst G dX7_answers_0 ?_
  refine j_istore_n G dX7_answers_1 (by decide) rfl ?_
  refine j_iconst G dX7_answers_2 ?_
  refine j_istore G dX7_answers_3 (by decide) rfl ?_
  exact loop _ 0 1 (by omega) (by omega) rfl (Or.inr rfl) ⟨fun _ e e0 e1 => by omega, fun _ => rfl⟩
set_option maxRecDepth 100000 in
set_option maxHeartbeats 8000000 in
theorem c_X7_areLevels {l : Launch} {D : va_G} {cys : Nat → ClassId} {ad : Nat → Int → Nat} {L : List Nat} {g : Nat → va_E} {X : Int64} {Z : ZT} (hi : injA ad) {S : ZT} {q : Int} (hS : RMZ S Z) (hW : WF S) (hq : 0 ≤ q ∧ q < 256) : CM l D cys ad yX7_areLevels cX7_areLevels 4 (some .boolean) 1 22 0 0 [.ref (ad 24 0), .int (iI q)] L g X Z (PI L g X Z (fun r => (r = 1 ∧ LOK S (LV (S 0 0 5) q)) ∨ (r = 0 ∧ ¬ LOK S (LV (S 0 0 5) q)))) := by
  refine cm_start hi (by decide +kernel) (Nat.le_of_ble_eq_true rfl) ?_
  intro p_ e_ s_ m_ args_ below_ meth_ c_ A_ Q_ hQ G hr hin
  have hn := hW.n
  have e1 := hS.a.1
  have hrd := LOK_dg hW hq.1
  have hp4 := pow4_in hn.1 hn.2
  have loop : ∀ (n : Nat) (a b : Int), 0 ≤ a → a ≤ S 0 0 5 → (S 0 0 5 - a).toNat = n → (b = 0 ∨ b = 1) → (b = 1 ↔ ∀ e, 0 ≤ e → e < a → dg (S 0 0 5) q e ≤ S 2 e 3) → JJ p_ l e_ { frames := 1, cells := 0, slots := 0, locals := 22 } s_ m_ args_ below_ meth_ c_ D cys ad A_ Q_ 4 0 0 L g X Z 4 [(0, .ref (ad 24 0)), (1, .int (iI q)), (2, .int (iI b)), (3, .int (iI a))] [] := by
    intro n
    induction n with
    | zero =>
      intro a b h0 h1 h2 h3 h4
      have ea : a = S 0 0 5 := by omega
      subst ea
      have hi4 : inR (4 ^ (S 0 0 5).toNat) := by omega
      refine j_iload_n G dX7_areLevels_4 rfl ?_
      refine j_aload_n G dX7_areLevels_5 rfl ?_
      refine gf_24_1 G dX7_areLevels_6 lf7_56 (by first | assumption | decide) ?_
      refine j_icmp_ge G 41 dX7_areLevels_9 (by decide) (by omega) (by omega) (fun c9 => ?_) (fun c9 => ?_)
      · refine j_iload_n G dX7_areLevels_41 rfl ?_
        refine j_if_eq G 61 dX7_areLevels_42 (by decide) (by omega) (fun c42 => ?_) (fun c42 => ?_)
        · refine j_iconst G dX7_areLevels_61 ?_
          refine jr_B G hQ hr dX7_areLevels_62 (by decide) (by decide) (by omega) ?_
          rw [hrd]
          first
          | exact Or.inl ⟨rfl, h4.mp (by omega), by assumption⟩
          | exact Or.inr ⟨rfl, fun y => by have := h4.mpr y.1; omega⟩
          | exact Or.inr ⟨rfl, fun y => by have := y.2; omega⟩
        · refine j_iload_n G dX7_areLevels_45 rfl ?_
          refine j_iconst G dX7_areLevels_46 ?_
          refine j_iconst G dX7_areLevels_47 ?_
          refine j_aload_n G dX7_areLevels_48 rfl ?_
          refine gf_24_1 G dX7_areLevels_49 lf7_56 (by first | assumption | decide) ?_
          refine j_imul G dX7_areLevels_52 ?_
          rw [e1]
          refine j_ishl G dX7_areLevels_53 (shl_4 hn.1 hn.2) ?_
          refine j_icmp_ge G 61 dX7_areLevels_54 (by decide) (by omega) (by omega) (fun c54 => ?_) (fun c54 => ?_)
          · refine j_iconst G dX7_areLevels_61 ?_
            refine jr_B G hQ hr dX7_areLevels_62 (by decide) (by decide) (by omega) ?_
            rw [hrd]
            first
            | exact Or.inl ⟨rfl, h4.mp (by omega), by assumption⟩
            | exact Or.inr ⟨rfl, fun y => by have := h4.mpr y.1; omega⟩
            | exact Or.inr ⟨rfl, fun y => by have := y.2; omega⟩
          · refine j_iconst G dX7_areLevels_57 ?_
            refine j_goto G 62 dX7_areLevels_58 (by decide) ?_
            refine jr_B G hQ hr dX7_areLevels_62 (by decide) (by decide) (by omega) ?_
            rw [hrd]
            first
            | exact Or.inl ⟨rfl, h4.mp (by omega), by assumption⟩
            | exact Or.inr ⟨rfl, fun y => by have := h4.mpr y.1; omega⟩
            | exact Or.inr ⟨rfl, fun y => by have := y.2; omega⟩
      · exfalso; omega
    | succ n ih =>
      intro a b h0 h1 h2 h3 h4
      have hda : 0 ≤ a ∧ a < S 0 0 5 := by omega
      have hg1 := dg_in (S 0 0 5) q a
      have e25 := (hS.d h0 (by omega)).1
      have hde := hW.deep h0 (by omega : a < 4)
      have hh1 : 0 ≤ a + 1 := by omega
      have hh2 : a + 1 ≤ S 0 0 5 := by omega
      have hh3 : (S 0 0 5 - (a + 1)).toNat = n := by omega
      have hstep := fun c => all_step (P := fun e => dg (S 0 0 5) q e ≤ S 2 e 3) (b := b) (c := c) h0 h4
      refine j_iload_n G dX7_areLevels_4 rfl ?_
      refine j_aload_n G dX7_areLevels_5 rfl ?_
      refine gf_24_1 G dX7_areLevels_6 lf7_56 (by first | assumption | decide) ?_
      refine j_icmp_ge G 41 dX7_areLevels_9 (by decide) (by omega) (by omega) (fun c9 => ?_) (fun c9 => ?_)
      · exfalso; omega
      · refine j_iload_n G dX7_areLevels_12 rfl ?_
        refine j_aload_n G dX7_areLevels_13 rfl ?_
        refine j_iload_n G dX7_areLevels_14 rfl ?_
        refine j_iload_n G dX7_areLevels_15 rfl ?_
        refine j_cVI G cvX7_digit ml7_190 (c_X7_digit hi hS hW hq hda) dX7_areLevels_16 ⟨by decide, by decide⟩ ⟨by decide, by decide⟩ rfl rfl (Nat.le_of_ble_eq_true rfl) (by first | assumption | decide) rfl rfl rfl (fun r16 h16 => ?_)
        subst h16
        refine j_aload_n G dX7_areLevels_19 rfl ?_
        refine gf_24_2 G dX7_areLevels_20 lf7_9 (by first | assumption | decide) ?_
        refine j_iload_n G dX7_areLevels_23 rfl ?_
        refine al_25 G dX7_areLevels_24 (by first | assumption | decide) (by omega) (by omega) ?_
        rw [e25]
        refine j_icmp_gt G 32 dX7_areLevels_25 (by decide) (by omega) (by omega) (fun c25 => ?_) (fun c25 => ?_)
        · refine j_iconst G dX7_areLevels_32 ?_
          refine j_iand G dX7_areLevels_33 (and_01 h3 (by decide)) ?_
          refine j_istore_n G dX7_areLevels_34 (by decide) rfl ?_
          refine j_iinc G dX7_areLevels_35 rfl (by decide) rfl ?_
          refine j_goto G 4 dX7_areLevels_38 (by decide) ?_
          refine ih (a + 1) _ hh1 hh2 hh3 if_01 (hstep _ ?_)
          first
          | exact ⟨fun _ => by assumption, fun _ => rfl⟩
          | exact ⟨fun z => absurd z (by decide), fun z => by omega⟩
        · refine j_iconst G dX7_areLevels_28 ?_
          refine j_goto G 33 dX7_areLevels_29 (by decide) ?_
          refine j_iand G dX7_areLevels_33 (and_01 h3 (by decide)) ?_
          refine j_istore_n G dX7_areLevels_34 (by decide) rfl ?_
          refine j_iinc G dX7_areLevels_35 rfl (by decide) rfl ?_
          refine j_goto G 4 dX7_areLevels_38 (by decide) ?_
          refine ih (a + 1) _ hh1 hh2 hh3 if_01 (hstep _ ?_)
          first
          | exact ⟨fun _ => by assumption, fun _ => rfl⟩
          | exact ⟨fun z => absurd z (by decide), fun z => by omega⟩
  refine j_iconst G dX7_areLevels_0 ?_
  refine j_istore_n G dX7_areLevels_1 (by decide) rfl ?_
  refine j_iconst G dX7_areLevels_2 ?_
  refine j_istore_n G dX7_areLevels_3 (by decide) rfl ?_
  exact loop _ 0 1 (by omega) (by omega) rfl (Or.inr rfl) ⟨fun _ e e0 e1 => by omega, fun _ => rfl⟩

