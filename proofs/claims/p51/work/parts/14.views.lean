theorem dX6_isSeen_0 : decode cX6_isSeen 0 = .ok (.iconst 0, 1) := by decide +kernel
theorem dX6_isSeen_1 : decode cX6_isSeen 1 = .ok (.istore_n 2, 1) := by decide +kernel
theorem dX6_isSeen_2 : decode cX6_isSeen 2 = .ok (.iload_n 2, 1) := by decide +kernel
theorem dX6_isSeen_3 : decode cX6_isSeen 3 = .ok (.aload_n 0, 1) := by decide +kernel
theorem dX6_isSeen_4 : decode cX6_isSeen 4 = .ok (.getfield 66, 3) := by decide +kernel
theorem dX6_isSeen_7 : decode cX6_isSeen 7 = .ok (.if_icmp .ge 34, 3) := by decide +kernel
theorem dX6_isSeen_10 : decode cX6_isSeen 10 = .ok (.aload_n 0, 1) := by decide +kernel
theorem dX6_isSeen_11 : decode cX6_isSeen 11 = .ok (.getfield 11, 3) := by decide +kernel
theorem dX6_isSeen_14 : decode cX6_isSeen 14 = .ok (.iload_n 2, 1) := by decide +kernel
theorem dX6_isSeen_15 : decode cX6_isSeen 15 = .ok (.aaload, 1) := by decide +kernel
theorem dX6_isSeen_16 : decode cX6_isSeen 16 = .ok (.aload_n 0, 1) := by decide +kernel
theorem dX6_isSeen_17 : decode cX6_isSeen 17 = .ok (.getfield 18, 3) := by decide +kernel
theorem dX6_isSeen_20 : decode cX6_isSeen 20 = .ok (.getfield 166, 3) := by decide +kernel
theorem dX6_isSeen_23 : decode cX6_isSeen 23 = .ok (.iload_n 2, 1) := by decide +kernel
theorem dX6_isSeen_24 : decode cX6_isSeen 24 = .ok (.aaload, 1) := by decide +kernel
theorem dX6_isSeen_25 : decode cX6_isSeen 25 = .ok (.iload_n 1, 1) := by decide +kernel
theorem dX6_isSeen_26 : decode cX6_isSeen 26 = .ok (.iaload, 1) := by decide +kernel
theorem dX6_isSeen_27 : decode cX6_isSeen 27 = .ok (.invokevirtual 330, 3) := by decide +kernel
theorem dX6_isSeen_30 : decode cX6_isSeen 30 = .ok (.ifCond .ne 5, 3) := by decide +kernel
theorem dX6_isSeen_33 : decode cX6_isSeen 33 = .ok (.iconst 0, 1) := by decide +kernel
theorem dX6_isSeen_34 : decode cX6_isSeen 34 = .ok (.ireturn, 1) := by decide +kernel
theorem dX6_isSeen_35 : decode cX6_isSeen 35 = .ok (.iinc 2 1, 3) := by decide +kernel
theorem dX6_isSeen_38 : decode cX6_isSeen 38 = .ok (.goto (-36), 3) := by decide +kernel
theorem dX6_isSeen_41 : decode cX6_isSeen 41 = .ok (.iconst 1, 1) := by decide +kernel
theorem dX6_isSeen_42 : decode cX6_isSeen 42 = .ok (.ireturn, 1) := by decide +kernel
theorem dX6_isPointOfLeaves_0 : decode cX6_isPointOfLeaves 0 = .ok (.iconst 0, 1) := by decide +kernel
theorem dX6_isPointOfLeaves_1 : decode cX6_isPointOfLeaves 1 = .ok (.istore_n 1, 1) := by decide +kernel
theorem dX6_isPointOfLeaves_2 : decode cX6_isPointOfLeaves 2 = .ok (.iload_n 1, 1) := by decide +kernel
theorem dX6_isPointOfLeaves_3 : decode cX6_isPointOfLeaves 3 = .ok (.aload_n 0, 1) := by decide +kernel
theorem dX6_isPointOfLeaves_4 : decode cX6_isPointOfLeaves 4 = .ok (.getfield 66, 3) := by decide +kernel
theorem dX6_isPointOfLeaves_7 : decode cX6_isPointOfLeaves 7 = .ok (.if_icmp .ge 32, 3) := by decide +kernel
theorem dX6_isPointOfLeaves_10 : decode cX6_isPointOfLeaves 10 = .ok (.aload_n 0, 1) := by decide +kernel
theorem dX6_isPointOfLeaves_11 : decode cX6_isPointOfLeaves 11 = .ok (.getfield 11, 3) := by decide +kernel
theorem dX6_isPointOfLeaves_14 : decode cX6_isPointOfLeaves 14 = .ok (.iload_n 1, 1) := by decide +kernel
theorem dX6_isPointOfLeaves_15 : decode cX6_isPointOfLeaves 15 = .ok (.aaload, 1) := by decide +kernel
theorem dX6_isPointOfLeaves_16 : decode cX6_isPointOfLeaves 16 = .ok (.aload_n 0, 1) := by decide +kernel
theorem dX6_isPointOfLeaves_17 : decode cX6_isPointOfLeaves 17 = .ok (.getfield 11, 3) := by decide +kernel
theorem dX6_isPointOfLeaves_20 : decode cX6_isPointOfLeaves 20 = .ok (.iload_n 1, 1) := by decide +kernel
theorem dX6_isPointOfLeaves_21 : decode cX6_isPointOfLeaves 21 = .ok (.aaload, 1) := by decide +kernel
theorem dX6_isPointOfLeaves_22 : decode cX6_isPointOfLeaves 22 = .ok (.getfield 150, 3) := by decide +kernel
theorem dX6_isPointOfLeaves_25 : decode cX6_isPointOfLeaves 25 = .ok (.invokevirtual 86, 3) := by decide +kernel
theorem dX6_isPointOfLeaves_28 : decode cX6_isPointOfLeaves 28 = .ok (.ifCond .ne 5, 3) := by decide +kernel
theorem dX6_isPointOfLeaves_31 : decode cX6_isPointOfLeaves 31 = .ok (.iconst 0, 1) := by decide +kernel
theorem dX6_isPointOfLeaves_32 : decode cX6_isPointOfLeaves 32 = .ok (.ireturn, 1) := by decide +kernel
theorem dX6_isPointOfLeaves_33 : decode cX6_isPointOfLeaves 33 = .ok (.iinc 1 1, 3) := by decide +kernel
theorem dX6_isPointOfLeaves_36 : decode cX6_isPointOfLeaves 36 = .ok (.goto (-34), 3) := by decide +kernel
theorem dX6_isPointOfLeaves_39 : decode cX6_isPointOfLeaves 39 = .ok (.aload_n 0, 1) := by decide +kernel
theorem dX6_isPointOfLeaves_40 : decode cX6_isPointOfLeaves 40 = .ok (.getfield 66, 3) := by decide +kernel
theorem dX6_isPointOfLeaves_43 : decode cX6_isPointOfLeaves 43 = .ok (.ifCond .le 7, 3) := by decide +kernel
theorem dX6_isPointOfLeaves_46 : decode cX6_isPointOfLeaves 46 = .ok (.iconst 1, 1) := by decide +kernel
theorem dX6_isPointOfLeaves_47 : decode cX6_isPointOfLeaves 47 = .ok (.goto 4, 3) := by decide +kernel
theorem dX6_isPointOfLeaves_50 : decode cX6_isPointOfLeaves 50 = .ok (.iconst 0, 1) := by decide +kernel
theorem dX6_isPointOfLeaves_51 : decode cX6_isPointOfLeaves 51 = .ok (.ireturn, 1) := by decide +kernel
theorem dX6_bitsBehind_0 : decode cX6_bitsBehind 0 = .ok (.iconst 3, 1) := by decide +kernel
theorem dX6_bitsBehind_1 : decode cX6_bitsBehind 1 = .ok (.iload_n 0, 1) := by decide +kernel
theorem dX6_bitsBehind_2 : decode cX6_bitsBehind 2 = .ok (.isub, 1) := by decide +kernel
theorem dX6_bitsBehind_3 : decode cX6_bitsBehind 3 = .ok (.iconst 2, 1) := by decide +kernel
theorem dX6_bitsBehind_4 : decode cX6_bitsBehind 4 = .ok (.imul, 1) := by decide +kernel
theorem dX6_bitsBehind_5 : decode cX6_bitsBehind 5 = .ok (.ireturn, 1) := by decide +kernel
theorem dX6_levelIn_0 : decode cX6_levelIn 0 = .ok (.iload_n 0, 1) := by decide +kernel
theorem dX6_levelIn_1 : decode cX6_levelIn 1 = .ok (.iload_n 1, 1) := by decide +kernel
theorem dX6_levelIn_2 : decode cX6_levelIn 2 = .ok (.invokestatic 255, 3) := by decide +kernel
theorem dX6_levelIn_5 : decode cX6_levelIn 5 = .ok (.ishr, 1) := by decide +kernel
theorem dX6_levelIn_6 : decode cX6_levelIn 6 = .ok (.iconst 3, 1) := by decide +kernel
theorem dX6_levelIn_7 : decode cX6_levelIn 7 = .ok (.iand, 1) := by decide +kernel
theorem dX6_levelIn_8 : decode cX6_levelIn 8 = .ok (.ireturn, 1) := by decide +kernel
theorem dX6_reach_0 : decode cX6_reach 0 = .ok (.iconst 3, 1) := by decide +kernel
theorem dX6_reach_1 : decode cX6_reach 1 = .ok (.istore_n 2, 1) := by decide +kernel
theorem dX6_reach_2 : decode cX6_reach 2 = .ok (.iload_n 2, 1) := by decide +kernel
theorem dX6_reach_3 : decode cX6_reach 3 = .ok (.sipush 256, 3) := by decide +kernel
theorem dX6_reach_6 : decode cX6_reach 6 = .ok (.if_icmp .ge 21, 3) := by decide +kernel
theorem dX6_reach_9 : decode cX6_reach 9 = .ok (.iload_n 0, 1) := by decide +kernel
theorem dX6_reach_10 : decode cX6_reach 10 = .ok (.iload_n 2, 1) := by decide +kernel
theorem dX6_reach_11 : decode cX6_reach 11 = .ok (.iand, 1) := by decide +kernel
theorem dX6_reach_12 : decode cX6_reach 12 = .ok (.iload_n 1, 1) := by decide +kernel
theorem dX6_reach_13 : decode cX6_reach 13 = .ok (.iload_n 2, 1) := by decide +kernel
theorem dX6_reach_14 : decode cX6_reach 14 = .ok (.iand, 1) := by decide +kernel
theorem dX6_reach_15 : decode cX6_reach 15 = .ok (.if_icmp .ge 5, 3) := by decide +kernel
theorem dX6_reach_18 : decode cX6_reach 18 = .ok (.iconst 0, 1) := by decide +kernel
theorem dX6_reach_19 : decode cX6_reach 19 = .ok (.ireturn, 1) := by decide +kernel
theorem dX6_reach_20 : decode cX6_reach 20 = .ok (.iload_n 2, 1) := by decide +kernel
theorem dX6_reach_21 : decode cX6_reach 21 = .ok (.iconst 2, 1) := by decide +kernel
theorem dX6_reach_22 : decode cX6_reach 22 = .ok (.ishl, 1) := by decide +kernel
theorem dX6_reach_23 : decode cX6_reach 23 = .ok (.istore_n 2, 1) := by decide +kernel
theorem dX6_reach_24 : decode cX6_reach 24 = .ok (.goto (-22), 3) := by decide +kernel
theorem dX6_reach_27 : decode cX6_reach 27 = .ok (.iconst 1, 1) := by decide +kernel
theorem dX6_reach_28 : decode cX6_reach 28 = .ok (.ireturn, 1) := by decide +kernel
theorem dX6_areLevels_0 : decode cX6_areLevels 0 = .ok (.iconst 0, 1) := by decide +kernel
theorem dX6_areLevels_1 : decode cX6_areLevels 1 = .ok (.istore_n 2, 1) := by decide +kernel
theorem dX6_areLevels_2 : decode cX6_areLevels 2 = .ok (.iload_n 2, 1) := by decide +kernel
theorem dX6_areLevels_3 : decode cX6_areLevels 3 = .ok (.iconst 4, 1) := by decide +kernel
theorem dX6_areLevels_4 : decode cX6_areLevels 4 = .ok (.if_icmp .ge 28, 3) := by decide +kernel
theorem dX6_areLevels_7 : decode cX6_areLevels 7 = .ok (.iload_n 1, 1) := by decide +kernel
theorem dX6_areLevels_8 : decode cX6_areLevels 8 = .ok (.iload_n 2, 1) := by decide +kernel
theorem dX6_areLevels_9 : decode cX6_areLevels 9 = .ok (.invokestatic 252, 3) := by decide +kernel
theorem dX6_areLevels_12 : decode cX6_areLevels 12 = .ok (.aload_n 0, 1) := by decide +kernel
theorem dX6_areLevels_13 : decode cX6_areLevels 13 = .ok (.getfield 11, 3) := by decide +kernel
theorem dX6_areLevels_16 : decode cX6_areLevels 16 = .ok (.iload_n 2, 1) := by decide +kernel
theorem dX6_areLevels_17 : decode cX6_areLevels 17 = .ok (.aaload, 1) := by decide +kernel
theorem dX6_areLevels_18 : decode cX6_areLevels 18 = .ok (.getfield 322, 3) := by decide +kernel
theorem dX6_areLevels_21 : decode cX6_areLevels 21 = .ok (.if_icmp .le 5, 3) := by decide +kernel
theorem dX6_areLevels_24 : decode cX6_areLevels 24 = .ok (.iconst 0, 1) := by decide +kernel
theorem dX6_areLevels_25 : decode cX6_areLevels 25 = .ok (.ireturn, 1) := by decide +kernel
theorem dX6_areLevels_26 : decode cX6_areLevels 26 = .ok (.iinc 2 1, 3) := by decide +kernel
theorem dX6_areLevels_29 : decode cX6_areLevels 29 = .ok (.goto (-27), 3) := by decide +kernel
theorem dX6_areLevels_32 : decode cX6_areLevels 32 = .ok (.iconst 1, 1) := by decide +kernel
theorem dX6_areLevels_33 : decode cX6_areLevels 33 = .ok (.ireturn, 1) := by decide +kernel
theorem dX6_cellAround_0 : decode cX6_cellAround 0 = .ok (.iconst 0, 1) := by decide +kernel
theorem dX6_cellAround_1 : decode cX6_cellAround 1 = .ok (.istore_n 3, 1) := by decide +kernel
theorem dX6_cellAround_2 : decode cX6_cellAround 2 = .ok (.iconst 0, 1) := by decide +kernel
theorem dX6_cellAround_3 : decode cX6_cellAround 3 = .ok (.istore 4, 2) := by decide +kernel
theorem dX6_cellAround_5 : decode cX6_cellAround 5 = .ok (.iload 4, 2) := by decide +kernel
theorem dX6_cellAround_7 : decode cX6_cellAround 7 = .ok (.aload_n 0, 1) := by decide +kernel
theorem dX6_cellAround_8 : decode cX6_cellAround 8 = .ok (.getfield 66, 3) := by decide +kernel
theorem dX6_cellAround_11 : decode cX6_cellAround 11 = .ok (.if_icmp .ge 47, 3) := by decide +kernel
theorem dX6_cellAround_14 : decode cX6_cellAround 14 = .ok (.aload_n 0, 1) := by decide +kernel
theorem dX6_cellAround_15 : decode cX6_cellAround 15 = .ok (.getfield 18, 3) := by decide +kernel
theorem dX6_cellAround_18 : decode cX6_cellAround 18 = .ok (.getfield 166, 3) := by decide +kernel
theorem dX6_cellAround_21 : decode cX6_cellAround 21 = .ok (.iload 4, 2) := by decide +kernel
theorem dX6_cellAround_23 : decode cX6_cellAround 23 = .ok (.aaload, 1) := by decide +kernel
theorem dX6_cellAround_24 : decode cX6_cellAround 24 = .ok (.iload_n 1, 1) := by decide +kernel
theorem dX6_cellAround_25 : decode cX6_cellAround 25 = .ok (.iaload, 1) := by decide +kernel
theorem dX6_cellAround_26 : decode cX6_cellAround 26 = .ok (.istore 5, 2) := by decide +kernel
theorem dX6_cellAround_28 : decode cX6_cellAround 28 = .ok (.iload_n 3, 1) := by decide +kernel
theorem dX6_cellAround_29 : decode cX6_cellAround 29 = .ok (.bipush 24, 2) := by decide +kernel
theorem dX6_cellAround_31 : decode cX6_cellAround 31 = .ok (.imul, 1) := by decide +kernel
theorem dX6_cellAround_32 : decode cX6_cellAround 32 = .ok (.aload_n 0, 1) := by decide +kernel
theorem dX6_cellAround_33 : decode cX6_cellAround 33 = .ok (.getfield 11, 3) := by decide +kernel
theorem dX6_cellAround_36 : decode cX6_cellAround 36 = .ok (.iload 4, 2) := by decide +kernel
theorem dX6_cellAround_38 : decode cX6_cellAround 38 = .ok (.aaload, 1) := by decide +kernel
theorem dX6_cellAround_39 : decode cX6_cellAround 39 = .ok (.iload 5, 2) := by decide +kernel
theorem dX6_cellAround_41 : decode cX6_cellAround 41 = .ok (.iload_n 2, 1) := by decide +kernel
theorem dX6_cellAround_42 : decode cX6_cellAround 42 = .ok (.iload 4, 2) := by decide +kernel
theorem dX6_cellAround_44 : decode cX6_cellAround 44 = .ok (.invokestatic 252, 3) := by decide +kernel
theorem dX6_cellAround_47 : decode cX6_cellAround 47 = .ok (.invokevirtual 334, 3) := by decide +kernel
theorem dX6_cellAround_50 : decode cX6_cellAround 50 = .ok (.iadd, 1) := by decide +kernel
theorem dX6_cellAround_51 : decode cX6_cellAround 51 = .ok (.istore_n 3, 1) := by decide +kernel
theorem dX6_cellAround_52 : decode cX6_cellAround 52 = .ok (.iinc 4 1, 3) := by decide +kernel
theorem dX6_cellAround_55 : decode cX6_cellAround 55 = .ok (.goto (-50), 3) := by decide +kernel
theorem dX6_cellAround_58 : decode cX6_cellAround 58 = .ok (.iload_n 3, 1) := by decide +kernel
theorem dX6_cellAround_59 : decode cX6_cellAround 59 = .ok (.ireturn, 1) := by decide +kernel
theorem dX6_cellsOf_0 : decode cX6_cellsOf 0 = .ok (.iconst 0, 1) := by decide +kernel
theorem dX6_cellsOf_1 : decode cX6_cellsOf 1 = .ok (.istore_n 2, 1) := by decide +kernel
theorem dX6_cellsOf_2 : decode cX6_cellsOf 2 = .ok (.iconst 0, 1) := by decide +kernel
theorem dX6_cellsOf_3 : decode cX6_cellsOf 3 = .ok (.istore_n 3, 1) := by decide +kernel
theorem dX6_cellsOf_4 : decode cX6_cellsOf 4 = .ok (.iload_n 3, 1) := by decide +kernel
theorem dX6_cellsOf_5 : decode cX6_cellsOf 5 = .ok (.aload_n 0, 1) := by decide +kernel
theorem dX6_cellsOf_6 : decode cX6_cellsOf 6 = .ok (.getfield 18, 3) := by decide +kernel
theorem dX6_cellsOf_9 : decode cX6_cellsOf 9 = .ok (.getfield 160, 3) := by decide +kernel
theorem dX6_cellsOf_12 : decode cX6_cellsOf 12 = .ok (.if_icmp .ge 38, 3) := by decide +kernel
theorem dX6_cellsOf_15 : decode cX6_cellsOf 15 = .ok (.aload_n 0, 1) := by decide +kernel
theorem dX6_cellsOf_16 : decode cX6_cellsOf 16 = .ok (.getfield 18, 3) := by decide +kernel
theorem dX6_cellsOf_19 : decode cX6_cellsOf 19 = .ok (.getfield 377, 3) := by decide +kernel
theorem dX6_cellsOf_22 : decode cX6_cellsOf 22 = .ok (.iload_n 3, 1) := by decide +kernel
theorem dX6_cellsOf_23 : decode cX6_cellsOf 23 = .ok (.aload_n 0, 1) := by decide +kernel
theorem dX6_cellsOf_24 : decode cX6_cellsOf 24 = .ok (.iload_n 3, 1) := by decide +kernel
theorem dX6_cellsOf_25 : decode cX6_cellsOf 25 = .ok (.iload_n 1, 1) := by decide +kernel
theorem dX6_cellsOf_26 : decode cX6_cellsOf 26 = .ok (.invokevirtual 380, 3) := by decide +kernel
theorem dX6_cellsOf_29 : decode cX6_cellsOf 29 = .ok (.iastore, 1) := by decide +kernel
theorem dX6_cellsOf_30 : decode cX6_cellsOf 30 = .ok (.aload_n 0, 1) := by decide +kernel
theorem dX6_cellsOf_31 : decode cX6_cellsOf 31 = .ok (.getfield 18, 3) := by decide +kernel
theorem dX6_cellsOf_34 : decode cX6_cellsOf 34 = .ok (.iload_n 3, 1) := by decide +kernel
theorem dX6_cellsOf_35 : decode cX6_cellsOf 35 = .ok (.invokevirtual 383, 3) := by decide +kernel
theorem dX6_cellsOf_38 : decode cX6_cellsOf 38 = .ok (.ifCond .eq 6, 3) := by decide +kernel
theorem dX6_cellsOf_41 : decode cX6_cellsOf 41 = .ok (.iinc 2 1, 3) := by decide +kernel
theorem dX6_cellsOf_44 : decode cX6_cellsOf 44 = .ok (.iinc 3 1, 3) := by decide +kernel
theorem dX6_cellsOf_47 : decode cX6_cellsOf 47 = .ok (.goto (-43), 3) := by decide +kernel
theorem dX6_cellsOf_50 : decode cX6_cellsOf 50 = .ok (.iload_n 2, 1) := by decide +kernel
theorem dX6_cellsOf_51 : decode cX6_cellsOf 51 = .ok (.ireturn, 1) := by decide +kernel
theorem dX6_viewFor_0 : decode cX6_viewFor 0 = .ok (.iconst (-1), 1) := by decide +kernel
theorem dX6_viewFor_1 : decode cX6_viewFor 1 = .ok (.istore_n 2, 1) := by decide +kernel
theorem dX6_viewFor_2 : decode cX6_viewFor 2 = .ok (.aload_n 0, 1) := by decide +kernel
theorem dX6_viewFor_3 : decode cX6_viewFor 3 = .ok (.getfield 18, 3) := by decide +kernel
theorem dX6_viewFor_6 : decode cX6_viewFor 6 = .ok (.getfield 160, 3) := by decide +kernel
theorem dX6_viewFor_9 : decode cX6_viewFor 9 = .ok (.istore_n 3, 1) := by decide +kernel
theorem dX6_viewFor_10 : decode cX6_viewFor 10 = .ok (.iconst 0, 1) := by decide +kernel
theorem dX6_viewFor_11 : decode cX6_viewFor 11 = .ok (.istore 4, 2) := by decide +kernel
theorem dX6_viewFor_13 : decode cX6_viewFor 13 = .ok (.iload 4, 2) := by decide +kernel
theorem dX6_viewFor_15 : decode cX6_viewFor 15 = .ok (.aload_n 0, 1) := by decide +kernel
theorem dX6_viewFor_16 : decode cX6_viewFor 16 = .ok (.getfield 25, 3) := by decide +kernel
theorem dX6_viewFor_19 : decode cX6_viewFor 19 = .ok (.getfield 261, 3) := by decide +kernel
theorem dX6_viewFor_22 : decode cX6_viewFor 22 = .ok (.if_icmp .ge 67, 3) := by decide +kernel
theorem dX6_viewFor_25 : decode cX6_viewFor 25 = .ok (.aload_n 0, 1) := by decide +kernel
theorem dX6_viewFor_26 : decode cX6_viewFor 26 = .ok (.getfield 25, 3) := by decide +kernel
theorem dX6_viewFor_29 : decode cX6_viewFor 29 = .ok (.getfield 274, 3) := by decide +kernel
theorem dX6_viewFor_32 : decode cX6_viewFor 32 = .ok (.iload 4, 2) := by decide +kernel
theorem dX6_viewFor_34 : decode cX6_viewFor 34 = .ok (.iaload, 1) := by decide +kernel
theorem dX6_viewFor_35 : decode cX6_viewFor 35 = .ok (.iload_n 3, 1) := by decide +kernel
theorem dX6_viewFor_36 : decode cX6_viewFor 36 = .ok (.if_icmp .ge 47, 3) := by decide +kernel
theorem dX6_viewFor_39 : decode cX6_viewFor 39 = .ok (.aload_n 0, 1) := by decide +kernel
theorem dX6_viewFor_40 : decode cX6_viewFor 40 = .ok (.getfield 25, 3) := by decide +kernel
theorem dX6_viewFor_43 : decode cX6_viewFor 43 = .ok (.getfield 277, 3) := by decide +kernel
theorem dX6_viewFor_46 : decode cX6_viewFor 46 = .ok (.iload 4, 2) := by decide +kernel
theorem dX6_viewFor_48 : decode cX6_viewFor 48 = .ok (.baload, 1) := by decide +kernel
theorem dX6_viewFor_49 : decode cX6_viewFor 49 = .ok (.ifCond .ne 34, 3) := by decide +kernel
theorem dX6_viewFor_52 : decode cX6_viewFor 52 = .ok (.aload_n 0, 1) := by decide +kernel
theorem dX6_viewFor_53 : decode cX6_viewFor 53 = .ok (.getfield 25, 3) := by decide +kernel
theorem dX6_viewFor_56 : decode cX6_viewFor 56 = .ok (.getfield 264, 3) := by decide +kernel
theorem dX6_viewFor_59 : decode cX6_viewFor 59 = .ok (.iload 4, 2) := by decide +kernel
theorem dX6_viewFor_61 : decode cX6_viewFor 61 = .ok (.iaload, 1) := by decide +kernel
theorem dX6_viewFor_62 : decode cX6_viewFor 62 = .ok (.iload_n 1, 1) := by decide +kernel
theorem dX6_viewFor_63 : decode cX6_viewFor 63 = .ok (.invokestatic 389, 3) := by decide +kernel
theorem dX6_viewFor_66 : decode cX6_viewFor 66 = .ok (.ifCond .eq 17, 3) := by decide +kernel
theorem dX6_viewFor_69 : decode cX6_viewFor 69 = .ok (.iload 4, 2) := by decide +kernel
theorem dX6_viewFor_71 : decode cX6_viewFor 71 = .ok (.istore_n 2, 1) := by decide +kernel
theorem dX6_viewFor_72 : decode cX6_viewFor 72 = .ok (.aload_n 0, 1) := by decide +kernel
theorem dX6_viewFor_73 : decode cX6_viewFor 73 = .ok (.getfield 25, 3) := by decide +kernel
theorem dX6_viewFor_76 : decode cX6_viewFor 76 = .ok (.getfield 274, 3) := by decide +kernel
theorem dX6_viewFor_79 : decode cX6_viewFor 79 = .ok (.iload 4, 2) := by decide +kernel
theorem dX6_viewFor_81 : decode cX6_viewFor 81 = .ok (.iaload, 1) := by decide +kernel
theorem dX6_viewFor_82 : decode cX6_viewFor 82 = .ok (.istore_n 3, 1) := by decide +kernel
theorem dX6_viewFor_83 : decode cX6_viewFor 83 = .ok (.iinc 4 1, 3) := by decide +kernel
theorem dX6_viewFor_86 : decode cX6_viewFor 86 = .ok (.goto (-73), 3) := by decide +kernel
theorem dX6_viewFor_89 : decode cX6_viewFor 89 = .ok (.iload_n 2, 1) := by decide +kernel
theorem dX6_viewFor_90 : decode cX6_viewFor 90 = .ok (.ireturn, 1) := by decide +kernel
theorem dX6_costOf_0 : decode cX6_costOf 0 = .ok (.aload_n 0, 1) := by decide +kernel
theorem dX6_costOf_1 : decode cX6_costOf 1 = .ok (.iload_n 1, 1) := by decide +kernel
theorem dX6_costOf_2 : decode cX6_costOf 2 = .ok (.invokevirtual 283, 3) := by decide +kernel
theorem dX6_costOf_5 : decode cX6_costOf 5 = .ok (.istore_n 2, 1) := by decide +kernel
theorem dX6_costOf_6 : decode cX6_costOf 6 = .ok (.aload_n 0, 1) := by decide +kernel
theorem dX6_costOf_7 : decode cX6_costOf 7 = .ok (.getfield 25, 3) := by decide +kernel
theorem dX6_costOf_10 : decode cX6_costOf 10 = .ok (.iload_n 2, 1) := by decide +kernel
theorem dX6_costOf_11 : decode cX6_costOf 11 = .ok (.invokevirtual 386, 3) := by decide +kernel
theorem dX6_costOf_14 : decode cX6_costOf 14 = .ok (.ifCond .eq 15, 3) := by decide +kernel
theorem dX6_costOf_17 : decode cX6_costOf 17 = .ok (.aload_n 0, 1) := by decide +kernel
theorem dX6_costOf_18 : decode cX6_costOf 18 = .ok (.getfield 25, 3) := by decide +kernel
theorem dX6_costOf_21 : decode cX6_costOf 21 = .ok (.getfield 274, 3) := by decide +kernel
theorem dX6_costOf_24 : decode cX6_costOf 24 = .ok (.iload_n 2, 1) := by decide +kernel
theorem dX6_costOf_25 : decode cX6_costOf 25 = .ok (.iaload, 1) := by decide +kernel
theorem dX6_costOf_26 : decode cX6_costOf 26 = .ok (.goto 10, 3) := by decide +kernel
theorem dX6_costOf_29 : decode cX6_costOf 29 = .ok (.aload_n 0, 1) := by decide +kernel
theorem dX6_costOf_30 : decode cX6_costOf 30 = .ok (.getfield 18, 3) := by decide +kernel
theorem dX6_costOf_33 : decode cX6_costOf 33 = .ok (.getfield 160, 3) := by decide +kernel
theorem dX6_costOf_36 : decode cX6_costOf 36 = .ok (.ireturn, 1) := by decide +kernel
theorem dX6_gainOf_0 : decode cX6_gainOf 0 = .ok (.aload_n 0, 1) := by decide +kernel
theorem dX6_gainOf_1 : decode cX6_gainOf 1 = .ok (.iload_n 1, 1) := by decide +kernel
theorem dX6_gainOf_2 : decode cX6_gainOf 2 = .ok (.invokevirtual 258, 3) := by decide +kernel
theorem dX6_gainOf_5 : decode cX6_gainOf 5 = .ok (.istore_n 2, 1) := by decide +kernel
theorem dX6_gainOf_6 : decode cX6_gainOf 6 = .ok (.iconst 0, 1) := by decide +kernel
theorem dX6_gainOf_7 : decode cX6_gainOf 7 = .ok (.istore_n 3, 1) := by decide +kernel
theorem dX6_gainOf_8 : decode cX6_gainOf 8 = .ok (.iconst 0, 1) := by decide +kernel
theorem dX6_gainOf_9 : decode cX6_gainOf 9 = .ok (.istore 4, 2) := by decide +kernel
theorem dX6_gainOf_11 : decode cX6_gainOf 11 = .ok (.iload 4, 2) := by decide +kernel
theorem dX6_gainOf_13 : decode cX6_gainOf 13 = .ok (.iload_n 1, 1) := by decide +kernel
theorem dX6_gainOf_14 : decode cX6_gainOf 14 = .ok (.if_icmp .gt 33, 3) := by decide +kernel
theorem dX6_gainOf_17 : decode cX6_gainOf 17 = .ok (.iload_n 1, 1) := by decide +kernel
theorem dX6_gainOf_18 : decode cX6_gainOf 18 = .ok (.iload 4, 2) := by decide +kernel
theorem dX6_gainOf_20 : decode cX6_gainOf 20 = .ok (.invokestatic 389, 3) := by decide +kernel
theorem dX6_gainOf_23 : decode cX6_gainOf 23 = .ok (.ifCond .eq 18, 3) := by decide +kernel
theorem dX6_gainOf_26 : decode cX6_gainOf 26 = .ok (.iload_n 3, 1) := by decide +kernel
theorem dX6_gainOf_27 : decode cX6_gainOf 27 = .ok (.iconst 0, 1) := by decide +kernel
theorem dX6_gainOf_28 : decode cX6_gainOf 28 = .ok (.aload_n 0, 1) := by decide +kernel
theorem dX6_gainOf_29 : decode cX6_gainOf 29 = .ok (.iload 4, 2) := by decide +kernel
theorem dX6_gainOf_31 : decode cX6_gainOf 31 = .ok (.invokevirtual 280, 3) := by decide +kernel
theorem dX6_gainOf_34 : decode cX6_gainOf 34 = .ok (.iload_n 2, 1) := by decide +kernel
theorem dX6_gainOf_35 : decode cX6_gainOf 35 = .ok (.isub, 1) := by decide +kernel
theorem dX6_gainOf_36 : decode cX6_gainOf 36 = .ok (.invokestatic 393, 3) := by decide +kernel
theorem dX6_gainOf_39 : decode cX6_gainOf 39 = .ok (.iadd, 1) := by decide +kernel
theorem dX6_gainOf_40 : decode cX6_gainOf 40 = .ok (.istore_n 3, 1) := by decide +kernel
theorem dX6_gainOf_41 : decode cX6_gainOf 41 = .ok (.iinc 4 1, 3) := by decide +kernel
theorem dX6_gainOf_44 : decode cX6_gainOf 44 = .ok (.goto (-33), 3) := by decide +kernel
theorem dX6_gainOf_47 : decode cX6_gainOf 47 = .ok (.iload_n 3, 1) := by decide +kernel
theorem dX6_gainOf_48 : decode cX6_gainOf 48 = .ok (.ireturn, 1) := by decide +kernel
/-! by program: wip/whole/gen.py out of wip/whole/src/14.views.eb -/
/-! EbbTable: what is seen; levels, cells, costs -/
set_option maxRecDepth 100000 in
set_option maxHeartbeats 8000000 in
theorem c_X6_isSeen {l : Launch} {D : va_G} {cys : Nat → ClassId} {ad : Nat → Int → Nat} {L : List Nat} {g : Nat → va_E} {X : Int64} {Z : ZT} (hi : injA ad) {S : ZT} {k : Int} (hS : SP S Z) (hW : WF S) (hk : 0 ≤ k ∧ k < S 6 0 3) : CM l D cys ad yX6_isSeen cX6_isSeen 3 (some .boolean) 2 45 0 0 [.ref (ad 0 0), .int (iI k)] L g X Z (PI L g X Z (fun r => (r = 1 ∧ seen S k) ∨ (r = 0 ∧ ¬ seen S k))) := by
  refine cm_start hi (by decide +kernel) (Nat.le_of_ble_eq_true rfl) ?_
  intro p_ e_ s_ m_ args_ below_ meth_ c_ A_ Q_ hQ G hr hin
  have e0 := hS.1 0 rfl
  have e05 : Z 0 0 5 = S 0 0 5 := by rw [e0]
  have hn := hW.n
  have hf := hW.f
  have hfk := hW.fk hk.1 hk.2
  have loop : ∀ (n : Nat) (a : Int), 0 ≤ a → a ≤ S 0 0 5 → (S 0 0 5 - a).toNat = n → (∀ d, 0 ≤ d → d < a → seenT S d (S 8 d k)) → JJ p_ l e_ { frames := 2, cells := 0, slots := 0, locals := 45 } s_ m_ args_ below_ meth_ c_ D cys ad A_ Q_ 3 0 0 L g X Z 2 [(0, .ref (ad 0 0)), (1, .int (iI k)), (2, .int (iI a))] [] := by
    intro n
    induction n with
    | zero =>
      intro a h0 h1 h2 h3
      refine j_iload_n G dX6_isSeen_2 rfl ?_
      refine j_aload_n G dX6_isSeen_3 rfl ?_
      refine gf_0_5 G dX6_isSeen_4 lf6_66 (by first | assumption | decide) ?_
      refine j_icmp_ge G 41 dX6_isSeen_7 (by decide) (by omega) (by omega) (fun c7 => ?_) (fun c7 => ?_)
      · refine j_iconst G dX6_isSeen_41 ?_
        refine jr_B G hQ hr dX6_isSeen_42 (by decide) (by decide) (by omega) ?_
        exact Or.inl ⟨rfl, fun d d0 d1 => h3 d d0 (by omega)⟩
      · exfalso; omega
    | succ n ih =>
      intro a h0 h1 h2 h3
      have ht := hW.t h0 (by omega : a < S 0 0 5)
      have hte := TE.of hS a
      have hl := hfk.1 a h0 (by omega)
      have hTZ := hte.ok ht
      have hv2 : vd 2 a := ⟨h0, show a < 4 by omega⟩
      have hv8 : vd 8 a := ⟨h0, show a < 4 by omega⟩
      have e8 : Z 8 a k = S 8 a k := by rw [hS.1 8 rfl]
      have e24 : Z 2 a 4 = S 2 a 4 := by rw [hS.1 2 rfl]
      have hlz : 0 ≤ Z 8 a k ∧ Z 8 a k < Z 2 a 4 := by omega
      refine j_iload_n G dX6_isSeen_2 rfl ?_
      refine j_aload_n G dX6_isSeen_3 rfl ?_
      refine gf_0_5 G dX6_isSeen_4 lf6_66 (by first | assumption | decide) ?_
      refine j_icmp_ge G 41 dX6_isSeen_7 (by decide) (by omega) (by omega) (fun c7 => ?_) (fun c7 => ?_)
      · exfalso; omega
      · refine j_aload_n G dX6_isSeen_10 rfl ?_
        refine gf_0_0 G dX6_isSeen_11 lf6_11 (by first | assumption | decide) ?_
        refine j_iload_n G dX6_isSeen_14 rfl ?_
        refine al_1 G dX6_isSeen_15 (by first | assumption | decide) (by omega) (by omega) ?_
        refine j_aload_n G dX6_isSeen_16 rfl ?_
        refine gf_0_1 G dX6_isSeen_17 lf6_18 (by first | assumption | decide) ?_
        refine gf_6_0 G dX6_isSeen_20 lf6_166 (by first | assumption | decide) ?_
        refine j_iload_n G dX6_isSeen_23 rfl ?_
        refine al_7 G dX6_isSeen_24 (by first | assumption | decide) (by omega) (by omega) ?_
        refine j_iload_n G dX6_isSeen_25 rfl ?_
        refine al_8 G dX6_isSeen_26 (by first | assumption | decide) (by omega) (by omega) ?_
        refine j_cVI G cvX4_isSeen ml6_330 (c_X4_isSeen hi (by first | assumption | omega | decide) (by first | assumption | omega | decide) (by first | assumption | omega | decide)) dX6_isSeen_27 ⟨by decide, by decide⟩ ⟨by decide, by decide⟩ rfl rfl (Nat.le_of_ble_eq_true rfl) (by first | assumption | decide) rfl rfl rfl (fun r27 h27 => ?_)
        rw [hte.e_seenT, e8] at h27
        refine j_if_ne G 35 dX6_isSeen_30 (by decide) (by omega) (fun c30 => ?_) (fun c30 => ?_)
        · refine j_iinc G dX6_isSeen_35 rfl (by decide) rfl ?_
          refine j_goto G 2 dX6_isSeen_38 (by decide) ?_
          refine ih (a + 1) (by omega) (by omega) (by omega) (fun d d0 d1 => ?_)
          by_cases e : d = a
          · subst e
            rcases h27 with w | w
            · exact w.2
            · omega
          · exact h3 d d0 (by omega)
        · refine j_iconst G dX6_isSeen_33 ?_
          refine jr_B G hQ hr dX6_isSeen_34 (by decide) (by decide) (by omega) ?_
          refine Or.inr ⟨rfl, fun hs => ?_⟩
          rcases h27 with w | w
          · omega
          · exact w.2 (hs a h0 (by omega))
  refine j_iconst G dX6_isSeen_0 ?_
  refine j_istore_n G dX6_isSeen_1 (by decide) rfl ?_
  exact loop _ 0 (by omega) (by omega) rfl (fun d d0 d1 => by omega)
set_option maxRecDepth 100000 in
set_option maxHeartbeats 8000000 in
theorem c_X6_isPointOfLeaves {l : Launch} {D : va_G} {cys : Nat → ClassId} {ad : Nat → Int → Nat} {L : List Nat} {g : Nat → va_E} {X : Int64} {Z : ZT} (hi : injA ad) {S : ZT} (hS : SP S Z) (hW : WF S) : CM l D cys ad yX6_isPointOfLeaves cX6_isPointOfLeaves 2 (some .boolean) 2 42 0 0 [.ref (ad 0 0)] L g X Z (PI L g X Z (fun r => (r = 1 ∧ 0 < S 0 0 5 ∧ ∀ d, 0 ≤ d → d < S 0 0 5 → S 4 d (S 2 d 5) = S 2 d 3) ∨ (r = 0 ∧ ¬ (0 < S 0 0 5 ∧ ∀ d, 0 ≤ d → d < S 0 0 5 → S 4 d (S 2 d 5) = S 2 d 3)))) := by
  refine cm_start hi (by decide +kernel) (Nat.le_of_ble_eq_true rfl) ?_
  intro p_ e_ s_ m_ args_ below_ meth_ c_ A_ Q_ hQ G hr hin
  have e0 := hS.1 0 rfl
  have e05 : Z 0 0 5 = S 0 0 5 := by rw [e0]
  have hn := hW.n
  have loop : ∀ (n : Nat) (a : Int), 0 ≤ a → a ≤ S 0 0 5 → (S 0 0 5 - a).toNat = n → (∀ d, 0 ≤ d → d < a → S 4 d (S 2 d 5) = S 2 d 3) → JJ p_ l e_ { frames := 2, cells := 0, slots := 0, locals := 42 } s_ m_ args_ below_ meth_ c_ D cys ad A_ Q_ 2 0 0 L g X Z 2 [(0, .ref (ad 0 0)), (1, .int (iI a))] [] := by
    intro n
    induction n with
    | zero =>
      intro a h0 h1 h2 h3
      have h3' : ∀ d, 0 ≤ d → d < S 0 0 5 → S 4 d (S 2 d 5) = S 2 d 3 := fun d d0 d1 => h3 d d0 (by omega)
      refine j_iload_n G dX6_isPointOfLeaves_2 rfl ?_
      refine j_aload_n G dX6_isPointOfLeaves_3 rfl ?_
      refine gf_0_5 G dX6_isPointOfLeaves_4 lf6_66 (by first | assumption | decide) ?_
      refine j_icmp_ge G 39 dX6_isPointOfLeaves_7 (by decide) (by omega) (by omega) (fun c7 => ?_) (fun c7 => ?_)
      · refine j_aload_n G dX6_isPointOfLeaves_39 rfl ?_
        refine gf_0_5 G dX6_isPointOfLeaves_40 lf6_66 (by first | assumption | decide) ?_
        refine j_if_le G 50 dX6_isPointOfLeaves_43 (by decide) (by omega) (fun c43 => ?_) (fun c43 => ?_)
        · refine j_iconst G dX6_isPointOfLeaves_50 ?_
          refine jr_B G hQ hr dX6_isPointOfLeaves_51 (by decide) (by decide) (by omega) ?_
          first
          | exact Or.inl ⟨rfl, by omega, h3'⟩
          | (exact Or.inr ⟨rfl, fun w => by omega⟩)
        · refine j_iconst G dX6_isPointOfLeaves_46 ?_
          refine j_goto G 51 dX6_isPointOfLeaves_47 (by decide) ?_
          refine jr_B G hQ hr dX6_isPointOfLeaves_51 (by decide) (by decide) (by omega) ?_
          first
          | exact Or.inl ⟨rfl, by omega, h3'⟩
          | (exact Or.inr ⟨rfl, fun w => by omega⟩)
      · exfalso; omega
    | succ n ih =>
      intro a h0 h1 h2 h3
      have ht := hW.t h0 (by omega : a < S 0 0 5)
      have hte := TE.of hS a
      have hTZ := hte.ok ht
      have hv2 : vd 2 a := ⟨h0, show a < 4 by omega⟩
      have ht1 := hTZ.1
      have e2 : Z 2 = S 2 := hS.1 2 rfl
      have e4 : Z 4 = S 4 := hS.1 4 rfl
      have hpt : inR (Z 2 a 5) := by omega
      refine j_iload_n G dX6_isPointOfLeaves_2 rfl ?_
      refine j_aload_n G dX6_isPointOfLeaves_3 rfl ?_
      refine gf_0_5 G dX6_isPointOfLeaves_4 lf6_66 (by first | assumption | decide) ?_
      refine j_icmp_ge G 39 dX6_isPointOfLeaves_7 (by decide) (by omega) (by omega) (fun c7 => ?_) (fun c7 => ?_)
      · exfalso; omega
      · refine j_aload_n G dX6_isPointOfLeaves_10 rfl ?_
        refine gf_0_0 G dX6_isPointOfLeaves_11 lf6_11 (by first | assumption | decide) ?_
        refine j_iload_n G dX6_isPointOfLeaves_14 rfl ?_
        refine al_1 G dX6_isPointOfLeaves_15 (by first | assumption | decide) (by omega) (by omega) ?_
        refine j_aload_n G dX6_isPointOfLeaves_16 rfl ?_
        refine gf_0_0 G dX6_isPointOfLeaves_17 lf6_11 (by first | assumption | decide) ?_
        refine j_iload_n G dX6_isPointOfLeaves_20 rfl ?_
        refine al_1 G dX6_isPointOfLeaves_21 (by first | assumption | decide) (by omega) (by omega) ?_
        refine gf_2_5 G dX6_isPointOfLeaves_22 lf6_150 (by first | assumption | decide) ?_
        refine j_cVI G cvX4_isLeaf ml6_86 (c_X4_isLeaf hi (by first | assumption | omega | decide) (by first | assumption | omega | decide) (by first | assumption | omega | decide)) dX6_isPointOfLeaves_25 ⟨by decide, by decide⟩ ⟨by decide, by decide⟩ rfl rfl (Nat.le_of_ble_eq_true rfl) (by first | assumption | decide) rfl rfl rfl (fun r25 h25 => ?_)
        have h25' : (r25 = 1 ∧ S 4 a (S 2 a 5) = S 2 a 3) ∨ (r25 = 0 ∧ ¬ S 4 a (S 2 a 5) = S 2 a 3) := by
          rw [e2, e4] at h25
          rw [e2] at ht1
          omega
        refine j_if_ne G 33 dX6_isPointOfLeaves_28 (by decide) (by omega) (fun c28 => ?_) (fun c28 => ?_)
        · refine j_iinc G dX6_isPointOfLeaves_33 rfl (by decide) rfl ?_
          refine j_goto G 2 dX6_isPointOfLeaves_36 (by decide) ?_
          refine ih (a + 1) (by omega) (by omega) (by omega) (fun d d0 d1 => ?_)
          by_cases e : d = a
          · subst e; omega
          · exact h3 d d0 (by omega)
        · refine j_iconst G dX6_isPointOfLeaves_31 ?_
          refine jr_B G hQ hr dX6_isPointOfLeaves_32 (by decide) (by decide) (by omega) ?_
          exact Or.inr ⟨rfl, fun w => by have := w.2 a h0 (by omega); omega⟩
  refine j_iconst G dX6_isPointOfLeaves_0 ?_
  refine j_istore_n G dX6_isPointOfLeaves_1 (by decide) rfl ?_
  exact loop _ 0 (by omega) (by omega) rfl (fun d d0 d1 => by omega)
set_option maxRecDepth 100000 in
set_option maxHeartbeats 8000000 in
theorem c_X6_bitsBehind {l : Launch} {D : va_G} {cys : Nat → ClassId} {ad : Nat → Int → Nat} {L : List Nat} {g : Nat → va_E} {X : Int64} {Z : ZT} (hi : injA ad) {d : Int}  : CM l D cys ad yX6_bitsBehind cX6_bitsBehind 1 (some .int) 0 0 0 0 [.int (iI d)] L g X Z (PI L g X Z (fun r => r = (3 - d) * 2)) := by
  refine cm_start hi (by decide +kernel) (Nat.le_of_ble_eq_true rfl) ?_
  intro p_ e_ s_ m_ args_ below_ meth_ c_ A_ Q_ hQ G hr hin
  refine j_iconst G dX6_bitsBehind_0 ?_
  refine j_iload_n G dX6_bitsBehind_1 rfl ?_
  refine j_isub G dX6_bitsBehind_2 ?_
  refine j_iconst G dX6_bitsBehind_3 ?_
  refine j_imul G dX6_bitsBehind_4 ?_
  refine jr_I G hQ hr dX6_bitsBehind_5 (by decide) (by decide) ?_
  first | omega | (refine ⟨?_, ?_⟩ <;> (try intros) <;> first | rfl | omega | (exfalso; omega)) | simp
set_option maxRecDepth 100000 in
set_option maxHeartbeats 8000000 in
theorem c_X6_levelIn {l : Launch} {D : va_G} {cys : Nat → ClassId} {ad : Nat → Int → Nat} {L : List Nat} {g : Nat → va_E} {X : Int64} {Z : ZT} (hi : injA ad) {q d : Int} (hq : 0 ≤ q ∧ q < 256) (hd4 : 0 ≤ d ∧ d < 4) : CM l D cys ad yX6_levelIn cX6_levelIn 2 (some .int) 1 20 0 0 [.int (iI q), .int (iI d)] L g X Z (PI L g X Z (fun r => r = lvl q d)) := by
  refine cm_start hi (by decide +kernel) (Nat.le_of_ble_eq_true rfl) ?_
  intro p_ e_ s_ m_ args_ below_ meth_ c_ A_ Q_ hQ G hr hin
  obtain ⟨z, z0, z1, z2, z3⟩ := shr_lvl hq.1 hq.2 hd4.1 hd4.2
  refine j_iload_n G dX6_levelIn_0 rfl ?_
  refine j_iload_n G dX6_levelIn_1 rfl ?_
  refine j_cSI G csX6_bitsBehind ml6_255 rfl (c_X6_bitsBehind hi ) dX6_levelIn_2 ⟨by decide, by decide⟩ ⟨by decide, by decide⟩ rfl rfl (Nat.le_of_ble_eq_true rfl) (fun r2 h2 => ?_)
  rw [h2]
  refine j_ishr G dX6_levelIn_5 z2 ?_
  refine j_iconst G dX6_levelIn_6 ?_
  refine j_iand G dX6_levelIn_7 z3 ?_
  refine jr_I G hQ hr dX6_levelIn_8 (by decide) (by decide) ?_
  first | omega | (refine ⟨?_, ?_⟩ <;> (try intros) <;> first | rfl | omega | (exfalso; omega)) | simp
set_option maxRecDepth 100000 in
set_option maxHeartbeats 8000000 in
theorem c_X6_reach {l : Launch} {D : va_G} {cys : Nat → ClassId} {ad : Nat → Int → Nat} {L : List Nat} {g : Nat → va_E} {X : Int64} {Z : ZT} (hi : injA ad) {q b : Int} (hq : 0 ≤ q ∧ q < 256) (hb : 0 ≤ b ∧ b < 256) : CM l D cys ad yX6_reach cX6_reach 3 (some .boolean) 0 0 0 0 [.int (iI q), .int (iI b)] L g X Z (PI L g X Z (fun r => (r = 1 ∧ reachP q b) ∨ (r = 0 ∧ ¬ reachP q b))) := by
  refine cm_start hi (by decide +kernel) (Nat.le_of_ble_eq_true rfl) ?_
  intro p_ e_ s_ m_ args_ below_ meth_ c_ A_ Q_ hQ G hr hin
  have hone : ∀ j : Nat, j < 4 → ((lvl q (3 - j) * 4 ^ j < lvl b (3 - j) * 4 ^ j) ↔ lvl q (3 - j) < lvl b (3 - j)) := by
    intro j hj
    rcases (show j = 0 ∨ j = 1 ∨ j = 2 ∨ j = 3 by omega) with rfl | rfl | rfl | rfl <;> simp <;> omega
  have hbd : ∀ (x : Int) (j : Nat), j < 4 → inR (lvl x (3 - j) * 4 ^ j) := by
    intro x j hj
    have := lvl_in x (3 - j)
    rcases (show j = 0 ∨ j = 1 ∨ j = 2 ∨ j = 3 by omega) with rfl | rfl | rfl | rfl <;> simp at this ⊢ <;> omega
  have loop : ∀ (n j : Nat), j + n = 4 → (∀ i : Nat, i < j → lvl b (3 - i) ≤ lvl q (3 - i)) → JJ p_ l e_ { frames := 0, cells := 0, slots := 0, locals := 0 } s_ m_ args_ below_ meth_ c_ D cys ad A_ Q_ 3 0 0 L g X Z 2 [(0, .int (iI q)), (1, .int (iI b)), (2, .int (iI (mk4 j)))] [] := by
    intro n
    induction n with
    | zero =>
      intro j hj h3
      have e : j = 4 := by omega
      subst e
      have hm : mk4 4 = 768 := by decide
      rw [hm]
      refine j_iload_n G dX6_reach_2 rfl ?_
      refine j_sipush G dX6_reach_3 (by decide +kernel) ?_
      refine j_icmp_ge G 27 dX6_reach_6 (by decide) (by omega) (by omega) (fun c6 => ?_) (fun c6 => ?_)
      · refine j_iconst G dX6_reach_27 ?_
        refine jr_B G hQ hr dX6_reach_28 (by decide) (by decide) (by omega) ?_
        refine Or.inl ⟨rfl, ?_, ?_, ?_, ?_⟩
        · exact h3 3 (by decide)
        · exact h3 2 (by decide)
        · exact h3 1 (by decide)
        · exact h3 0 (by decide)
      · exfalso; omega
    | succ n ih =>
      intro j hj h3
      have h1 := and_mk hq.1 hq.2 j (by omega)
      have h2 := and_mk hb.1 hb.2 j (by omega)
      have hb1 := hbd q j (by omega)
      have hb2 := hbd b j (by omega)
      have h0 := hone j (by omega)
      have hm : mk4 j < 256 ∧ 0 < mk4 j ∧ iI (mk4 j) <<< (iI 2 &&& 31) = iI (mk4 (j + 1)) := by
        rcases (show j = 0 ∨ j = 1 ∨ j = 2 ∨ j = 3 by omega) with rfl | rfl | rfl | rfl <;> decide +kernel
      refine j_iload_n G dX6_reach_2 rfl ?_
      refine j_sipush G dX6_reach_3 (by decide +kernel) ?_
      refine j_icmp_ge G 27 dX6_reach_6 (by decide) (by omega) (by omega) (fun c6 => ?_) (fun c6 => ?_)
      · exfalso; omega
      · refine j_iload_n G dX6_reach_9 rfl ?_
        refine j_iload_n G dX6_reach_10 rfl ?_
        refine j_iand G dX6_reach_11 h1 ?_
        refine j_iload_n G dX6_reach_12 rfl ?_
        refine j_iload_n G dX6_reach_13 rfl ?_
        refine j_iand G dX6_reach_14 h2 ?_
        refine j_icmp_ge G 20 dX6_reach_15 (by decide) (by omega) (by omega) (fun c15 => ?_) (fun c15 => ?_)
        · refine j_iload_n G dX6_reach_20 rfl ?_
          refine j_iconst G dX6_reach_21 ?_
          refine j_ishl G dX6_reach_22 hm.2.2 ?_
          refine j_istore_n G dX6_reach_23 (by decide) rfl ?_
          refine j_goto G 2 dX6_reach_24 (by decide) ?_
          refine ih (j + 1) (by omega) (fun i hi => ?_)
          by_cases e : i = j
          · subst e; omega
          · exact h3 i (by omega)
        · refine j_iconst G dX6_reach_18 ?_
          refine jr_B G hQ hr dX6_reach_19 (by decide) (by decide) (by omega) ?_
          refine Or.inr ⟨rfl, fun w => ?_⟩
          have : lvl b (3 - j) ≤ lvl q (3 - j) := by
            rcases (show j = 0 ∨ j = 1 ∨ j = 2 ∨ j = 3 by omega) with rfl | rfl | rfl | rfl
            · exact w.2.2.2
            · exact w.2.2.1
            · exact w.2.1
            · exact w.1
          omega
  refine j_iconst G dX6_reach_0 ?_
  refine j_istore_n G dX6_reach_1 (by decide) rfl ?_
  exact loop 4 0 rfl (fun i hi => by omega)
set_option maxRecDepth 100000 in
set_option maxHeartbeats 8000000 in
theorem c_X6_areLevels {l : Launch} {D : va_G} {cys : Nat → ClassId} {ad : Nat → Int → Nat} {L : List Nat} {g : Nat → va_E} {X : Int64} {Z : ZT} (hi : injA ad) {S : ZT} {q : Int} (hS : SP S Z) (hW : WF S) (hq : 0 ≤ q ∧ q < 256) : CM l D cys ad yX6_areLevels cX6_areLevels 3 (some .boolean) 2 41 0 0 [.ref (ad 0 0), .int (iI q)] L g X Z (PI L g X Z (fun r => (r = 1 ∧ LOK S q) ∨ (r = 0 ∧ ¬ LOK S q))) := by
  refine cm_start hi (by decide +kernel) (Nat.le_of_ble_eq_true rfl) ?_
  intro p_ e_ s_ m_ args_ below_ meth_ c_ A_ Q_ hQ G hr hin
  have loop : ∀ (n : Nat) (a : Int), 0 ≤ a → a ≤ 4 → (4 - a).toNat = n → (∀ d, 0 ≤ d → d < a → lvl q d ≤ S 2 d 3) → JJ p_ l e_ { frames := 2, cells := 0, slots := 0, locals := 41 } s_ m_ args_ below_ meth_ c_ D cys ad A_ Q_ 3 0 0 L g X Z 2 [(0, .ref (ad 0 0)), (1, .int (iI q)), (2, .int (iI a))] [] := by
    intro n
    induction n with
    | zero =>
      intro a h0 h1 h2 h3
      refine j_iload_n G dX6_areLevels_2 rfl ?_
      refine j_iconst G dX6_areLevels_3 ?_
      refine j_icmp_ge G 32 dX6_areLevels_4 (by decide) (by omega) (by omega) (fun c4 => ?_) (fun c4 => ?_)
      · refine j_iconst G dX6_areLevels_32 ?_
        refine jr_B G hQ hr dX6_areLevels_33 (by decide) (by decide) (by omega) ?_
        exact Or.inl ⟨rfl, hq.1, hq.2, fun d d0 d1 => h3 d d0 (by omega)⟩
      · exfalso; omega
    | succ n ih =>
      intro a h0 h1 h2 h3
      have hv2 : vd 2 a := ⟨h0, show a < 4 by omega⟩
      have e23 : Z 2 a 3 = S 2 a 3 := by rw [hS.1 2 rfl]
      have hdp := hW.deep h0 (show a < 4 by omega)
      have hlv := lvl_in q a
      refine j_iload_n G dX6_areLevels_2 rfl ?_
      refine j_iconst G dX6_areLevels_3 ?_
      refine j_icmp_ge G 32 dX6_areLevels_4 (by decide) (by omega) (by omega) (fun c4 => ?_) (fun c4 => ?_)
      · exfalso; omega
      · refine j_iload_n G dX6_areLevels_7 rfl ?_
        refine j_iload_n G dX6_areLevels_8 rfl ?_
        refine j_cSI G csX6_levelIn ml6_252 rfl (c_X6_levelIn hi (by first | assumption | omega | decide) (by first | assumption | omega | decide)) dX6_areLevels_9 ⟨by decide, by decide⟩ ⟨by decide, by decide⟩ rfl rfl (Nat.le_of_ble_eq_true rfl) (fun r9 h9 => ?_)
        refine j_aload_n G dX6_areLevels_12 rfl ?_
        refine gf_0_0 G dX6_areLevels_13 lf6_11 (by first | assumption | decide) ?_
        refine j_iload_n G dX6_areLevels_16 rfl ?_
        refine al_1 G dX6_areLevels_17 (by first | assumption | decide) (by omega) (by omega) ?_
        refine gf_2_3 G dX6_areLevels_18 lf6_322 (by first | assumption | decide) ?_
        refine j_icmp_le G 26 dX6_areLevels_21 (by decide) (by omega) (by omega) (fun c21 => ?_) (fun c21 => ?_)
        · refine j_iinc G dX6_areLevels_26 rfl (by decide) rfl ?_
          refine j_goto G 2 dX6_areLevels_29 (by decide) ?_
          refine ih (a + 1) (by omega) (by omega) (by omega) (fun d d0 d1 => ?_)
          by_cases e : d = a
          · subst e; omega
          · exact h3 d d0 (by omega)
        · refine j_iconst G dX6_areLevels_24 ?_
          refine jr_B G hQ hr dX6_areLevels_25 (by decide) (by decide) (by omega) ?_
          exact Or.inr ⟨rfl, fun w => by have := w.2.2 a h0 (by omega); omega⟩
  refine j_iconst G dX6_areLevels_0 ?_
  refine j_istore_n G dX6_areLevels_1 (by decide) rfl ?_
  exact loop _ 0 (by omega) (by omega) rfl (fun d d0 d1 => by omega)
set_option maxRecDepth 100000 in
set_option maxHeartbeats 8000000 in
theorem c_X6_cellAround {l : Launch} {D : va_G} {cys : Nat → ClassId} {ad : Nat → Int → Nat} {L : List Nat} {g : Nat → va_E} {X : Int64} {Z : ZT} (hi : injA ad) {S : ZT} {k q : Int} (hS : SP S Z) (hW : WF S) (hk : 0 ≤ k ∧ k < S 6 0 3) (hq : 0 ≤ q ∧ q < 256) : CM l D cys ad yX6_cellAround cX6_cellAround 6 (some .int) 2 45 0 0 [.ref (ad 0 0), .int (iI k), .int (iI q)] L g X Z (PI L g X Z (fun r => r = cnF S q k (S 0 0 5).toNat)) := by
  refine cm_start hi (by decide +kernel) (Nat.le_of_ble_eq_true rfl) ?_
  intro p_ e_ s_ m_ args_ below_ meth_ c_ A_ Q_ hQ G hr hin
  have e05 : Z 0 0 5 = S 0 0 5 := by rw [hS.1 0 rfl]
  have hn := hW.n
  have hf := hW.f
  have hfk := hW.fk hk.1 hk.2
  have loop : ∀ (n : Nat) (a b : Int), 0 ≤ a → a ≤ S 0 0 5 → (S 0 0 5 - a).toNat = n → b = cnF S q k a.toNat → JJ p_ l e_ { frames := 2, cells := 0, slots := 0, locals := 45 } s_ m_ args_ below_ meth_ c_ D cys ad A_ Q_ 6 0 0 L g X Z 5 [(0, .ref (ad 0 0)), (1, .int (iI k)), (2, .int (iI q)), (3, .int (iI b)), (4, .int (iI a))] [] := by
    intro n
    induction n with
    | zero =>
      intro a b h0 h1 h2 h3
      have ea : a = S 0 0 5 := by omega
      subst ea
      refine j_iload G dX6_cellAround_5 rfl ?_
      refine j_aload_n G dX6_cellAround_7 rfl ?_
      refine gf_0_5 G dX6_cellAround_8 lf6_66 (by first | assumption | decide) ?_
      refine j_icmp_ge G 58 dX6_cellAround_11 (by decide) (by omega) (by omega) (fun c11 => ?_) (fun c11 => ?_)
      · refine j_iload_n G dX6_cellAround_58 rfl ?_
        refine jr_I G hQ hr dX6_cellAround_59 (by decide) (by decide) ?_
        exact h3
      · exfalso; omega
    | succ n ih =>
      intro a b h0 h1 h2 h3
      have ht := hW.t h0 (by omega : a < S 0 0 5)
      have hte := TE.of hS a
      have hl := hfk.1 a h0 (by omega)
      have hTZ := hte.ok ht
      have hv2 : vd 2 a := ⟨h0, show a < 4 by omega⟩
      have hv8 : vd 8 a := ⟨h0, show a < 4 by omega⟩
      have e8 : Z 8 a k = S 8 a k := by rw [hS.1 8 rfl]
      have e24 : Z 2 a 4 = S 2 a 4 := by rw [hS.1 2 rfl]
      have hlz : 0 ≤ Z 8 a k ∧ Z 8 a k < Z 2 a 4 := by omega
      have hlv := lvl_in q a
      refine j_iload G dX6_cellAround_5 rfl ?_
      refine j_aload_n G dX6_cellAround_7 rfl ?_
      refine gf_0_5 G dX6_cellAround_8 lf6_66 (by first | assumption | decide) ?_
      refine j_icmp_ge G 58 dX6_cellAround_11 (by decide) (by omega) (by omega) (fun c11 => ?_) (fun c11 => ?_)
      · exfalso; omega
      · refine j_aload_n G dX6_cellAround_14 rfl ?_
        refine gf_0_1 G dX6_cellAround_15 lf6_18 (by first | assumption | decide) ?_
        refine gf_6_0 G dX6_cellAround_18 lf6_166 (by first | assumption | decide) ?_
        refine j_iload G dX6_cellAround_21 rfl ?_
        refine al_7 G dX6_cellAround_23 (by first | assumption | decide) (by omega) (by omega) ?_
        refine j_iload_n G dX6_cellAround_24 rfl ?_
        refine al_8 G dX6_cellAround_25 (by first | assumption | decide) (by omega) (by omega) ?_
        refine j_istore G dX6_cellAround_26 (by decide) rfl ?_
        refine j_iload_n G dX6_cellAround_28 rfl ?_
        refine j_bipush G dX6_cellAround_29 (by decide +kernel) ?_
        refine j_imul G dX6_cellAround_31 ?_
        refine j_aload_n G dX6_cellAround_32 rfl ?_
        refine gf_0_0 G dX6_cellAround_33 lf6_11 (by first | assumption | decide) ?_
        refine j_iload G dX6_cellAround_36 rfl ?_
        refine al_1 G dX6_cellAround_38 (by first | assumption | decide) (by omega) (by omega) ?_
        refine j_iload G dX6_cellAround_39 rfl ?_
        refine j_iload_n G dX6_cellAround_41 rfl ?_
        refine j_iload G dX6_cellAround_42 rfl ?_
        refine j_cSI G csX6_levelIn ml6_252 rfl (c_X6_levelIn hi (by first | assumption | omega | decide) (by first | assumption | omega | decide)) dX6_cellAround_44 ⟨by decide, by decide⟩ ⟨by decide, by decide⟩ rfl rfl (Nat.le_of_ble_eq_true rfl) (fun r44 h44 => ?_)
        have hr44 : 0 ≤ r44 ∧ r44 < 1000 := by omega
        refine j_cVI G cvX4_aboveOn ml6_334 (c_X4_aboveOn hi (by first | assumption | omega | decide) (by first | assumption | omega | decide) (by first | assumption | omega | decide) (by first | assumption | omega | decide)) dX6_cellAround_47 ⟨by decide, by decide⟩ ⟨by decide, by decide⟩ rfl rfl (Nat.le_of_ble_eq_true rfl) (by first | assumption | decide) rfl rfl rfl (fun r47 h47 => ?_)
        refine j_iadd G dX6_cellAround_50 ?_
        refine j_istore_n G dX6_cellAround_51 (by decide) rfl ?_
        refine j_iinc G dX6_cellAround_52 rfl (by decide) rfl ?_
        refine j_goto G 5 dX6_cellAround_55 (by decide) ?_
        refine j_keep [0, 1, 2, 3, 4] ?_
        refine ih (a + 1) _ (by omega) (by omega) (by omega) ?_
        rw [show (a + 1).toNat = a.toNat + 1 by omega]
        show _ = cnF S q k a.toNat * 24 + abv S (a.toNat : Int) (S 8 (a.toNat : Int) k) (lvl q (a.toNat : Int))
        rw [Int.toNat_of_nonneg h0, ← h3, h47, h44, hte.e_abv, e8]
  refine j_iconst G dX6_cellAround_0 ?_
  refine j_istore_n G dX6_cellAround_1 (by decide) rfl ?_
  refine j_iconst G dX6_cellAround_2 ?_
  refine j_istore G dX6_cellAround_3 (by decide) rfl ?_
  exact loop _ 0 0 (by omega) (by omega) rfl rfl
set_option maxRecDepth 100000 in
set_option maxHeartbeats 8000000 in
theorem c_X6_cellsOf {l : Launch} {D : va_G} {cys : Nat → ClassId} {ad : Nat → Int → Nat} {L : List Nat} {g : Nat → va_E} {X : Int64} {Z : ZT} (hi : injA ad) {S : ZT} {q : Int} (hS : SP S Z) (hW : WF S) (hq : 0 ≤ q ∧ q < 256) : CM l D cys ad yX6_cellsOf cX6_cellsOf 4 (some .int) 3 70 0 0 [.ref (ad 0 0), .int (iI q)] L g X Z (PIZ L g X Z (fun r Z' => r = CELLS S q ∧ SP S Z')) := by
  refine cm_start hi (by decide +kernel) (Nat.le_of_ble_eq_true rfl) ?_
  intro p_ e_ s_ m_ args_ below_ meth_ c_ A_ Q_ hQ G hr hin
  have hn := hW.n
  have hf := hW.f
  have loop : ∀ (n : Nat) (a b : Int) (Y : ZT), 0 ≤ a → a ≤ S 6 0 3 → (S 6 0 3 - a).toNat = n → SP S Y → (∀ j, 0 ≤ j → j < a → Y 10 0 j = cnF S q j (S 0 0 5).toNat) → b = sumTo (fun k => iv (∀ j, 0 ≤ j → j < k → ¬ sameC S q j k)) a.toNat → JJ p_ l e_ { frames := 3, cells := 0, slots := 0, locals := 70 } s_ m_ args_ below_ meth_ c_ D cys ad A_ Q_ 4 0 0 L g X Y 4 [(0, .ref (ad 0 0)), (1, .int (iI q)), (2, .int (iI b)), (3, .int (iI a))] [] := by
    intro n
    induction n with
    | zero =>
      intro a b Y h0 h1 h2 h3 h4 h5
      have e63 : Y 6 0 3 = S 6 0 3 := by rw [h3.1 6 rfl]
      have ea : a = S 6 0 3 := by omega
      subst ea
      refine j_iload_n G dX6_cellsOf_4 rfl ?_
      refine j_aload_n G dX6_cellsOf_5 rfl ?_
      refine gf_0_1 G dX6_cellsOf_6 lf6_18 (by first | assumption | decide) ?_
      refine gf_6_3 G dX6_cellsOf_9 lf6_160 (by first | assumption | decide) ?_
      refine j_icmp_ge G 50 dX6_cellsOf_12 (by decide) (by omega) (by omega) (fun c12 => ?_) (fun c12 => ?_)
      · refine j_iload_n G dX6_cellsOf_50 rfl ?_
        refine jr_IZ G hQ hr dX6_cellsOf_51 (by decide) (by decide) ?_
        exact ⟨h5, h3⟩
      · exfalso; omega
    | succ n ih =>
      intro a b Y h0 h1 h2 h3 h4 h5
      have e63 : Y 6 0 3 = S 6 0 3 := by rw [h3.1 6 rfl]
      have ha : 0 ≤ a ∧ a < S 6 0 3 := by omega
      have hcb : ∀ j, 0 ≤ j → j < S 6 0 3 → 0 ≤ cnF S q j (S 0 0 5).toNat ∧ cnF S q j (S 0 0 5).toNat < 331777 := by
        intro j j0 j1
        have := cnF_bd hW (L := q) j0 j1 (S 0 0 5).toNat (by omega)
        refine ⟨this.1, Int.lt_of_lt_of_le this.2 ?_⟩
        rcases (show (S 0 0 5).toNat = 0 ∨ (S 0 0 5).toNat = 1 ∨ (S 0 0 5).toNat = 2 ∨ (S 0 0 5).toNat = 3 ∨ (S 0 0 5).toNat = 4 by omega) with e | e | e | e | e <;> rw [e] <;> decide
      have hS26 : ∀ v, SP S (zS Y 10 0 a v) := fun v => ⟨fun k hk => by rw [zS_k (by rintro rfl; cases hk)]; exact h3.1 k hk, fun i => by rw [zS_k (by decide)]; exact h3.2 i⟩
      have h10 : ∀ v j, zS Y 10 0 a v 10 0 j = if j = a then v else Y 10 0 j := fun v j => zS_v
      have hvals : ∀ j, 0 ≤ j → j < a + 1 → zS Y 10 0 a (cnF S q a (S 0 0 5).toNat) 10 0 j = cnF S q j (S 0 0 5).toNat := by
        intro j j0 j1
        rw [h10]
        split
        · rename_i e; rw [e]
        · exact h4 j j0 (by omega)
      have hsum := sumTo_s (f := fun k => iv (∀ j, 0 ≤ j → j < k → ¬ sameC S q j k)) h0
      have hiff : ∀ j, 0 ≤ j → j < a → (cnF S q j (S 0 0 5).toNat = cnF S q a (S 0 0 5).toNat ↔ sameC S q j a) := by
        intro j j0 j1
        have := cnF_inj hW (L := q) j0 (by omega) h0 ha.2 (S 0 0 5).toNat (by omega)
        rw [Int.toNat_of_nonneg hn.1] at this
        exact this
      refine j_iload_n G dX6_cellsOf_4 rfl ?_
      refine j_aload_n G dX6_cellsOf_5 rfl ?_
      refine gf_0_1 G dX6_cellsOf_6 lf6_18 (by first | assumption | decide) ?_
      refine gf_6_3 G dX6_cellsOf_9 lf6_160 (by first | assumption | decide) ?_
      refine j_icmp_ge G 50 dX6_cellsOf_12 (by decide) (by omega) (by omega) (fun c12 => ?_) (fun c12 => ?_)
      · exfalso; omega
      · refine j_aload_n G dX6_cellsOf_15 rfl ?_
        refine gf_0_1 G dX6_cellsOf_16 lf6_18 (by first | assumption | decide) ?_
        refine gf_6_2 G dX6_cellsOf_19 lf6_377 (by first | assumption | decide) ?_
        refine j_iload_n G dX6_cellsOf_22 rfl ?_
        refine j_aload_n G dX6_cellsOf_23 rfl ?_
        refine j_iload_n G dX6_cellsOf_24 rfl ?_
        refine j_iload_n G dX6_cellsOf_25 rfl ?_
        refine j_cVI G cvX6_cellAround ml6_380 (c_X6_cellAround hi (by first | assumption | omega | decide) (by first | assumption | omega | decide) (by first | assumption | omega | decide) (by first | assumption | omega | decide)) dX6_cellsOf_26 ⟨by decide, by decide⟩ ⟨by decide, by decide⟩ rfl rfl (Nat.le_of_ble_eq_true rfl) (by first | assumption | decide) rfl rfl rfl (fun r26 h26 => ?_)
        rw [h26]
        refine as_10 G dX6_cellsOf_29 (by first | assumption | decide) (by omega) (by omega) ?_
        refine j_aload_n G dX6_cellsOf_30 rfl ?_
        refine gf_0_1 G dX6_cellsOf_31 lf6_18 (by first | assumption | decide) ?_
        refine j_iload_n G dX6_cellsOf_34 rfl ?_
        refine j_cVI G cvX1_isFirstOfItsCell ml6_383 (c_X1_isFirstOfItsCell hi (by omega) (fun j j0 j1 => by rw [hvals j j0 (by omega)]; have := hcb j j0 (by omega); omega)) dX6_cellsOf_35 ⟨by decide, by decide⟩ ⟨by decide, by decide⟩ rfl rfl (Nat.le_of_ble_eq_true rfl) (by first | assumption | decide) rfl rfl rfl (fun r35 h35 => ?_)
        have h35' : (r35 = 1 ∧ (∀ j, 0 ≤ j → j < a → ¬ sameC S q j a)) ∨ (r35 = 0 ∧ ¬ (∀ j, 0 ≤ j → j < a → ¬ sameC S q j a)) := by
          rcases h35 with ⟨w, w2⟩ | ⟨w, j, j0, j1, j2⟩
          · refine Or.inl ⟨w, fun j j0 j1 => fun z => w2 j j0 j1 ?_⟩
            rw [hvals j j0 (by omega), hvals a h0 (by omega)]
            exact (hiff j j0 j1).mpr z
          · refine Or.inr ⟨w, fun z => z j j0 j1 ?_⟩
            rw [hvals j j0 (by omega), hvals a h0 (by omega)] at j2
            exact (hiff j j0 j1).mp j2
        clear h35
        refine j_if_eq G 44 dX6_cellsOf_38 (by decide) (by omega) (fun c38 => ?_) (fun c38 => ?_)
        · refine j_iinc G dX6_cellsOf_44 rfl (by decide) rfl ?_
          refine j_goto G 4 dX6_cellsOf_47 (by decide) ?_
          first
          | (refine ih (a + 1) b _ (by omega) (by omega) (by omega) (hS26 _) hvals ?_
             rw [hsum, h5]
             rcases h35' with w | w
             · exfalso; omega
             · rw [iv_f w.2]; omega)
          | (refine ih (a + 1) (b + 1) _ (by omega) (by omega) (by omega) (hS26 _) hvals ?_
             rw [hsum, h5]
             rcases h35' with w | w
             · rw [iv_t w.2]
             · exfalso; omega)
        · refine j_iinc G dX6_cellsOf_41 rfl (by decide) rfl ?_
          refine j_iinc G dX6_cellsOf_44 rfl (by decide) rfl ?_
          refine j_goto G 4 dX6_cellsOf_47 (by decide) ?_
          first
          | (refine ih (a + 1) b _ (by omega) (by omega) (by omega) (hS26 _) hvals ?_
             rw [hsum, h5]
             rcases h35' with w | w
             · exfalso; omega
             · rw [iv_f w.2]; omega)
          | (refine ih (a + 1) (b + 1) _ (by omega) (by omega) (by omega) (hS26 _) hvals ?_
             rw [hsum, h5]
             rcases h35' with w | w
             · rw [iv_t w.2]
             · exfalso; omega)
  refine j_iconst G dX6_cellsOf_0 ?_
  refine j_istore_n G dX6_cellsOf_1 (by decide) rfl ?_
  refine j_iconst G dX6_cellsOf_2 ?_
  refine j_istore_n G dX6_cellsOf_3 (by decide) rfl ?_
  exact loop _ 0 0 Z (by omega) (by omega) rfl hS (fun j a b => by omega) rfl
set_option maxRecDepth 100000 in
set_option maxHeartbeats 8000000 in
theorem c_X6_viewFor {l : Launch} {D : va_G} {cys : Nat → ClassId} {ad : Nat → Int → Nat} {L : List Nat} {g : Nat → va_E} {X : Int64} {Z : ZT} (hi : injA ad) {S : ZT} {q : Int} (hS : SP S Z) (hW : WF S) (hq : 0 ≤ q ∧ q < 256) : CM l D cys ad yX6_viewFor cX6_viewFor 5 (some .int) 1 22 0 0 [.ref (ad 0 0), .int (iI q)] L g X Z (PI L g X Z (fun r => r = VFOR S q)) := by
  refine cm_start hi (by decide +kernel) (Nat.le_of_ble_eq_true rfl) ?_
  intro p_ e_ s_ m_ args_ below_ meth_ c_ A_ Q_ hQ G hr hin
  have hv := hW.v
  have hf := hW.f
  have e63 : Z 6 0 3 = S 6 0 3 := by rw [hS.1 6 rfl]
  have e113 : Z 11 0 3 = S 11 0 3 := by rw [hS.1 11 rfl]
  have loop : ∀ (n : Nat) (a b c : Int), 0 ≤ a → a ≤ S 11 0 3 → (S 11 0 3 - a).toNat = n → b = vfF S q a.toNat → c = prc S b → JJ p_ l e_ { frames := 1, cells := 0, slots := 0, locals := 22 } s_ m_ args_ below_ meth_ c_ D cys ad A_ Q_ 5 0 0 L g X Z 13 [(0, .ref (ad 0 0)), (1, .int (iI q)), (2, .int (iI b)), (3, .int (iI c)), (4, .int (iI a))] [] := by
    intro n
    induction n with
    | zero =>
      intro a b c h0 h1 h2 h3 h4
      have ea : a = S 11 0 3 := by omega
      subst ea
      refine j_iload G dX6_viewFor_13 rfl ?_
      refine j_aload_n G dX6_viewFor_15 rfl ?_
      refine gf_0_2 G dX6_viewFor_16 lf6_25 (by first | assumption | decide) ?_
      refine gf_11_3 G dX6_viewFor_19 lf6_261 (by first | assumption | decide) ?_
      refine j_icmp_ge G 89 dX6_viewFor_22 (by decide) (by omega) (by omega) (fun c22 => ?_) (fun c22 => ?_)
      · refine j_iload_n G dX6_viewFor_89 rfl ?_
        refine jr_I G hQ hr dX6_viewFor_90 (by decide) (by decide) ?_
        exact h3
      · exfalso; omega
    | succ n ih =>
      intro a b c h0 h1 h2 h3 h4
      have hvw := hW.vw h0 (by omega : a < S 11 0 3)
      have hst := hW.st h0 (by omega : a < 6)
      have e12 : Z 12 0 a = S 12 0 a := by rw [hS.1 12 rfl]
      have e13 : Z 13 0 a = S 13 0 a := by rw [hS.1 13 rfl]
      have e14 : Z 14 0 a = S 14 0 a := by rw [hS.1 14 rfl]
      have hc : inR c := by
        have a1 := vfF_in S q a.toNat
        rw [← h3] at a1
        rw [h4]; unfold prc
        split
        · omega
        · have := hW.vw (v := b) (by omega) (by omega)
          omega
      have hl : 0 ≤ Z 12 0 a ∧ Z 12 0 a < 256 := by
        have := hvw.1.1
        have := hvw.1.2.1
        omega
      have hstep : vfF S q (a + 1).toNat = @ite _ (S 13 0 a < prc S b ∧ S 14 0 a = 0 ∧ reachP (S 12 0 a) q) (Classical.propDecidable _) a b := by
        rw [show (a + 1).toNat = a.toNat + 1 by omega]
        show @ite _ (S 13 0 (a.toNat : Int) < prc S (vfF S q a.toNat) ∧ S 14 0 (a.toNat : Int) = 0 ∧ reachP (S 12 0 (a.toNat : Int)) q) (Classical.propDecidable _) (a.toNat : Int) (vfF S q a.toNat) = _
        rw [Int.toNat_of_nonneg h0, ← h3]
      refine j_iload G dX6_viewFor_13 rfl ?_
      refine j_aload_n G dX6_viewFor_15 rfl ?_
      refine gf_0_2 G dX6_viewFor_16 lf6_25 (by first | assumption | decide) ?_
      refine gf_11_3 G dX6_viewFor_19 lf6_261 (by first | assumption | decide) ?_
      refine j_icmp_ge G 89 dX6_viewFor_22 (by decide) (by omega) (by omega) (fun c22 => ?_) (fun c22 => ?_)
      · exfalso; omega
      · refine j_aload_n G dX6_viewFor_25 rfl ?_
        refine gf_0_2 G dX6_viewFor_26 lf6_25 (by first | assumption | decide) ?_
        refine gf_11_1 G dX6_viewFor_29 lf6_274 (by first | assumption | decide) ?_
        refine j_iload G dX6_viewFor_32 rfl ?_
        refine al_13 G dX6_viewFor_34 (by first | assumption | decide) (by omega) (by omega) ?_
        refine j_iload_n G dX6_viewFor_35 rfl ?_
        refine j_icmp_ge G 83 dX6_viewFor_36 (by decide) (by omega) (by omega) (fun c36 => ?_) (fun c36 => ?_)
        · refine j_iinc G dX6_viewFor_83 rfl (by decide) rfl ?_
          refine j_goto G 13 dX6_viewFor_86 (by decide) ?_
          first
          | (refine ih (a + 1) b c (by omega) (by omega) (by omega) ?_ h4
             rw [hstep, if_neg]
             rintro ⟨w1, w2, w3⟩
             first
             | (exfalso; omega)
             | (rw [e12] at h63
                rcases h63 with w | w
                · omega
                · exact w.2 w3))
          | (refine ih (a + 1) a _ (by omega) (by omega) (by omega) ?_ ?_
             · rw [hstep, if_pos]
               rw [e12] at h63
               rcases h63 with w | w
               · exact ⟨by omega, by omega, w.2⟩
               · omega
             · unfold prc
               rw [if_neg (by omega)]; exact e13)
        · refine j_aload_n G dX6_viewFor_39 rfl ?_
          refine gf_0_2 G dX6_viewFor_40 lf6_25 (by first | assumption | decide) ?_
          refine gf_11_2 G dX6_viewFor_43 lf6_277 (by first | assumption | decide) ?_
          refine j_iload G dX6_viewFor_46 rfl ?_
          refine al_14 G dX6_viewFor_48 (by first | assumption | decide) (by omega) (by omega) ?_
          refine j_if_ne G 83 dX6_viewFor_49 (by decide) (by omega) (fun c49 => ?_) (fun c49 => ?_)
          · refine j_iinc G dX6_viewFor_83 rfl (by decide) rfl ?_
            refine j_goto G 13 dX6_viewFor_86 (by decide) ?_
            first
            | (refine ih (a + 1) b c (by omega) (by omega) (by omega) ?_ h4
               rw [hstep, if_neg]
               rintro ⟨w1, w2, w3⟩
               first
               | (exfalso; omega)
               | (rw [e12] at h63
                  rcases h63 with w | w
                  · omega
                  · exact w.2 w3))
            | (refine ih (a + 1) a _ (by omega) (by omega) (by omega) ?_ ?_
               · rw [hstep, if_pos]
                 rw [e12] at h63
                 rcases h63 with w | w
                 · exact ⟨by omega, by omega, w.2⟩
                 · omega
               · unfold prc
                 rw [if_neg (by omega)]; exact e13)
          · refine j_aload_n G dX6_viewFor_52 rfl ?_
            refine gf_0_2 G dX6_viewFor_53 lf6_25 (by first | assumption | decide) ?_
            refine gf_11_0 G dX6_viewFor_56 lf6_264 (by first | assumption | decide) ?_
            refine j_iload G dX6_viewFor_59 rfl ?_
            refine al_12 G dX6_viewFor_61 (by first | assumption | decide) (by omega) (by omega) ?_
            refine j_iload_n G dX6_viewFor_62 rfl ?_
            refine j_cSI G csX6_reach ml6_389 rfl (c_X6_reach hi (by first | assumption | omega | decide) (by first | assumption | omega | decide)) dX6_viewFor_63 ⟨by decide, by decide⟩ ⟨by decide, by decide⟩ rfl rfl (Nat.le_of_ble_eq_true rfl) (fun r63 h63 => ?_)
            refine j_if_eq G 83 dX6_viewFor_66 (by decide) (by omega) (fun c66 => ?_) (fun c66 => ?_)
            · refine j_iinc G dX6_viewFor_83 rfl (by decide) rfl ?_
              refine j_goto G 13 dX6_viewFor_86 (by decide) ?_
              first
              | (refine ih (a + 1) b c (by omega) (by omega) (by omega) ?_ h4
                 rw [hstep, if_neg]
                 rintro ⟨w1, w2, w3⟩
                 first
                 | (exfalso; omega)
                 | (rw [e12] at h63
                    rcases h63 with w | w
                    · omega
                    · exact w.2 w3))
              | (refine ih (a + 1) a _ (by omega) (by omega) (by omega) ?_ ?_
                 · rw [hstep, if_pos]
                   rw [e12] at h63
                   rcases h63 with w | w
                   · exact ⟨by omega, by omega, w.2⟩
                   · omega
                 · unfold prc
                   rw [if_neg (by omega)]; exact e13)
            · refine j_iload G dX6_viewFor_69 rfl ?_
              refine j_istore_n G dX6_viewFor_71 (by decide) rfl ?_
              refine j_aload_n G dX6_viewFor_72 rfl ?_
              refine gf_0_2 G dX6_viewFor_73 lf6_25 (by first | assumption | decide) ?_
              refine gf_11_1 G dX6_viewFor_76 lf6_274 (by first | assumption | decide) ?_
              refine j_iload G dX6_viewFor_79 rfl ?_
              refine al_13 G dX6_viewFor_81 (by first | assumption | decide) (by omega) (by omega) ?_
              refine j_istore_n G dX6_viewFor_82 (by decide) rfl ?_
              refine j_iinc G dX6_viewFor_83 rfl (by decide) rfl ?_
              refine j_goto G 13 dX6_viewFor_86 (by decide) ?_
              first
              | (refine ih (a + 1) b c (by omega) (by omega) (by omega) ?_ h4
                 rw [hstep, if_neg]
                 rintro ⟨w1, w2, w3⟩
                 first
                 | (exfalso; omega)
                 | (rw [e12] at h63
                    rcases h63 with w | w
                    · omega
                    · exact w.2 w3))
              | (refine ih (a + 1) a _ (by omega) (by omega) (by omega) ?_ ?_
                 · rw [hstep, if_pos]
                   rw [e12] at h63
                   rcases h63 with w | w
                   · exact ⟨by omega, by omega, w.2⟩
                   · omega
                 · unfold prc
                   rw [if_neg (by omega)]; exact e13)
  refine j_iconst G dX6_viewFor_0 ?_
  refine j_istore_n G dX6_viewFor_1 (by decide) rfl ?_
  refine j_aload_n G dX6_viewFor_2 rfl ?_
  refine gf_0_1 G dX6_viewFor_3 lf6_18 (by first | assumption | decide) ?_
  refine gf_6_3 G dX6_viewFor_6 lf6_160 (by first | assumption | decide) ?_
  refine j_istore_n G dX6_viewFor_9 (by decide) rfl ?_
  refine j_iconst G dX6_viewFor_10 ?_
  refine j_istore G dX6_viewFor_11 (by decide) rfl ?_
  exact loop _ 0 (-1) _ (by omega) (by omega) rfl rfl (by unfold prc; rw [if_pos rfl]; exact e63)
set_option maxRecDepth 100000 in
set_option maxHeartbeats 8000000 in
theorem c_X6_costOf {l : Launch} {D : va_G} {cys : Nat → ClassId} {ad : Nat → Int → Nat} {L : List Nat} {g : Nat → va_E} {X : Int64} {Z : ZT} (hi : injA ad) {S : ZT} {q : Int} (hS : SP S Z) (hW : WF S) (hq : 0 ≤ q ∧ q < 256) : CM l D cys ad yX6_costOf cX6_costOf 3 (some .int) 2 46 0 0 [.ref (ad 0 0), .int (iI q)] L g X Z (PI L g X Z (fun r => r = COST S q)) := by
  refine cm_start hi (by decide +kernel) (Nat.le_of_ble_eq_true rfl) ?_
  intro p_ e_ s_ m_ args_ below_ meth_ c_ A_ Q_ hQ G hr hin
  have hv := hW.v
  have hf := hW.f
  have e63 : Z 6 0 3 = S 6 0 3 := by rw [hS.1 6 rfl]
  have e113 : Z 11 0 3 = S 11 0 3 := by rw [hS.1 11 rfl]
  have hvi := vfF_in S q (S 11 0 3).toNat
  have e13 : Z 13 = S 13 := hS.1 13 rfl
  have hpr : ∀ b, b = -1 → prc S b = S 6 0 3 := fun b e => by unfold prc; rw [if_pos e]
  have hpr2 : ∀ b, b ≠ -1 → prc S b = S 13 0 b := fun b e => by unfold prc; rw [if_neg e]
  refine j_aload_n G dX6_costOf_0 rfl ?_
  refine j_iload_n G dX6_costOf_1 rfl ?_
  refine j_cVI G cvX6_viewFor ml6_283 (c_X6_viewFor hi (by first | assumption | omega | decide) (by first | assumption | omega | decide) (by first | assumption | omega | decide)) dX6_costOf_2 ⟨by decide, by decide⟩ ⟨by decide, by decide⟩ rfl rfl (Nat.le_of_ble_eq_true rfl) (by first | assumption | decide) rfl rfl rfl (fun r2 h2 => ?_)
  have hr2 : -1 ≤ r2 ∧ r2 < S 11 0 3 := by
    unfold VFOR at h2
    omega
  have hir2 : inR r2 := by omega
  have hp1 := hpr r2
  have hp2 := hpr2 r2
  refine j_istore_n G dX6_costOf_5 (by decide) rfl ?_
  refine j_aload_n G dX6_costOf_6 rfl ?_
  refine gf_0_2 G dX6_costOf_7 lf6_25 (by first | assumption | decide) ?_
  refine j_iload_n G dX6_costOf_10 rfl ?_
  refine j_cVI G cvX5_has ml6_386 (c_X5_has hi (by first | assumption | omega | decide) (by first | assumption | omega | decide)) dX6_costOf_11 ⟨by decide, by decide⟩ ⟨by decide, by decide⟩ rfl rfl (Nat.le_of_ble_eq_true rfl) (by first | assumption | decide) rfl rfl rfl (fun r11 h11 => ?_)
  refine j_if_eq G 29 dX6_costOf_14 (by decide) (by omega) (fun c14 => ?_) (fun c14 => ?_)
  · refine j_aload_n G dX6_costOf_29 rfl ?_
    refine gf_0_1 G dX6_costOf_30 lf6_18 (by first | assumption | decide) ?_
    refine gf_6_3 G dX6_costOf_33 lf6_160 (by first | assumption | decide) ?_
    refine jr_I G hQ hr dX6_costOf_36 (by decide) (by decide) ?_
    unfold COST
    rw [← h2]
    first
    | (rw [hp2 (by omega), e13])
    | (rw [hp1 (by omega)]; exact e63)
  · refine j_aload_n G dX6_costOf_17 rfl ?_
    refine gf_0_2 G dX6_costOf_18 lf6_25 (by first | assumption | decide) ?_
    refine gf_11_1 G dX6_costOf_21 lf6_274 (by first | assumption | decide) ?_
    refine j_iload_n G dX6_costOf_24 rfl ?_
    refine al_13 G dX6_costOf_25 (by first | assumption | decide) (by omega) (by omega) ?_
    refine j_goto G 36 dX6_costOf_26 (by decide) ?_
    refine jr_I G hQ hr dX6_costOf_36 (by decide) (by decide) ?_
    unfold COST
    rw [← h2]
    first
    | (rw [hp2 (by omega), e13])
    | (rw [hp1 (by omega)]; exact e63)
set_option maxRecDepth 100000 in
set_option maxHeartbeats 8000000 in
theorem c_X6_gainOf {l : Launch} {D : va_G} {cys : Nat → ClassId} {ad : Nat → Int → Nat} {L : List Nat} {g : Nat → va_E} {X : Int64} {Z : ZT} (hi : injA ad) {S : ZT} {q : Int} (hS : SP S Z) (hW : WF S) (hq : 0 ≤ q ∧ q < 256) : CM l D cys ad yX6_gainOf cX6_gainOf 5 (some .int) 4 93 0 0 [.ref (ad 0 0), .int (iI q)] L g X Z (PIZ L g X Z (fun r Z' => r = GAIN S q ∧ SP S Z')) := by
  refine cm_start hi (by decide +kernel) (Nat.le_of_ble_eq_true rfl) ?_
  intro p_ e_ s_ m_ args_ below_ meth_ c_ A_ Q_ hQ G hr hin
  refine j_aload_n G dX6_gainOf_0 rfl ?_
  refine j_iload_n G dX6_gainOf_1 rfl ?_
  refine j_cVIZ G cvX6_cellsOf ml6_258 (c_X6_cellsOf hi (by first | assumption | omega | decide) (by first | assumption | omega | decide) (by first | assumption | omega | decide)) dX6_gainOf_2 ⟨by decide, by decide⟩ ⟨by decide, by decide⟩ rfl rfl (Nat.le_of_ble_eq_true rfl) (by first | assumption | decide) rfl rfl rfl (fun r2 Z2 h2 => ?_)
  have hci := CELLS_in hW q
  have hf := hW.f
  have hc : 0 ≤ r2 ∧ r2 ≤ 80 := by omega
  refine j_istore_n G dX6_gainOf_5 (by decide) rfl ?_
  refine j_iconst G dX6_gainOf_6 ?_
  refine j_istore_n G dX6_gainOf_7 (by decide) rfl ?_
  have loop : ∀ (n : Nat) (a b : Int), 0 ≤ a → a ≤ q + 1 → (q + 1 - a).toNat = n → b = sumTo (fun a => iv (reachP q a) * mx (COST S a - CELLS S q)) a.toNat → JJ p_ l e_ { frames := 4, cells := 0, slots := 0, locals := 93 } s_ m_ args_ below_ meth_ c_ D cys ad A_ Q_ 5 0 0 L g X Z2 11 [(0, .ref (ad 0 0)), (1, .int (iI q)), (2, .int (iI r2)), (3, .int (iI b)), (4, .int (iI a))] [] := by
    intro n
    induction n with
    | zero =>
      intro a b h0 h1 h2' h3
      have ea : a = q + 1 := by omega
      subst ea
      refine j_iload G dX6_gainOf_11 rfl ?_
      refine j_iload_n G dX6_gainOf_13 rfl ?_
      refine j_icmp_gt G 47 dX6_gainOf_14 (by decide) (by omega) (by omega) (fun c14 => ?_) (fun c14 => ?_)
      · refine j_iload_n G dX6_gainOf_47 rfl ?_
        refine jr_IZ G hQ hr dX6_gainOf_48 (by decide) (by decide) ?_
        exact ⟨h3, h2.2⟩
      · exfalso; omega
    | succ n ih =>
      intro a b h0 h1 h2' h3
      have hsum := sumTo_s (f := fun a => iv (reachP q a) * mx (COST S a - CELLS S q)) h0
      have hco := COST_in hW a
      have hS2 := h2.2
      refine j_iload G dX6_gainOf_11 rfl ?_
      refine j_iload_n G dX6_gainOf_13 rfl ?_
      refine j_icmp_gt G 47 dX6_gainOf_14 (by decide) (by omega) (by omega) (fun c14 => ?_) (fun c14 => ?_)
      · exfalso; omega
      · refine j_iload_n G dX6_gainOf_17 rfl ?_
        refine j_iload G dX6_gainOf_18 rfl ?_
        refine j_cSI G csX6_reach ml6_389 rfl (c_X6_reach hi (by first | assumption | omega | decide) (by first | assumption | omega | decide)) dX6_gainOf_20 ⟨by decide, by decide⟩ ⟨by decide, by decide⟩ rfl rfl (Nat.le_of_ble_eq_true rfl) (fun r20 h20 => ?_)
        refine j_if_eq G 41 dX6_gainOf_23 (by decide) (by omega) (fun c23 => ?_) (fun c23 => ?_)
        · refine j_iinc G dX6_gainOf_41 rfl (by decide) rfl ?_
          refine j_goto G 11 dX6_gainOf_44 (by decide) ?_
          first
          | (refine ih (a + 1) b (by omega) (by omega) (by omega) ?_
             rcases h20 with w | w
             · exfalso; omega
             · rw [hsum, h3, iv_f w.2, Int.zero_mul, Int.add_zero])
          | (refine ih (a + 1) _ (by omega) (by omega) (by omega) ?_
             rcases h20 with w | w
             · rw [hsum, ← h3, iv_t w.2, Int.one_mul, h2.1]
               unfold mx
               congr 1
               split <;> split <;> omega
             · exfalso; omega)
        · refine j_iload_n G dX6_gainOf_26 rfl ?_
          refine j_iconst G dX6_gainOf_27 ?_
          refine j_aload_n G dX6_gainOf_28 rfl ?_
          refine j_iload G dX6_gainOf_29 rfl ?_
          refine j_cVI G cvX6_costOf ml6_280 (c_X6_costOf hi h2.2 (by assumption) (by omega)) dX6_gainOf_31 ⟨by decide, by decide⟩ ⟨by decide, by decide⟩ rfl rfl (Nat.le_of_ble_eq_true rfl) (by first | assumption | decide) rfl rfl rfl (fun r31 h31 => ?_)
          refine j_iload_n G dX6_gainOf_34 rfl ?_
          refine j_isub G dX6_gainOf_35 ?_
          subst h31
          refine j_max G (TW_of 395 (by decide +kernel) (by decide +kernel)) (TW_of 396 (by decide +kernel) (by decide +kernel)) (TW_of 57 (by decide +kernel) (by decide +kernel)) (TW_of 397 (by decide +kernel) (by decide +kernel)) dX6_gainOf_36 (by decide) (Nat.le_of_ble_eq_true rfl) (by decide) (by decide) (by omega) (by omega) ?_
          refine j_iadd G dX6_gainOf_39 ?_
          refine j_istore_n G dX6_gainOf_40 (by decide) rfl ?_
          refine j_iinc G dX6_gainOf_41 rfl (by decide) rfl ?_
          refine j_goto G 11 dX6_gainOf_44 (by decide) ?_
          first
          | (refine ih (a + 1) b (by omega) (by omega) (by omega) ?_
             rcases h20 with w | w
             · exfalso; omega
             · rw [hsum, h3, iv_f w.2, Int.zero_mul, Int.add_zero])
          | (refine ih (a + 1) _ (by omega) (by omega) (by omega) ?_
             rcases h20 with w | w
             · rw [hsum, ← h3, iv_t w.2, Int.one_mul, h2.1]
               unfold mx
               congr 1
               split <;> split <;> omega
             · exfalso; omega)
  refine j_iconst G dX6_gainOf_8 ?_
  refine j_istore G dX6_gainOf_9 (by decide) rfl ?_
  exact loop _ 0 0 (by omega) (by omega) rfl rfl

