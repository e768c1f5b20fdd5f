theorem dX6_fewest_0 : decode cX6_fewest 0 = .ok (.aload_n 0, 1) := by decide +kernel
theorem dX6_fewest_1 : decode cX6_fewest 1 = .ok (.iload_n 1, 1) := by decide +kernel
theorem dX6_fewest_2 : decode cX6_fewest 2 = .ok (.invokevirtual 124, 3) := by decide +kernel
theorem dX6_fewest_5 : decode cX6_fewest 5 = .ok (.astore_n 3, 1) := by decide +kernel
theorem dX6_fewest_6 : decode cX6_fewest 6 = .ok (.iload_n 2, 1) := by decide +kernel
theorem dX6_fewest_7 : decode cX6_fewest 7 = .ok (.iconst 1, 1) := by decide +kernel
theorem dX6_fewest_8 : decode cX6_fewest 8 = .ok (.if_icmp .lt 10, 3) := by decide +kernel
theorem dX6_fewest_11 : decode cX6_fewest 11 = .ok (.iload_n 2, 1) := by decide +kernel
theorem dX6_fewest_12 : decode cX6_fewest 12 = .ok (.sipush 1000, 3) := by decide +kernel
theorem dX6_fewest_15 : decode cX6_fewest 15 = .ok (.if_icmp .le 13, 3) := by decide +kernel
theorem dX6_fewest_18 : decode cX6_fewest 18 = .ok (.new 59, 3) := by decide +kernel
theorem dX6_fewest_21 : decode cX6_fewest 21 = .ok (.dup, 1) := by decide +kernel
theorem dX6_fewest_22 : decode cX6_fewest 22 = .ok (.ldc 202, 2) := by decide +kernel
theorem dX6_fewest_24 : decode cX6_fewest 24 = .ok (.invokespecial 63, 3) := by decide +kernel
theorem dX6_fewest_27 : decode cX6_fewest 27 = .ok (.athrow, 1) := by decide +kernel
theorem dX6_fewest_28 : decode cX6_fewest 28 = .ok (.aload_n 0, 1) := by decide +kernel
theorem dX6_fewest_29 : decode cX6_fewest 29 = .ok (.iload_n 1, 1) := by decide +kernel
theorem dX6_fewest_30 : decode cX6_fewest 30 = .ok (.aload_n 3, 1) := by decide +kernel
theorem dX6_fewest_31 : decode cX6_fewest 31 = .ok (.invokevirtual 204, 3) := by decide +kernel
theorem dX6_fewest_34 : decode cX6_fewest 34 = .ok (.iload_n 2, 1) := by decide +kernel
theorem dX6_fewest_35 : decode cX6_fewest 35 = .ok (.aload_n 0, 1) := by decide +kernel
theorem dX6_fewest_36 : decode cX6_fewest 36 = .ok (.invokevirtual 182, 3) := by decide +kernel
theorem dX6_fewest_39 : decode cX6_fewest 39 = .ok (.imul, 1) := by decide +kernel
theorem dX6_fewest_40 : decode cX6_fewest 40 = .ok (.istore 4, 2) := by decide +kernel
theorem dX6_fewest_42 : decode cX6_fewest 42 = .ok (.iconst 0, 1) := by decide +kernel
theorem dX6_fewest_43 : decode cX6_fewest 43 = .ok (.istore 5, 2) := by decide +kernel
theorem dX6_fewest_45 : decode cX6_fewest 45 = .ok (.iconst 0, 1) := by decide +kernel
theorem dX6_fewest_46 : decode cX6_fewest 46 = .ok (.istore 6, 2) := by decide +kernel
theorem dX6_fewest_48 : decode cX6_fewest 48 = .ok (.iload 6, 2) := by decide +kernel
theorem dX6_fewest_50 : decode cX6_fewest 50 = .ok (.aload_n 0, 1) := by decide +kernel
theorem dX6_fewest_51 : decode cX6_fewest 51 = .ok (.getfield 49, 3) := by decide +kernel
theorem dX6_fewest_54 : decode cX6_fewest 54 = .ok (.getfield 188, 3) := by decide +kernel
theorem dX6_fewest_57 : decode cX6_fewest 57 = .ok (.getfield 191, 3) := by decide +kernel
theorem dX6_fewest_60 : decode cX6_fewest 60 = .ok (.if_icmp .gt 37, 3) := by decide +kernel
theorem dX6_fewest_63 : decode cX6_fewest 63 = .ok (.iload 5, 2) := by decide +kernel
theorem dX6_fewest_65 : decode cX6_fewest 65 = .ok (.sipush 1000, 3) := by decide +kernel
theorem dX6_fewest_68 : decode cX6_fewest 68 = .ok (.imul, 1) := by decide +kernel
theorem dX6_fewest_69 : decode cX6_fewest 69 = .ok (.iload 4, 2) := by decide +kernel
theorem dX6_fewest_71 : decode cX6_fewest 71 = .ok (.if_icmp .lt 6, 3) := by decide +kernel
theorem dX6_fewest_74 : decode cX6_fewest 74 = .ok (.iload 6, 2) := by decide +kernel
theorem dX6_fewest_76 : decode cX6_fewest 76 = .ok (.ireturn, 1) := by decide +kernel
theorem dX6_fewest_77 : decode cX6_fewest 77 = .ok (.iload 5, 2) := by decide +kernel
theorem dX6_fewest_79 : decode cX6_fewest 79 = .ok (.aload_n 0, 1) := by decide +kernel
theorem dX6_fewest_80 : decode cX6_fewest 80 = .ok (.getfield 49, 3) := by decide +kernel
theorem dX6_fewest_83 : decode cX6_fewest 83 = .ok (.iload 6, 2) := by decide +kernel
theorem dX6_fewest_85 : decode cX6_fewest 85 = .ok (.invokevirtual 208, 3) := by decide +kernel
theorem dX6_fewest_88 : decode cX6_fewest 88 = .ok (.iadd, 1) := by decide +kernel
theorem dX6_fewest_89 : decode cX6_fewest 89 = .ok (.istore 5, 2) := by decide +kernel
theorem dX6_fewest_91 : decode cX6_fewest 91 = .ok (.iinc 6 1, 3) := by decide +kernel
theorem dX6_fewest_94 : decode cX6_fewest 94 = .ok (.goto (-46), 3) := by decide +kernel
theorem dX6_fewest_97 : decode cX6_fewest 97 = .ok (.iconst (-1), 1) := by decide +kernel
theorem dX6_fewest_98 : decode cX6_fewest 98 = .ok (.ireturn, 1) := by decide +kernel
theorem dX6_drill_0 : decode cX6_drill 0 = .ok (.aload_n 0, 1) := by decide +kernel
theorem dX6_drill_1 : decode cX6_drill 1 = .ok (.iload_n 1, 1) := by decide +kernel
theorem dX6_drill_2 : decode cX6_drill 2 = .ok (.invokevirtual 124, 3) := by decide +kernel
theorem dX6_drill_5 : decode cX6_drill 5 = .ok (.astore_n 2, 1) := by decide +kernel
theorem dX6_drill_6 : decode cX6_drill 6 = .ok (.iconst 0, 1) := by decide +kernel
theorem dX6_drill_7 : decode cX6_drill 7 = .ok (.istore_n 3, 1) := by decide +kernel
theorem dX6_drill_8 : decode cX6_drill 8 = .ok (.iload_n 3, 1) := by decide +kernel
theorem dX6_drill_9 : decode cX6_drill 9 = .ok (.iconst 3, 1) := by decide +kernel
theorem dX6_drill_10 : decode cX6_drill 10 = .ok (.if_icmp .ge 60, 3) := by decide +kernel
theorem dX6_drill_13 : decode cX6_drill 13 = .ok (.aload_n 0, 1) := by decide +kernel
theorem dX6_drill_14 : decode cX6_drill 14 = .ok (.iload_n 1, 1) := by decide +kernel
theorem dX6_drill_15 : decode cX6_drill 15 = .ok (.aload_n 2, 1) := by decide +kernel
theorem dX6_drill_16 : decode cX6_drill 16 = .ok (.invokevirtual 204, 3) := by decide +kernel
theorem dX6_drill_19 : decode cX6_drill 19 = .ok (.aload_n 0, 1) := by decide +kernel
theorem dX6_drill_20 : decode cX6_drill 20 = .ok (.getfield 49, 3) := by decide +kernel
theorem dX6_drill_23 : decode cX6_drill 23 = .ok (.iconst 0, 1) := by decide +kernel
theorem dX6_drill_24 : decode cX6_drill 24 = .ok (.invokevirtual 199, 3) := by decide +kernel
theorem dX6_drill_27 : decode cX6_drill 27 = .ok (.istore 4, 2) := by decide +kernel
theorem dX6_drill_29 : decode cX6_drill 29 = .ok (.aload_n 0, 1) := by decide +kernel
theorem dX6_drill_30 : decode cX6_drill 30 = .ok (.getfield 49, 3) := by decide +kernel
theorem dX6_drill_33 : decode cX6_drill 33 = .ok (.getfield 188, 3) := by decide +kernel
theorem dX6_drill_36 : decode cX6_drill 36 = .ok (.iload 4, 2) := by decide +kernel
theorem dX6_drill_38 : decode cX6_drill 38 = .ok (.invokevirtual 138, 3) := by decide +kernel
theorem dX6_drill_41 : decode cX6_drill 41 = .ok (.ifCond .ne 6, 3) := by decide +kernel
theorem dX6_drill_44 : decode cX6_drill 44 = .ok (.goto 26, 3) := by decide +kernel
theorem dX6_drill_47 : decode cX6_drill 47 = .ok (.aload_n 2, 1) := by decide +kernel
theorem dX6_drill_48 : decode cX6_drill 48 = .ok (.aload_n 0, 1) := by decide +kernel
theorem dX6_drill_49 : decode cX6_drill 49 = .ok (.getfield 49, 3) := by decide +kernel
theorem dX6_drill_52 : decode cX6_drill 52 = .ok (.getfield 188, 3) := by decide +kernel
theorem dX6_drill_55 : decode cX6_drill 55 = .ok (.getfield 143, 3) := by decide +kernel
theorem dX6_drill_58 : decode cX6_drill 58 = .ok (.iload 4, 2) := by decide +kernel
theorem dX6_drill_60 : decode cX6_drill 60 = .ok (.iaload, 1) := by decide +kernel
theorem dX6_drill_61 : decode cX6_drill 61 = .ok (.putfield 150, 3) := by decide +kernel
theorem dX6_drill_64 : decode cX6_drill 64 = .ok (.iinc 3 1, 3) := by decide +kernel
theorem dX6_drill_67 : decode cX6_drill 67 = .ok (.goto (-59), 3) := by decide +kernel
theorem dX6_drill_70 : decode cX6_drill 70 = .ok (.aload_n 2, 1) := by decide +kernel
theorem dX6_drill_71 : decode cX6_drill 71 = .ok (.getfield 150, 3) := by decide +kernel
theorem dX6_drill_74 : decode cX6_drill 74 = .ok (.ireturn, 1) := by decide +kernel
theorem dX6_setAxes_0 : decode cX6_setAxes 0 = .ok (.aload_n 0, 1) := by decide +kernel
theorem dX6_setAxes_1 : decode cX6_setAxes 1 = .ok (.iload_n 1, 1) := by decide +kernel
theorem dX6_setAxes_2 : decode cX6_setAxes 2 = .ok (.iload_n 2, 1) := by decide +kernel
theorem dX6_setAxes_3 : decode cX6_setAxes 3 = .ok (.invokevirtual 211, 3) := by decide +kernel
theorem dX6_setAxes_6 : decode cX6_setAxes 6 = .ok (.aload_n 0, 1) := by decide +kernel
theorem dX6_setAxes_7 : decode cX6_setAxes 7 = .ok (.iload_n 3, 1) := by decide +kernel
theorem dX6_setAxes_8 : decode cX6_setAxes 8 = .ok (.iload 4, 2) := by decide +kernel
theorem dX6_setAxes_10 : decode cX6_setAxes 10 = .ok (.invokevirtual 211, 3) := by decide +kernel
theorem dX6_setAxes_13 : decode cX6_setAxes 13 = .ok (.iload_n 1, 1) := by decide +kernel
theorem dX6_setAxes_14 : decode cX6_setAxes 14 = .ok (.iload_n 3, 1) := by decide +kernel
theorem dX6_setAxes_15 : decode cX6_setAxes 15 = .ok (.if_icmp .ne 13, 3) := by decide +kernel
theorem dX6_setAxes_18 : decode cX6_setAxes 18 = .ok (.new 59, 3) := by decide +kernel
theorem dX6_setAxes_21 : decode cX6_setAxes 21 = .ok (.dup, 1) := by decide +kernel
theorem dX6_setAxes_22 : decode cX6_setAxes 22 = .ok (.ldc 214, 2) := by decide +kernel
theorem dX6_setAxes_24 : decode cX6_setAxes 24 = .ok (.invokespecial 63, 3) := by decide +kernel
theorem dX6_setAxes_27 : decode cX6_setAxes 27 = .ok (.athrow, 1) := by decide +kernel
theorem dX6_setAxes_28 : decode cX6_setAxes 28 = .ok (.aload_n 0, 1) := by decide +kernel
theorem dX6_setAxes_29 : decode cX6_setAxes 29 = .ok (.getfield 32, 3) := by decide +kernel
theorem dX6_setAxes_32 : decode cX6_setAxes 32 = .ok (.iload_n 1, 1) := by decide +kernel
theorem dX6_setAxes_33 : decode cX6_setAxes 33 = .ok (.putfield 216, 3) := by decide +kernel
theorem dX6_setAxes_36 : decode cX6_setAxes 36 = .ok (.aload_n 0, 1) := by decide +kernel
theorem dX6_setAxes_37 : decode cX6_setAxes 37 = .ok (.getfield 32, 3) := by decide +kernel
theorem dX6_setAxes_40 : decode cX6_setAxes 40 = .ok (.iload_n 2, 1) := by decide +kernel
theorem dX6_setAxes_41 : decode cX6_setAxes 41 = .ok (.putfield 219, 3) := by decide +kernel
theorem dX6_setAxes_44 : decode cX6_setAxes 44 = .ok (.aload_n 0, 1) := by decide +kernel
theorem dX6_setAxes_45 : decode cX6_setAxes 45 = .ok (.getfield 36, 3) := by decide +kernel
theorem dX6_setAxes_48 : decode cX6_setAxes 48 = .ok (.iload_n 3, 1) := by decide +kernel
theorem dX6_setAxes_49 : decode cX6_setAxes 49 = .ok (.putfield 216, 3) := by decide +kernel
theorem dX6_setAxes_52 : decode cX6_setAxes 52 = .ok (.aload_n 0, 1) := by decide +kernel
theorem dX6_setAxes_53 : decode cX6_setAxes 53 = .ok (.getfield 36, 3) := by decide +kernel
theorem dX6_setAxes_56 : decode cX6_setAxes 56 = .ok (.iload 4, 2) := by decide +kernel
theorem dX6_setAxes_58 : decode cX6_setAxes 58 = .ok (.putfield 219, 3) := by decide +kernel
theorem dX6_setAxes_61 : decode cX6_setAxes 61 = .ok (.aload_n 0, 1) := by decide +kernel
theorem dX6_setAxes_62 : decode cX6_setAxes 62 = .ok (.iconst 1, 1) := by decide +kernel
theorem dX6_setAxes_63 : decode cX6_setAxes 63 = .ok (.putfield 222, 3) := by decide +kernel
theorem dX6_setAxes_66 : decode cX6_setAxes 66 = .ok (.aload_n 0, 1) := by decide +kernel
theorem dX6_setAxes_67 : decode cX6_setAxes 67 = .ok (.invokevirtual 226, 3) := by decide +kernel
theorem dX6_setAxes_70 : decode cX6_setAxes 70 = .ok (.aload_n 0, 1) := by decide +kernel
theorem dX6_setAxes_71 : decode cX6_setAxes 71 = .ok (.getfield 32, 3) := by decide +kernel
theorem dX6_setAxes_74 : decode cX6_setAxes 74 = .ok (.getfield 229, 3) := by decide +kernel
theorem dX6_setAxes_77 : decode cX6_setAxes 77 = .ok (.ireturn, 1) := by decide +kernel
theorem dX6_peak_0 : decode cX6_peak 0 = .ok (.aload_n 0, 1) := by decide +kernel
theorem dX6_peak_1 : decode cX6_peak 1 = .ok (.invokevirtual 235, 3) := by decide +kernel
theorem dX6_peak_4 : decode cX6_peak 4 = .ok (.aload_n 0, 1) := by decide +kernel
theorem dX6_peak_5 : decode cX6_peak 5 = .ok (.aload_n 0, 1) := by decide +kernel
theorem dX6_peak_6 : decode cX6_peak 6 = .ok (.getfield 32, 3) := by decide +kernel
theorem dX6_peak_9 : decode cX6_peak 9 = .ok (.iload_n 1, 1) := by decide +kernel
theorem dX6_peak_10 : decode cX6_peak 10 = .ok (.invokevirtual 238, 3) := by decide +kernel
theorem dX6_peak_13 : decode cX6_peak 13 = .ok (.iconst (-1), 1) := by decide +kernel
theorem dX6_peak_14 : decode cX6_peak 14 = .ok (.istore_n 2, 1) := by decide +kernel
theorem dX6_peak_15 : decode cX6_peak 15 = .ok (.iconst 0, 1) := by decide +kernel
theorem dX6_peak_16 : decode cX6_peak 16 = .ok (.istore_n 3, 1) := by decide +kernel
theorem dX6_peak_17 : decode cX6_peak 17 = .ok (.iload_n 3, 1) := by decide +kernel
theorem dX6_peak_18 : decode cX6_peak 18 = .ok (.aload_n 0, 1) := by decide +kernel
theorem dX6_peak_19 : decode cX6_peak 19 = .ok (.getfield 36, 3) := by decide +kernel
theorem dX6_peak_22 : decode cX6_peak 22 = .ok (.getfield 229, 3) := by decide +kernel
theorem dX6_peak_25 : decode cX6_peak 25 = .ok (.if_icmp .ge 31, 3) := by decide +kernel
theorem dX6_peak_28 : decode cX6_peak 28 = .ok (.iload_n 2, 1) := by decide +kernel
theorem dX6_peak_29 : decode cX6_peak 29 = .ok (.iconst (-1), 1) := by decide +kernel
theorem dX6_peak_30 : decode cX6_peak 30 = .ok (.if_icmp .eq 18, 3) := by decide +kernel
theorem dX6_peak_33 : decode cX6_peak 33 = .ok (.aload_n 0, 1) := by decide +kernel
theorem dX6_peak_34 : decode cX6_peak 34 = .ok (.iload_n 1, 1) := by decide +kernel
theorem dX6_peak_35 : decode cX6_peak 35 = .ok (.iload_n 3, 1) := by decide +kernel
theorem dX6_peak_36 : decode cX6_peak 36 = .ok (.invokevirtual 245, 3) := by decide +kernel
theorem dX6_peak_39 : decode cX6_peak 39 = .ok (.aload_n 0, 1) := by decide +kernel
theorem dX6_peak_40 : decode cX6_peak 40 = .ok (.iload_n 1, 1) := by decide +kernel
theorem dX6_peak_41 : decode cX6_peak 41 = .ok (.iload_n 2, 1) := by decide +kernel
theorem dX6_peak_42 : decode cX6_peak 42 = .ok (.invokevirtual 245, 3) := by decide +kernel
theorem dX6_peak_45 : decode cX6_peak 45 = .ok (.if_icmp .le 5, 3) := by decide +kernel
theorem dX6_peak_48 : decode cX6_peak 48 = .ok (.iload_n 3, 1) := by decide +kernel
theorem dX6_peak_49 : decode cX6_peak 49 = .ok (.istore_n 2, 1) := by decide +kernel
theorem dX6_peak_50 : decode cX6_peak 50 = .ok (.iinc 3 1, 3) := by decide +kernel
theorem dX6_peak_53 : decode cX6_peak 53 = .ok (.goto (-36), 3) := by decide +kernel
theorem dX6_peak_56 : decode cX6_peak 56 = .ok (.iload_n 2, 1) := by decide +kernel
theorem dX6_peak_57 : decode cX6_peak 57 = .ok (.ireturn, 1) := by decide +kernel
theorem dX6_setLevel_0 : decode cX6_setLevel 0 = .ok (.aload_n 0, 1) := by decide +kernel
theorem dX6_setLevel_1 : decode cX6_setLevel 1 = .ok (.iload_n 1, 1) := by decide +kernel
theorem dX6_setLevel_2 : decode cX6_setLevel 2 = .ok (.iload_n 2, 1) := by decide +kernel
theorem dX6_setLevel_3 : decode cX6_setLevel 3 = .ok (.invokevirtual 211, 3) := by decide +kernel
theorem dX6_setLevel_6 : decode cX6_setLevel 6 = .ok (.aload_n 0, 1) := by decide +kernel
theorem dX6_setLevel_7 : decode cX6_setLevel 7 = .ok (.getfield 249, 3) := by decide +kernel
theorem dX6_setLevel_10 : decode cX6_setLevel 10 = .ok (.iload_n 1, 1) := by decide +kernel
theorem dX6_setLevel_11 : decode cX6_setLevel 11 = .ok (.invokestatic 252, 3) := by decide +kernel
theorem dX6_setLevel_14 : decode cX6_setLevel 14 = .ok (.istore_n 3, 1) := by decide +kernel
theorem dX6_setLevel_15 : decode cX6_setLevel 15 = .ok (.aload_n 0, 1) := by decide +kernel
theorem dX6_setLevel_16 : decode cX6_setLevel 16 = .ok (.dup, 1) := by decide +kernel
theorem dX6_setLevel_17 : decode cX6_setLevel 17 = .ok (.getfield 249, 3) := by decide +kernel
theorem dX6_setLevel_20 : decode cX6_setLevel 20 = .ok (.iload_n 2, 1) := by decide +kernel
theorem dX6_setLevel_21 : decode cX6_setLevel 21 = .ok (.iload_n 3, 1) := by decide +kernel
theorem dX6_setLevel_22 : decode cX6_setLevel 22 = .ok (.isub, 1) := by decide +kernel
theorem dX6_setLevel_23 : decode cX6_setLevel 23 = .ok (.iload_n 1, 1) := by decide +kernel
theorem dX6_setLevel_24 : decode cX6_setLevel 24 = .ok (.invokestatic 255, 3) := by decide +kernel
theorem dX6_setLevel_27 : decode cX6_setLevel 27 = .ok (.ishl, 1) := by decide +kernel
theorem dX6_setLevel_28 : decode cX6_setLevel 28 = .ok (.iadd, 1) := by decide +kernel
theorem dX6_setLevel_29 : decode cX6_setLevel 29 = .ok (.putfield 249, 3) := by decide +kernel
theorem dX6_setLevel_32 : decode cX6_setLevel 32 = .ok (.iload_n 3, 1) := by decide +kernel
theorem dX6_setLevel_33 : decode cX6_setLevel 33 = .ok (.ireturn, 1) := by decide +kernel
theorem dX6_keep_0 : decode cX6_keep 0 = .ok (.aload_n 0, 1) := by decide +kernel
theorem dX6_keep_1 : decode cX6_keep 1 = .ok (.getfield 25, 3) := by decide +kernel
theorem dX6_keep_4 : decode cX6_keep 4 = .ok (.getfield 261, 3) := by decide +kernel
theorem dX6_keep_7 : decode cX6_keep 7 = .ok (.bipush 6, 2) := by decide +kernel
theorem dX6_keep_9 : decode cX6_keep 9 = .ok (.if_icmp .lt 14, 3) := by decide +kernel
theorem dX6_keep_12 : decode cX6_keep 12 = .ok (.new 70, 3) := by decide +kernel
theorem dX6_keep_15 : decode cX6_keep 15 = .ok (.dup, 1) := by decide +kernel
theorem dX6_keep_16 : decode cX6_keep 16 = .ok (.ldc_w 262, 3) := by decide +kernel
theorem dX6_keep_19 : decode cX6_keep 19 = .ok (.invokespecial 74, 3) := by decide +kernel
theorem dX6_keep_22 : decode cX6_keep 22 = .ok (.athrow, 1) := by decide +kernel
theorem dX6_keep_23 : decode cX6_keep 23 = .ok (.aload_n 0, 1) := by decide +kernel
theorem dX6_keep_24 : decode cX6_keep 24 = .ok (.getfield 25, 3) := by decide +kernel
theorem dX6_keep_27 : decode cX6_keep 27 = .ok (.getfield 261, 3) := by decide +kernel
theorem dX6_keep_30 : decode cX6_keep 30 = .ok (.istore_n 1, 1) := by decide +kernel
theorem dX6_keep_31 : decode cX6_keep 31 = .ok (.aload_n 0, 1) := by decide +kernel
theorem dX6_keep_32 : decode cX6_keep 32 = .ok (.getfield 25, 3) := by decide +kernel
theorem dX6_keep_35 : decode cX6_keep 35 = .ok (.dup, 1) := by decide +kernel
theorem dX6_keep_36 : decode cX6_keep 36 = .ok (.getfield 261, 3) := by decide +kernel
theorem dX6_keep_39 : decode cX6_keep 39 = .ok (.iconst 1, 1) := by decide +kernel
theorem dX6_keep_40 : decode cX6_keep 40 = .ok (.iadd, 1) := by decide +kernel
theorem dX6_keep_41 : decode cX6_keep 41 = .ok (.putfield 261, 3) := by decide +kernel
theorem dX6_keep_44 : decode cX6_keep 44 = .ok (.aload_n 0, 1) := by decide +kernel
theorem dX6_keep_45 : decode cX6_keep 45 = .ok (.getfield 25, 3) := by decide +kernel
theorem dX6_keep_48 : decode cX6_keep 48 = .ok (.getfield 264, 3) := by decide +kernel
theorem dX6_keep_51 : decode cX6_keep 51 = .ok (.iload_n 1, 1) := by decide +kernel
theorem dX6_keep_52 : decode cX6_keep 52 = .ok (.aload_n 0, 1) := by decide +kernel
theorem dX6_keep_53 : decode cX6_keep 53 = .ok (.getfield 249, 3) := by decide +kernel
theorem dX6_keep_56 : decode cX6_keep 56 = .ok (.iastore, 1) := by decide +kernel
theorem dX6_keep_57 : decode cX6_keep 57 = .ok (.aload_n 0, 1) := by decide +kernel
theorem dX6_keep_58 : decode cX6_keep 58 = .ok (.getfield 25, 3) := by decide +kernel
theorem dX6_keep_61 : decode cX6_keep 61 = .ok (.iload_n 1, 1) := by decide +kernel
theorem dX6_keep_62 : decode cX6_keep 62 = .ok (.aload_n 0, 1) := by decide +kernel
theorem dX6_keep_63 : decode cX6_keep 63 = .ok (.aload_n 0, 1) := by decide +kernel
theorem dX6_keep_64 : decode cX6_keep 64 = .ok (.getfield 249, 3) := by decide +kernel
theorem dX6_keep_67 : decode cX6_keep 67 = .ok (.invokevirtual 258, 3) := by decide +kernel
theorem dX6_keep_70 : decode cX6_keep 70 = .ok (.invokevirtual 267, 3) := by decide +kernel
theorem dX6_keep_73 : decode cX6_keep 73 = .ok (.iload_n 1, 1) := by decide +kernel
theorem dX6_keep_74 : decode cX6_keep 74 = .ok (.ireturn, 1) := by decide +kernel
/-! by program: wip/whole/gen.py out of wip/whole/src/23.asks.eb -/
/-! EbbTable: fewest, drill, axes, the best column, levels, views kept -/
set_option maxRecDepth 100000 in
set_option maxHeartbeats 8000000 in
theorem c_X6_fewest {l : Launch} {D : va_G} {cys : Nat → ClassId} {ad : Nat → Int → Nat} {L : List Nat} {g : Nat → va_E} {X : Int64} {Z : ZT} (hi : injA ad) (hst : l.stackTraces = false) {S : ZT} {d q : Int} (hS : SP S Z) (hW : WF S) (hd : inR d) (hq : inR q) : CX l D cys ad yX6_fewest cX6_fewest 7 (some .int) 7 111 2 12 [.ref (ad 0 0), .int (iI d), .int (iI q)] L g X Z (PIZ L g X Z (fun r Z' => (0 ≤ d ∧ d < S 0 0 5) ∧ (1 ≤ q ∧ q ≤ 1000) ∧ fwP (lsum S d) (kids S d).length (q * SUM S) r ∧ SP S Z')) (PXZ L g X (fun E Z' => ((E = exI ∧ ¬ (0 ≤ d ∧ d < S 0 0 5)) ∨ (E = exA ∧ (0 ≤ d ∧ d < S 0 0 5) ∧ ¬ (1 ≤ q ∧ q ≤ 1000))) ∧ Z' = Z)) := by
  refine cx_start hi (by decide +kernel) (Nat.le_of_ble_eq_true rfl) ?_
  intro p_ e_ s_ m_ args_ below_ meth_ c_ A_ Q_ hQX hE G hr
  have hQ := vq_of hQX
  have hn := hW.n
  refine j_aload_n G dX6_fewest_0 rfl ?_
  refine j_iload_n G dX6_fewest_1 rfl ?_
  refine j_cVXR G hQX hE cvX6_treeOf ml6_124 (c_X6_treeOf hi hst (by first | assumption | omega | decide) (by first | assumption | omega | decide) (by first | assumption | omega | decide)) dX6_fewest_2 ⟨by decide, by decide⟩ ⟨by decide, by decide⟩ (by decide) (by decide) rfl rfl (Nat.le_of_ble_eq_true rfl) (by first | assumption | decide) rfl rfl rfl (fun E Z1 h => ⟨Or.inl ⟨h.1, h.2.1⟩, h.2.2⟩) (fun r2 h2 => ?_)
  obtain ⟨rfl, hd0, hd1⟩ := h2
  have hdd : 0 ≤ d ∧ d < S 0 0 5 := ⟨hd0, hd1⟩
  refine j_astore_n G dX6_fewest_5 (by decide) rfl ?_
  refine j_iload_n G dX6_fewest_6 rfl ?_
  refine j_iconst G dX6_fewest_7 ?_
  refine j_icmp_lt G 18 dX6_fewest_8 (by decide) (by omega) (by omega) (fun c8 => ?_) (fun c8 => ?_)
  · refine j_throw G hQX hE hst (E := exA) (names := xNm) (by decide +kernel) (by decide +kernel) xkA xiA (List.mem_of_getElem? (i := 18) rfl) xt1A xt2A xt3A dX6_fewest_18 dX6_fewest_21 dX6_fewest_22 dX6_fewest_24 dX6_fewest_27 ⟨by decide, Nat.le_of_ble_eq_true rfl, by decide, by decide⟩ (by decide) (by decide) ?_
    exact ⟨⟨Or.inr ⟨rfl, hdd, by omega⟩, rfl⟩, rfl, rfl, rfl⟩
  · refine j_iload_n G dX6_fewest_11 rfl ?_
    refine j_sipush G dX6_fewest_12 (by decide +kernel) ?_
    refine j_icmp_le G 28 dX6_fewest_15 (by decide) (by omega) (by omega) (fun c15 => ?_) (fun c15 => ?_)
    · refine j_aload_n G dX6_fewest_28 rfl ?_
      refine j_iload_n G dX6_fewest_29 rfl ?_
      refine j_aload_n G dX6_fewest_30 rfl ?_
      refine j_cVVZ G cvX6_lineUp ml6_204 (c_X6_lineUp hi hS hW hdd) dX6_fewest_31 ⟨by decide, by decide⟩ ⟨by decide, by decide⟩ rfl rfl (Nat.le_of_ble_eq_true rfl) (by first | assumption | decide) rfl rfl rfl (fun Z31 h31 => ?_)
      obtain ⟨hS31, hL31, hs31⟩ := h31
      refine j_iload_n G dX6_fewest_34 rfl ?_
      refine j_aload_n G dX6_fewest_35 rfl ?_
      refine j_cVI G cvX6_sum ml6_182 (c_X6_sum hi hS31 hW) dX6_fewest_36 ⟨by decide, by decide⟩ ⟨by decide, by decide⟩ rfl rfl (Nat.le_of_ble_eq_true rfl) (by first | assumption | decide) rfl rfl rfl (fun r36 h36 => ?_)
      subst h36
      have hk := (kids_ok hW hd0 hd1).1
      have hl := hL31.1
      have hsb := SUM_bd hW
      have hn3 : 0 ≤ Z31 16 3 1 ∧ Z31 16 3 1 ≤ 24 := by omega
      have hv3 : ∀ j, 0 ≤ j → j < 24 → inR (Z31 21 0 j) := fun j j0 j1 => by
        rw [hs31 j j0 j1]; have := lsum_bd hW d j; omega
      have hps : inR (q * SUM S) := by
        have := mul_pt (q := q) (by omega) (by omega) hsb.1 hsb.2
        omega
      refine j_imul G dX6_fewest_39 ?_
      refine j_istore G dX6_fewest_40 (by decide) rfl ?_
      refine j_iconst G dX6_fewest_42 ?_
      refine j_istore G dX6_fewest_43 (by decide) rfl ?_
      refine j_iconst G dX6_fewest_45 ?_
      refine j_istore G dX6_fewest_46 (by decide) rfl ?_
      have loop : ∀ (n : Nat) (a b : Int), 0 ≤ a → a ≤ (kids S d).length + 1 → ((kids S d).length + 1 - a).toNat = n → b = tgF (lsum S d) (kids S d).length a.toNat → (∀ t, 0 ≤ t → t < a → WR (tgF (lsum S d) (kids S d).length t.toNat * 1000) < q * SUM S) → JJ p_ l e_ { frames := 7, cells := 2, slots := 12, locals := 111 } s_ m_ args_ below_ meth_ c_ D cys ad A_ Q_ 7 1 6 L g X Z31 48 [(0, .ref (ad 0 0)), (4, .int (iI (q * SUM S))), (5, .int (iI b)), (6, .int (iI a))] [] := by
        intro n
        induction n with
        | zero =>
          intro a b h0 h1 h2 h3 h4
          have ea : a = (kids S d).length + 1 := by omega
          subst ea
          refine j_iload G dX6_fewest_48 rfl ?_
          refine j_aload_n G dX6_fewest_50 rfl ?_
          refine gf_0_10 G dX6_fewest_51 lf6_49 (by first | assumption | decide) ?_
          refine gf_20_0 G dX6_fewest_54 lf6_188 (by first | assumption | decide) ?_
          refine gf_16_1 G dX6_fewest_57 lf6_191 (by first | assumption | decide) ?_
          refine j_icmp_gt G 97 dX6_fewest_60 (by decide) (by omega) (by omega) (fun c60 => ?_) (fun c60 => ?_)
          · refine j_iconst G dX6_fewest_97 ?_
            refine jr_IZ G hQ hr dX6_fewest_98 (by decide) (by decide) ?_
            exact ⟨hdd, by omega, Or.inr ⟨rfl, fun t t0 t1 => h4 t t0 (by omega)⟩, hS31⟩
          · exfalso; omega
        | succ n ih =>
          intro a b h0 h1 h2 h3 h4
          have hwr := WR_in (b * 1000)
          have ha : inR a := by omega
          refine j_iload G dX6_fewest_48 rfl ?_
          refine j_aload_n G dX6_fewest_50 rfl ?_
          refine gf_0_10 G dX6_fewest_51 lf6_49 (by first | assumption | decide) ?_
          refine gf_20_0 G dX6_fewest_54 lf6_188 (by first | assumption | decide) ?_
          refine gf_16_1 G dX6_fewest_57 lf6_191 (by first | assumption | decide) ?_
          refine j_icmp_gt G 97 dX6_fewest_60 (by decide) (by omega) (by omega) (fun c60 => ?_) (fun c60 => ?_)
          · exfalso; omega
          · refine j_iload G dX6_fewest_63 rfl ?_
            refine j_sipush G dX6_fewest_65 (by decide +kernel) ?_
            refine j_imul G dX6_fewest_68 ?_
            rw [← iI_WR (b * 1000)]
            refine j_iload G dX6_fewest_69 rfl ?_
            refine j_icmp_lt G 77 dX6_fewest_71 (by decide) (by omega) (by omega) (fun c71 => ?_) (fun c71 => ?_)
            · refine j_iload G dX6_fewest_77 rfl ?_
              refine j_aload_n G dX6_fewest_79 rfl ?_
              refine gf_0_10 G dX6_fewest_80 lf6_49 (by first | assumption | decide) ?_
              refine j_iload G dX6_fewest_83 rfl ?_
              refine j_cVI G cvX2_sumOfRank ml6_208 (c_X2_sumOfRank hi hn3 ha hv3) dX6_fewest_85 ⟨by decide, by decide⟩ ⟨by decide, by decide⟩ rfl rfl (Nat.le_of_ble_eq_true rfl) (by first | assumption | decide) rfl rfl rfl (fun r85 h85 => ?_)
              have h85' : r85 = srF (lsum S d) (kids S d).length a := by
                rcases h85 with ⟨c, w0, w1, w2, w3, w4⟩ | ⟨w1, w2⟩
                · have e := rk_eq (rk_Z (q := a) (r := c) hL31 hs31 hk (Or.inl ⟨w0, w1, w2, w3⟩))
                  unfold srF
                  rw [← e, if_neg (by omega), w4]
                  exact hs31 c w0 (by omega)
                · have e := rk_eq (rk_Z (q := a) (r := -1) hL31 hs31 hk (Or.inr ⟨rfl, w2⟩))
                  unfold srF
                  rw [← e, if_pos rfl, w1]
              clear h85
              refine j_iadd G dX6_fewest_88 ?_
              refine j_istore G dX6_fewest_89 (by decide) rfl ?_
              refine j_iinc G dX6_fewest_91 rfl (by decide) rfl ?_
              refine j_goto G 48 dX6_fewest_94 (by decide) ?_
              refine ih (a + 1) _ (by omega) (by omega) (by omega) ?_ (fun t t0 t1 => ?_)
              · rw [tgF_s h0, ← h3, h85']
              · by_cases e : t = a
                · subst e; rw [← h3]; assumption
                · exact h4 t t0 (by omega)
            · have c71' : q * SUM S ≤ WR (b * 1000) := c71
              refine j_iload G dX6_fewest_74 rfl ?_
              refine jr_IZ G hQ hr dX6_fewest_76 (by decide) (by decide) ?_
              refine ⟨hdd, by omega, Or.inl ⟨h0, by omega, ?_, h4⟩, hS31⟩
              rw [← h3]; assumption
      refine j_keep [0, 4, 5, 6] ?_
      exact loop _ 0 0 (by omega) (by omega) rfl rfl (fun t t0 t1 => by omega)
    · refine j_throw G hQX hE hst (E := exA) (names := xNm) (by decide +kernel) (by decide +kernel) xkA xiA (List.mem_of_getElem? (i := 18) rfl) xt1A xt2A xt3A dX6_fewest_18 dX6_fewest_21 dX6_fewest_22 dX6_fewest_24 dX6_fewest_27 ⟨by decide, Nat.le_of_ble_eq_true rfl, by decide, by decide⟩ (by decide) (by decide) ?_
      exact ⟨⟨Or.inr ⟨rfl, hdd, by omega⟩, rfl⟩, rfl, rfl, rfl⟩
set_option maxRecDepth 100000 in
set_option maxHeartbeats 8000000 in
theorem c_X6_drill {l : Launch} {D : va_G} {cys : Nat → ClassId} {ad : Nat → Int → Nat} {L : List Nat} {g : Nat → va_E} {X : Int64} {Z : ZT} (hi : injA ad) (hst : l.stackTraces = false) {S : ZT} {d : Int} (hS : SP S Z) (hW : WF S) (hd : inR d) : CX l D cys ad yX6_drill cX6_drill 5 (some .int) 7 111 1 6 [.ref (ad 0 0), .int (iI d)] L g X Z (PIZ L g X Z (fun r Z' => (0 ≤ d ∧ d < S 0 0 5) ∧ r = drF d 3 S 2 d 5 ∧ SP (drF d 3 S) Z')) (PXZ L g X (fun E Z' => E = exI ∧ ¬ (0 ≤ d ∧ d < S 0 0 5) ∧ Z' = Z)) := by
  refine cx_start hi (by decide +kernel) (Nat.le_of_ble_eq_true rfl) ?_
  intro p_ e_ s_ m_ args_ below_ meth_ c_ A_ Q_ hQX hE G hr
  have hQ := vq_of hQX
  have hn := hW.n
  refine j_aload_n G dX6_drill_0 rfl ?_
  refine j_iload_n G dX6_drill_1 rfl ?_
  refine j_cVXR G hQX hE cvX6_treeOf ml6_124 (c_X6_treeOf hi hst (by first | assumption | omega | decide) (by first | assumption | omega | decide) (by first | assumption | omega | decide)) dX6_drill_2 ⟨by decide, by decide⟩ ⟨by decide, by decide⟩ (by decide) (by decide) rfl rfl (Nat.le_of_ble_eq_true rfl) (by first | assumption | decide) rfl rfl rfl (fun _ _ h => h) (fun r2 h2 => ?_)
  obtain ⟨rfl, hd0, hd1⟩ := h2
  have hv2 : vd 2 d := ⟨hd0, show d < 4 by omega⟩
  refine j_astore_n G dX6_drill_5 (by decide) rfl ?_
  refine j_iconst G dX6_drill_6 ?_
  refine j_istore_n G dX6_drill_7 (by decide) rfl ?_
  have loop : ∀ (n : Nat) (a : Int) (T Y : ZT), 0 ≤ a → a ≤ 3 → (3 - a).toNat = n → WF T → SP T Y → T 0 0 5 = S 0 0 5 → drF d n T = drF d 3 S → JJ p_ l e_ { frames := 7, cells := 1, slots := 6, locals := 111 } s_ m_ args_ below_ meth_ c_ D cys ad A_ Q_ 5 1 6 L g X Y 8 [(0, .ref (ad 0 0)), (1, .int (iI d)), (2, .ref (ad 2 d)), (3, .int (iI a))] [] := by
    intro n
    induction n with
    | zero =>
      intro a T Y h0 h1 h2 hWT h3 h4 h5
      have ea : a = 3 := by omega
      subst ea
      have h5 : T = drF d 3 S := h5
      refine j_iload_n G dX6_drill_8 rfl ?_
      refine j_iconst G dX6_drill_9 ?_
      refine j_icmp_ge G 70 dX6_drill_10 (by decide) (by omega) (by omega) (fun c10 => ?_) (fun c10 => ?_)
      · refine j_aload_n G dX6_drill_70 rfl ?_
        refine gf_2_5 G dX6_drill_71 lf6_150 (by first | assumption | decide) ?_
        refine jr_IZ G hQ hr dX6_drill_74 (by decide) (by decide) ?_
        exact ⟨⟨hd0, hd1⟩, by rw [h3.1 2 rfl, h5], h5 ▸ h3⟩
      · exfalso; omega
    | succ n ih =>
      intro a T Y h0 h1 h2 hWT h3 h4 h5
      have hdT : 0 ≤ d ∧ d < T 0 0 5 := by omega
      have hkk := kids_ok hWT hdT.1 hdT.2
      have hk := hkk.1
      have hv3 : vd 16 3 := by decide
      refine j_iload_n G dX6_drill_8 rfl ?_
      refine j_iconst G dX6_drill_9 ?_
      refine j_icmp_ge G 70 dX6_drill_10 (by decide) (by omega) (by omega) (fun c10 => ?_) (fun c10 => ?_)
      · exfalso; omega
      · refine j_aload_n G dX6_drill_13 rfl ?_
        refine j_iload_n G dX6_drill_14 rfl ?_
        refine j_aload_n G dX6_drill_15 rfl ?_
        refine j_cVVZ G cvX6_lineUp ml6_204 (c_X6_lineUp hi h3 hWT hdT) dX6_drill_16 ⟨by decide, by decide⟩ ⟨by decide, by decide⟩ rfl rfl (Nat.le_of_ble_eq_true rfl) (by first | assumption | decide) rfl rfl rfl (fun Z16 h16 => ?_)
        obtain ⟨hS16, hL16, hs16⟩ := h16
        have hl := hL16.1
        have hn3 : 0 ≤ Z16 16 3 1 ∧ Z16 16 3 1 ≤ 24 := by omega
        have hv3' : ∀ j, 0 ≤ j → j < 24 → inR (Z16 21 0 j) := fun j j0 j1 => by
          rw [hs16 j j0 j1]; have := lsum_bd hWT d j; omega
        have h0r : inR 0 := by decide
        refine j_aload_n G dX6_drill_19 rfl ?_
        refine gf_0_10 G dX6_drill_20 lf6_49 (by first | assumption | decide) ?_
        refine j_iconst G dX6_drill_23 ?_
        refine j_cVI G cvX2_childOfRank ml6_199 (c_X2_childOfRank hi hn3 h0r hv3') dX6_drill_24 ⟨by decide, by decide⟩ ⟨by decide, by decide⟩ rfl rfl (Nat.le_of_ble_eq_true rfl) (by first | assumption | decide) rfl rfl rfl (fun r24 h24 => ?_)
        have h24' := rk_eq (rk_Z hL16 hs16 hk h24)
        have hr24 : inR r24 := by omega
        have hsz : inR (Z16 16 3 1) := by omega
        refine j_istore G dX6_drill_27 (by decide) rfl ?_
        refine j_aload_n G dX6_drill_29 rfl ?_
        refine gf_0_10 G dX6_drill_30 lf6_49 (by first | assumption | decide) ?_
        refine gf_20_0 G dX6_drill_33 lf6_188 (by first | assumption | decide) ?_
        refine j_iload G dX6_drill_36 rfl ?_
        refine j_cVI G cvX3_hasPlace ml6_138 (c_X3_hasPlace hi hv3 hr24 hsz) dX6_drill_38 ⟨by decide, by decide⟩ ⟨by decide, by decide⟩ rfl rfl (Nat.le_of_ble_eq_true rfl) (by first | assumption | decide) rfl rfl rfl (fun r38 h38 => ?_)
        refine j_if_ne G 47 dX6_drill_41 (by decide) (by omega) (fun c41 => ?_) (fun c41 => ?_)
        · have hrr : 0 ≤ r24 ∧ r24 < (kids T d).length := by omega
          have hLa := hL16.at hrr.1 hrr.2
          refine j_aload_n G dX6_drill_47 rfl ?_
          refine j_aload_n G dX6_drill_48 rfl ?_
          refine gf_0_10 G dX6_drill_49 lf6_49 (by first | assumption | decide) ?_
          refine gf_20_0 G dX6_drill_52 lf6_188 (by first | assumption | decide) ?_
          refine gf_16_0 G dX6_drill_55 lf6_143 (by first | assumption | decide) ?_
          refine j_iload G dX6_drill_58 rfl ?_
          refine al_17 G dX6_drill_60 (by first | assumption | decide) (by omega) (by omega) ?_
          refine pf_2_5 G dX6_drill_61 lf6_150 (by first | assumption | decide) ?_
          refine j_iinc G dX6_drill_64 rfl (by decide) rfl ?_
          refine j_goto G 8 dX6_drill_67 (by decide) ?_
          refine j_keep [0, 1, 2, 3] ?_
          refine ih (a + 1) (zS T 2 d 5 (Z16 17 3 r24)) _ (by omega) (by omega) (by omega) ?_ ?_ ?_ ?_
          · exact hWT.goTo (M_goTo.z T d _) hdT.2 (hkk.2 _ hLa.2.1).1 (hkk.2 _ hLa.2.1).2
          · exact hS16.st (k := 2) rfl _ _ _
          · rw [zS_k (by decide)]; exact h4
          · rw [← h5]
            show drF d n _ = if _ then _ else _
            rw [if_neg (by omega), ← h24', hLa.2.2]
        · refine j_goto G 70 dX6_drill_44 (by decide) ?_
          refine j_aload_n G dX6_drill_70 rfl ?_
          refine gf_2_5 G dX6_drill_71 lf6_150 (by first | assumption | decide) ?_
          refine jr_IZ G hQ hr dX6_drill_74 (by decide) (by decide) ?_
          have hz : (kids T d).length = 0 := by
            refine Classical.byContradiction fun z => ?_
            have := rkF_in (lsum T d) (kids T d).length 0 (by omega) (by omega)
            omega
          have e : drF d (n + 1) T = T := by
            show (if _ then _ else _) = _
            rw [if_pos hz]
          rw [e] at h5
          exact ⟨⟨hd0, hd1⟩, by rw [hS16.1 2 rfl, h5], h5 ▸ hS16⟩
  exact loop _ 0 S Z (by omega) (by omega) rfl hW hS rfl rfl
set_option maxRecDepth 100000 in
set_option maxHeartbeats 8000000 in
theorem c_X6_setAxes {l : Launch} {D : va_G} {cys : Nat → ClassId} {ad : Nat → Int → Nat} {L : List Nat} {g : Nat → va_E} {X : Int64} {Z : ZT} (hi : injA ad) (hst : l.stackTraces = false) {S : ZT} {q ql w wl : Int} (hS : SP S Z) (hW : WF S) (hq : inR q) (hql : inR ql) (hw : inR w) (hwl : inR wl) : CX l D cys ad yX6_setAxes cX6_setAxes 5 (some .int) 9 156 5 30 [.ref (ad 0 0), .int (iI q), .int (iI ql), .int (iI w), .int (iI wl)] L g X Z (PIZ L g X Z (fun r Z' => (0 ≤ q ∧ q < S 0 0 5 ∧ 0 ≤ ql ∧ ql ≤ S 2 q 3) ∧ (0 ≤ w ∧ w < S 0 0 5 ∧ 0 ≤ wl ∧ wl ≤ S 2 w 3) ∧ q ≠ w ∧ r = (LN (axSt S q ql w wl) 0).length ∧ SP (axSt S q ql w wl) Z')) (PXZ L g X (fun E Z' => ((E = exI ∧ ¬ (0 ≤ q ∧ q < S 0 0 5 ∧ 0 ≤ ql ∧ ql ≤ S 2 q 3)) ∨ (E = exI ∧ (0 ≤ q ∧ q < S 0 0 5 ∧ 0 ≤ ql ∧ ql ≤ S 2 q 3) ∧ ¬ (0 ≤ w ∧ w < S 0 0 5 ∧ 0 ≤ wl ∧ wl ≤ S 2 w 3)) ∨ (E = exA ∧ (0 ≤ q ∧ q < S 0 0 5 ∧ 0 ≤ ql ∧ ql ≤ S 2 q 3) ∧ (0 ≤ w ∧ w < S 0 0 5 ∧ 0 ≤ wl ∧ wl ≤ S 2 w 3) ∧ q = w)) ∧ Z' = Z)) := by
  refine cx_start hi (by decide +kernel) (Nat.le_of_ble_eq_true rfl) ?_
  intro p_ e_ s_ m_ args_ below_ meth_ c_ A_ Q_ hQX hE G hr
  have hQ := vq_of hQX
  have hn := hW.n
  refine j_aload_n G dX6_setAxes_0 rfl ?_
  refine j_iload_n G dX6_setAxes_1 rfl ?_
  refine j_iload_n G dX6_setAxes_2 rfl ?_
  refine j_cVXVZ G hQX hE cvX6_requireLevel ml6_211 (c_X6_requireLevel hi hst hS hW hq hql) dX6_setAxes_3 ⟨by decide, by decide⟩ ⟨by decide, by decide⟩ (by decide) (by decide) rfl rfl (Nat.le_of_ble_eq_true rfl) (by first | assumption | decide) rfl rfl rfl (fun E Z1 h => ⟨Or.inl ⟨h.1, h.2.1⟩, h.2.2⟩) (fun Z3 h3 => ?_)
  obtain ⟨rfl, ⟨hq0, hq1⟩, hl0, hl1⟩ := h3
  refine j_aload_n G dX6_setAxes_6 rfl ?_
  refine j_iload_n G dX6_setAxes_7 rfl ?_
  refine j_iload G dX6_setAxes_8 rfl ?_
  refine j_cVXVZ G hQX hE cvX6_requireLevel ml6_211 (c_X6_requireLevel hi hst hS hW hw hwl) dX6_setAxes_10 ⟨by decide, by decide⟩ ⟨by decide, by decide⟩ (by decide) (by decide) rfl rfl (Nat.le_of_ble_eq_true rfl) (by first | assumption | decide) rfl rfl rfl (fun E Z1 h => ⟨Or.inr (Or.inl ⟨h.1, ⟨hq0, hq1, hl0, hl1⟩, h.2.1⟩), h.2.2⟩) (fun Z10 h10 => ?_)
  obtain ⟨rfl, ⟨hw0, hw1⟩, hm0, hm1⟩ := h10
  refine j_iload_n G dX6_setAxes_13 rfl ?_
  refine j_iload_n G dX6_setAxes_14 rfl ?_
  refine j_icmp_ne G 28 dX6_setAxes_15 (by decide) (by omega) (by omega) (fun c15 => ?_) (fun c15 => ?_)
  · refine j_aload_n G dX6_setAxes_28 rfl ?_
    refine gf_0_3 G dX6_setAxes_29 lf6_32 (by first | assumption | decide) ?_
    refine j_iload_n G dX6_setAxes_32 rfl ?_
    refine pf_15_4 G dX6_setAxes_33 lf6_216 (by first | assumption | decide) ?_
    refine j_aload_n G dX6_setAxes_36 rfl ?_
    refine gf_0_3 G dX6_setAxes_37 lf6_32 (by first | assumption | decide) ?_
    refine j_iload_n G dX6_setAxes_40 rfl ?_
    refine pf_15_5 G dX6_setAxes_41 lf6_219 (by first | assumption | decide) ?_
    refine j_aload_n G dX6_setAxes_44 rfl ?_
    refine gf_0_4 G dX6_setAxes_45 lf6_36 (by first | assumption | decide) ?_
    refine j_iload_n G dX6_setAxes_48 rfl ?_
    refine pf_15_4 G dX6_setAxes_49 lf6_216 (by first | assumption | decide) ?_
    refine j_aload_n G dX6_setAxes_52 rfl ?_
    refine gf_0_4 G dX6_setAxes_53 lf6_36 (by first | assumption | decide) ?_
    refine j_iload G dX6_setAxes_56 rfl ?_
    refine pf_15_5 G dX6_setAxes_58 lf6_219 (by first | assumption | decide) ?_
    refine j_aload_n G dX6_setAxes_61 rfl ?_
    refine j_iconst G dX6_setAxes_62 ?_
    refine pf_0_7 G dX6_setAxes_63 lf6_222 (by first | assumption | decide) (by omega) ?_
    have hS' := hS.of_AX q ql w wl
    have hW' := hW.of_AX hq0 hq1 hl0 hl1 hw0 hw1 hm0 hm1 (by assumption)
    have ha' : axSt S q ql w wl 0 0 7 = 1 := by rw [axSt_0]; rfl
    refine j_aload_n G dX6_setAxes_66 rfl ?_
    refine j_cVVZ G cvX6_layTable ml6_226 (c_X6_layTable hi hS' hW' ha') dX6_setAxes_67 ⟨by decide, by decide⟩ ⟨by decide, by decide⟩ rfl rfl (Nat.le_of_ble_eq_true rfl) (by first | assumption | decide) rfl rfl rfl (fun Z67 h67 => ?_)
    refine j_aload_n G dX6_setAxes_70 rfl ?_
    refine gf_0_3 G dX6_setAxes_71 lf6_32 (by first | assumption | decide) ?_
    refine gf_15_3 G dX6_setAxes_74 lf6_229 (by first | assumption | decide) ?_
    try simp (config := { decide := true }) only [zS_k, zS_s, zS_j, ne_eq]
    refine jr_IZ G hQ hr dX6_setAxes_77 (by decide) (by decide) ?_
    try simp (config := { decide := true }) only [zS_k, zS_s, zS_j, ne_eq]
    exact ⟨⟨hq0, hq1, hl0, hl1⟩, ⟨hw0, hw1, hm0, hm1⟩, by assumption, (h67.2.1 0 (by omega) (by omega)).2.1, h67.1⟩
  · refine j_throw G hQX hE hst (E := exA) (names := xNm) (by decide +kernel) (by decide +kernel) xkA xiA (List.mem_of_getElem? (i := 14) rfl) xt1A xt2A xt3A dX6_setAxes_18 dX6_setAxes_21 dX6_setAxes_22 dX6_setAxes_24 dX6_setAxes_27 ⟨by decide, Nat.le_of_ble_eq_true rfl, by decide, by decide⟩ (by decide) (by decide) ?_
    exact ⟨⟨Or.inr (Or.inr ⟨rfl, ⟨hq0, hq1, hl0, hl1⟩, ⟨hw0, hw1, hm0, hm1⟩, by omega⟩), rfl⟩, rfl, rfl, rfl⟩
set_option maxRecDepth 100000 in
set_option maxHeartbeats 8000000 in
theorem c_X6_peak {l : Launch} {D : va_G} {cys : Nat → ClassId} {ad : Nat → Int → Nat} {L : List Nat} {g : Nat → va_E} {X : Int64} {Z : ZT} (hi : injA ad) (hst : l.stackTraces = false) {S : ZT} {q : Int} (hS : SP S Z) (hW : WF S) (hq : inR q) : CX l D cys ad yX6_peak cX6_peak 4 (some .int) 7 136 2 12 [.ref (ad 0 0), .int (iI q)] L g X Z (PIZ L g X Z (fun r Z' => S 0 0 7 = 1 ∧ (0 ≤ q ∧ q < (LN S 0).length) ∧ r = pkF (fun w => tsum S ((LN S 0).getD q.toNat 0) ((LN S 1).getD w.toNat 0)) (LN S 1).length ∧ SP S Z')) (PXZ L g X (fun E Z' => ((E = exS ∧ S 0 0 7 ≠ 1) ∨ (E = exI ∧ S 0 0 7 = 1 ∧ ¬ (0 ≤ q ∧ q < (LN S 0).length))) ∧ SP S Z')) := by
  refine cx_start hi (by decide +kernel) (Nat.le_of_ble_eq_true rfl) ?_
  intro p_ e_ s_ m_ args_ below_ meth_ c_ A_ Q_ hQX hE G hr
  have hQ := vq_of hQX
  refine j_aload_n G dX6_peak_0 rfl ?_
  refine j_cVXVZ G hQX hE cvX6_layTableOfAxes ml6_235 (c_X6_layTableOfAxes hi hst (by first | assumption | omega | decide) (by first | assumption | omega | decide)) dX6_peak_1 ⟨by decide, by decide⟩ ⟨by decide, by decide⟩ (by decide) (by decide) rfl rfl (Nat.le_of_ble_eq_true rfl) (by first | assumption | decide) rfl rfl rfl (fun E Z1 h => ⟨Or.inl ⟨h.1, h.2.1⟩, h.2.2 ▸ hS⟩) (fun Z1 h1 => ?_)
  obtain ⟨ha, hT1⟩ := h1
  have hS1 := hT1.1
  have h03 := (hT1.2.1 0 (by omega) (by omega)).2.1
  have h13 := (hT1.2.1 1 (by omega) (by omega)).2.1
  have hal := (allL_ok hW ha (i := 0) (by omega) (by omega)).1
  have hbl := (allL_ok hW ha (i := 1) (by omega) (by omega)).1
  have hl0 : (LN S 0).length ≤ (allL S 0).length := by unfold LN; exact List.length_filter_le _ _
  have hl1 : (LN S 1).length ≤ (allL S 1).length := by unfold LN; exact List.length_filter_le _ _
  have hir0 : inR (Z1 15 0 3) := by omega
  have hv0 : vd 15 0 := by decide
  refine j_aload_n G dX6_peak_4 rfl ?_
  refine j_aload_n G dX6_peak_5 rfl ?_
  refine gf_0_3 G dX6_peak_6 lf6_32 (by first | assumption | decide) ?_
  refine j_iload_n G dX6_peak_9 rfl ?_
  refine j_cVXVZ G hQX hE cvX6_requireLine ml6_238 (c_X6_requireLine hi hst hv0 hq hir0) dX6_peak_10 ⟨by decide, by decide⟩ ⟨by decide, by decide⟩ (by decide) (by decide) rfl rfl (Nat.le_of_ble_eq_true rfl) (by first | assumption | decide) rfl rfl rfl (fun E Z1 h => ⟨Or.inr ⟨h.1, ha, by have := h.2.1; omega⟩, h.2.2 ▸ hS1⟩) (fun Z10 h10 => ?_)
  obtain ⟨rfl, hq0, hq1⟩ := h10
  have hqq : 0 ≤ q ∧ q < (LN S 0).length := by omega
  refine j_iconst G dX6_peak_13 ?_
  refine j_istore_n G dX6_peak_14 (by decide) rfl ?_
  refine j_iconst G dX6_peak_15 ?_
  refine j_istore_n G dX6_peak_16 (by decide) rfl ?_
  have loop : ∀ (n : Nat) (a b : Int), 0 ≤ a → a ≤ (LN S 1).length → ((LN S 1).length - a).toNat = n → b = pkF (fun w => tsum S ((LN S 0).getD q.toNat 0) ((LN S 1).getD w.toNat 0)) a.toNat → JJ p_ l e_ { frames := 7, cells := 2, slots := 12, locals := 136 } s_ m_ args_ below_ meth_ c_ D cys ad A_ Q_ 4 2 12 L g X Z10 17 [(0, .ref (ad 0 0)), (1, .int (iI q)), (2, .int (iI b)), (3, .int (iI a))] [] := by
    intro n
    induction n with
    | zero =>
      intro a b h0 h1 h2 h3
      have ea : a = (LN S 1).length := by omega
      subst ea
      refine j_iload_n G dX6_peak_17 rfl ?_
      refine j_aload_n G dX6_peak_18 rfl ?_
      refine gf_0_4 G dX6_peak_19 lf6_36 (by first | assumption | decide) ?_
      refine gf_15_3 G dX6_peak_22 lf6_229 (by first | assumption | decide) ?_
      refine j_icmp_ge G 56 dX6_peak_25 (by decide) (by omega) (by omega) (fun c25 => ?_) (fun c25 => ?_)
      · refine j_iload_n G dX6_peak_56 rfl ?_
        refine jr_IZ G hQ hr dX6_peak_57 (by decide) (by decide) ?_
        exact ⟨ha, hqq, h3, hS1⟩
      · exfalso; omega
    | succ n ih =>
      intro a b h0 h1 h2 h3
      have hpk := pkF_in (fun w => tsum S ((LN S 0).getD q.toNat 0) ((LN S 1).getD w.toNat 0)) a.toNat
      have hps := pkF_s (f := fun w => tsum S ((LN S 0).getD q.toNat 0) ((LN S 1).getD w.toNat 0)) h0
      rw [← h3] at hpk hps
      have hbi : inR b := by omega
      have hwa : 0 ≤ a ∧ a < (LN S 1).length := by omega
      refine j_iload_n G dX6_peak_17 rfl ?_
      refine j_aload_n G dX6_peak_18 rfl ?_
      refine gf_0_4 G dX6_peak_19 lf6_36 (by first | assumption | decide) ?_
      refine gf_15_3 G dX6_peak_22 lf6_229 (by first | assumption | decide) ?_
      refine j_icmp_ge G 56 dX6_peak_25 (by decide) (by omega) (by omega) (fun c25 => ?_) (fun c25 => ?_)
      · exfalso; omega
      · refine j_iload_n G dX6_peak_28 rfl ?_
        refine j_iconst G dX6_peak_29 ?_
        refine j_icmp_eq G 48 dX6_peak_30 (by decide) (by omega) (by omega) (fun c30 => ?_) (fun c30 => ?_)
        · refine j_iload_n G dX6_peak_48 rfl ?_
          refine j_istore_n G dX6_peak_49 (by decide) rfl ?_
          refine j_iinc G dX6_peak_50 rfl (by decide) rfl ?_
          refine j_goto G 17 dX6_peak_53 (by decide) ?_
          first
          | (refine ih (a + 1) a (by omega) (by omega) (by omega) ?_
             rw [hps, if_pos]
             first
             | exact Or.inl (by assumption)
             | (refine Or.inr ?_; show tsum _ _ _ < tsum _ _ _; rw [← h36, ← h42]; assumption))
          | (refine ih (a + 1) b (by omega) (by omega) (by omega) ?_
             rw [hps, if_neg]
             rintro (z | z)
             · omega
             · have z : tsum S ((LN S 0).getD q.toNat 0) ((LN S 1).getD b.toNat 0) < tsum S ((LN S 0).getD q.toNat 0) ((LN S 1).getD a.toNat 0) := z
               omega)
        · have hwb : 0 ≤ b ∧ b < (LN S 1).length := by omega
          refine j_aload_n G dX6_peak_33 rfl ?_
          refine j_iload_n G dX6_peak_34 rfl ?_
          refine j_iload_n G dX6_peak_35 rfl ?_
          refine j_cVI G cvX6_cellOfLines ml6_245 (c_X6_cellOfLines hi hT1 hW ha hqq hwa) dX6_peak_36 ⟨by decide, by decide⟩ ⟨by decide, by decide⟩ rfl rfl (Nat.le_of_ble_eq_true rfl) (by first | assumption | decide) rfl rfl rfl (fun r36 h36 => ?_)
          refine j_aload_n G dX6_peak_39 rfl ?_
          refine j_iload_n G dX6_peak_40 rfl ?_
          refine j_iload_n G dX6_peak_41 rfl ?_
          refine j_cVI G cvX6_cellOfLines ml6_245 (c_X6_cellOfLines hi hT1 hW ha hqq hwb) dX6_peak_42 ⟨by decide, by decide⟩ ⟨by decide, by decide⟩ rfl rfl (Nat.le_of_ble_eq_true rfl) (by first | assumption | decide) rfl rfl rfl (fun r42 h42 => ?_)
          have ht1 := tsum_bd hW ((LN S 0).getD q.toNat 0) ((LN S 1).getD a.toNat 0)
          have ht2 := tsum_bd hW ((LN S 0).getD q.toNat 0) ((LN S 1).getD b.toNat 0)
          rw [← h36] at ht1
          rw [← h42] at ht2
          refine j_icmp_le G 50 dX6_peak_45 (by decide) (by omega) (by omega) (fun c45 => ?_) (fun c45 => ?_)
          · refine j_iinc G dX6_peak_50 rfl (by decide) rfl ?_
            refine j_goto G 17 dX6_peak_53 (by decide) ?_
            first
            | (refine ih (a + 1) a (by omega) (by omega) (by omega) ?_
               rw [hps, if_pos]
               first
               | exact Or.inl (by assumption)
               | (refine Or.inr ?_; show tsum _ _ _ < tsum _ _ _; rw [← h36, ← h42]; assumption))
            | (refine ih (a + 1) b (by omega) (by omega) (by omega) ?_
               rw [hps, if_neg]
               rintro (z | z)
               · omega
               · have z : tsum S ((LN S 0).getD q.toNat 0) ((LN S 1).getD b.toNat 0) < tsum S ((LN S 0).getD q.toNat 0) ((LN S 1).getD a.toNat 0) := z
                 omega)
          · refine j_iload_n G dX6_peak_48 rfl ?_
            refine j_istore_n G dX6_peak_49 (by decide) rfl ?_
            refine j_iinc G dX6_peak_50 rfl (by decide) rfl ?_
            refine j_goto G 17 dX6_peak_53 (by decide) ?_
            first
            | (refine ih (a + 1) a (by omega) (by omega) (by omega) ?_
               rw [hps, if_pos]
               first
               | exact Or.inl (by assumption)
               | (refine Or.inr ?_; show tsum _ _ _ < tsum _ _ _; rw [← h36, ← h42]; assumption))
            | (refine ih (a + 1) b (by omega) (by omega) (by omega) ?_
               rw [hps, if_neg]
               rintro (z | z)
               · omega
               · have z : tsum S ((LN S 0).getD q.toNat 0) ((LN S 1).getD b.toNat 0) < tsum S ((LN S 0).getD q.toNat 0) ((LN S 1).getD a.toNat 0) := z
                 omega)
  exact loop _ 0 (-1) (by omega) (by omega) rfl rfl
set_option maxRecDepth 100000 in
set_option maxHeartbeats 8000000 in
theorem c_X6_setLevel {l : Launch} {D : va_G} {cys : Nat → ClassId} {ad : Nat → Int → Nat} {L : List Nat} {g : Nat → va_E} {X : Int64} {Z : ZT} (hi : injA ad) (hst : l.stackTraces = false) {S : ZT} {d q : Int} (hS : SP S Z) (hW : WF S) (hd : inR d) (hq : inR q) : CX l D cys ad yX6_setLevel cX6_setLevel 4 (some .int) 9 156 2 12 [.ref (ad 0 0), .int (iI d), .int (iI q)] L g X Z (PIZ L g X Z (fun r Z' => (0 ≤ d ∧ d < S 0 0 5 ∧ 0 ≤ q ∧ q ≤ S 2 d 3) ∧ r = lvl (S 0 0 6) d ∧ M_0 S 6 (setL (S 0 0 6) d q) Z')) (PXZ L g X (fun E Z' => E = exI ∧ ¬ (0 ≤ d ∧ d < S 0 0 5 ∧ 0 ≤ q ∧ q ≤ S 2 d 3) ∧ Z' = Z)) := by
  refine cx_start hi (by decide +kernel) (Nat.le_of_ble_eq_true rfl) ?_
  intro p_ e_ s_ m_ args_ below_ meth_ c_ A_ Q_ hQX hE G hr
  have hQ := vq_of hQX
  have hn := hW.n
  have hlv := hW.lv
  have e06 : Z 0 0 6 = S 0 0 6 := by rw [hS.1 0 rfl]
  refine j_aload_n G dX6_setLevel_0 rfl ?_
  refine j_iload_n G dX6_setLevel_1 rfl ?_
  refine j_iload_n G dX6_setLevel_2 rfl ?_
  refine j_cVXVZ G hQX hE cvX6_requireLevel ml6_211 (c_X6_requireLevel hi hst hS hW hd hq) dX6_setLevel_3 ⟨by decide, by decide⟩ ⟨by decide, by decide⟩ (by decide) (by decide) rfl rfl (Nat.le_of_ble_eq_true rfl) (by first | assumption | decide) rfl rfl rfl (fun _ _ h => h) (fun Z3 h3 => ?_)
  obtain ⟨rfl, ⟨hd0, hd1⟩, hq0, hq1⟩ := h3
  have hd4 : 0 ≤ d ∧ d < 4 := by omega
  have hdp := hW.deep hd4.1 hd4.2
  have hl6 : 0 ≤ Z3 0 0 6 ∧ Z3 0 0 6 < 256 := by rw [e06]; exact ⟨hlv.1, hlv.2.1⟩
  have hll := lvl_in (Z3 0 0 6) d
  refine j_aload_n G dX6_setLevel_6 rfl ?_
  refine gf_0_6 G dX6_setLevel_7 lf6_249 (by first | assumption | decide) ?_
  refine j_iload_n G dX6_setLevel_10 rfl ?_
  refine j_cSI G csX6_levelIn ml6_252 rfl (c_X6_levelIn hi hl6 hd4) dX6_setLevel_11 ⟨by decide, by decide⟩ ⟨by decide, by decide⟩ rfl rfl (Nat.le_of_ble_eq_true rfl) (fun r11 h11 => ?_)
  subst h11
  refine j_istore_n G dX6_setLevel_14 (by decide) rfl ?_
  refine j_aload_n G dX6_setLevel_15 rfl ?_
  refine j_dup G dX6_setLevel_16 rfl ?_
  refine gf_0_6 G dX6_setLevel_17 lf6_249 (by first | assumption | decide) ?_
  refine j_iload_n G dX6_setLevel_20 rfl ?_
  refine j_iload_n G dX6_setLevel_21 rfl ?_
  refine j_isub G dX6_setLevel_22 ?_
  refine j_iload_n G dX6_setLevel_23 rfl ?_
  refine j_cSI G csX6_bitsBehind ml6_255 rfl (c_X6_bitsBehind hi ) dX6_setLevel_24 ⟨by decide, by decide⟩ ⟨by decide, by decide⟩ rfl rfl (Nat.le_of_ble_eq_true rfl) (fun r24 h24 => ?_)
  rw [h24]
  refine j_ishl G dX6_setLevel_27 (shl_set (by omega) (by omega) hd4.1 hd4.2) ?_
  refine j_iadd G dX6_setLevel_28 ?_
  refine pf_0_6 G dX6_setLevel_29 lf6_249 (by first | assumption | decide) ?_
  refine j_iload_n G dX6_setLevel_32 rfl ?_
  refine jr_IZ G hQ hr dX6_setLevel_33 (by decide) (by decide) ?_
  try simp (config := { decide := true }) only [zS_k, zS_s, zS_j, ne_eq]
  refine ⟨⟨hd0, hd1, hq0, hq1⟩, by rw [e06], (FRM.of hS _).st (by simp) (by decide) _ _ _, fun j => ?_⟩
  rw [zS_v, hS.1 0 rfl]
  rfl
set_option maxRecDepth 100000 in
set_option maxHeartbeats 8000000 in
theorem c_X6_keep {l : Launch} {D : va_G} {cys : Nat → ClassId} {ad : Nat → Int → Nat} {L : List Nat} {g : Nat → va_E} {X : Int64} {Z : ZT} (hi : injA ad) (hst : l.stackTraces = false) {S : ZT} (hS : SP S Z) (hW : WF S) (h13 : ∀ v, 0 ≤ v → v < 6 → 0 ≤ S 13 0 v ∧ S 13 0 v ≤ 80) : CX l D cys ad yX6_keep cX6_keep 2 (some .int) 6 93 1 6 [.ref (ad 0 0)] L g X Z (PIZ L g X Z (fun r Z' => S 11 0 3 < 6 ∧ r = S 11 0 3 ∧ M_keep S Z')) (PXZ L g X (fun E Z' => E = exS ∧ ¬ S 11 0 3 < 6 ∧ Z' = Z)) := by
  refine cx_start hi (by decide +kernel) (Nat.le_of_ble_eq_true rfl) ?_
  intro p_ e_ s_ m_ args_ below_ meth_ c_ A_ Q_ hQX hE G hr
  have hQ := vq_of hQX
  have hv := hW.v
  have hlv := hW.lv
  have e11 : Z 11 0 3 = S 11 0 3 := by rw [hS.1 11 rfl]
  have e06 : Z 0 0 6 = S 0 0 6 := by rw [hS.1 0 rfl]
  refine j_aload_n G dX6_keep_0 rfl ?_
  refine gf_0_2 G dX6_keep_1 lf6_25 (by first | assumption | decide) ?_
  refine gf_11_3 G dX6_keep_4 lf6_261 (by first | assumption | decide) ?_
  refine j_bipush G dX6_keep_7 (by decide +kernel) ?_
  refine j_icmp_lt G 23 dX6_keep_9 (by decide) (by omega) (by omega) (fun c9 => ?_) (fun c9 => ?_)
  · refine j_aload_n G dX6_keep_23 rfl ?_
    refine gf_0_2 G dX6_keep_24 lf6_25 (by first | assumption | decide) ?_
    refine gf_11_3 G dX6_keep_27 lf6_261 (by first | assumption | decide) ?_
    refine j_istore_n G dX6_keep_30 (by decide) rfl ?_
    refine j_aload_n G dX6_keep_31 rfl ?_
    refine gf_0_2 G dX6_keep_32 lf6_25 (by first | assumption | decide) ?_
    refine j_dup G dX6_keep_35 rfl ?_
    refine gf_11_3 G dX6_keep_36 lf6_261 (by first | assumption | decide) ?_
    refine j_iconst G dX6_keep_39 ?_
    refine j_iadd G dX6_keep_40 ?_
    refine pf_11_3 G dX6_keep_41 lf6_261 (by first | assumption | decide) ?_
    refine j_aload_n G dX6_keep_44 rfl ?_
    refine gf_0_2 G dX6_keep_45 lf6_25 (by first | assumption | decide) ?_
    refine gf_11_0 G dX6_keep_48 lf6_264 (by first | assumption | decide) ?_
    refine j_iload_n G dX6_keep_51 rfl ?_
    refine j_aload_n G dX6_keep_52 rfl ?_
    refine gf_0_6 G dX6_keep_53 lf6_249 (by first | assumption | decide) ?_
    try simp (config := { decide := true }) only [zS_k, zS_s, zS_j, ne_eq]
    refine as_12 G dX6_keep_56 (by first | assumption | decide) (by omega) (by omega) ?_
    have hKS : SP (kpSt S) (zS (zS Z 11 0 3 (Z 11 0 3 + 1)) 12 0 (Z 11 0 3) (Z 0 0 6)) := by
      rw [e11, e06]
      exact (hS.st (k := 11) rfl _ _ _).st (k := 12) rfl _ _ _
    have hKW := hW.of_KP (by omega) h13
    have hl6 : 0 ≤ Z 0 0 6 ∧ Z 0 0 6 < 256 := by rw [e06]; exact ⟨hlv.1, hlv.2.1⟩
    refine j_aload_n G dX6_keep_57 rfl ?_
    refine gf_0_2 G dX6_keep_58 lf6_25 (by first | assumption | decide) ?_
    refine j_iload_n G dX6_keep_61 rfl ?_
    refine j_aload_n G dX6_keep_62 rfl ?_
    refine j_aload_n G dX6_keep_63 rfl ?_
    refine gf_0_6 G dX6_keep_64 lf6_249 (by first | assumption | decide) ?_
    try simp (config := { decide := true }) only [zS_k, zS_s, zS_j, ne_eq]
    refine j_cVIZ G cvX6_cellsOf ml6_258 (c_X6_cellsOf hi hKS hKW hl6) dX6_keep_67 ⟨by decide, by decide⟩ ⟨by decide, by decide⟩ rfl rfl (Nat.le_of_ble_eq_true rfl) (by first | assumption | decide) rfl rfl rfl (fun r67 Z67 h67 => ?_)
    obtain ⟨h67a, hS67⟩ := h67
    have hcc : CELLS (kpSt S) (Z 0 0 6) = CELLS S (S 0 0 6) := by
      rw [e06]
      refine CELLS_congr (fun k hk => ?_) _
      unfold kpSt
      rw [zS_k (by omega), zS_k (by omega)]
    rw [hcc] at h67a
    have f11 : Z67 11 0 3 = S 11 0 3 + 1 := by
      rw [hS67.1 11 rfl]; unfold kpSt; rw [zS_k (by decide), zS_s]
    have hq2 : 0 ≤ Z 11 0 3 ∧ Z 11 0 3 < Z67 11 0 3 := by omega
    have hs6 : Z67 11 0 3 ≤ 6 := by omega
    refine j_cVVZ G cvX5_fill ml6_267 (c_X5_fill hi hq2 hs6) dX6_keep_70 ⟨by decide, by decide⟩ ⟨by decide, by decide⟩ rfl rfl (Nat.le_of_ble_eq_true rfl) (by first | assumption | decide) rfl rfl rfl (fun Z70 h70 => ?_)
    refine j_iload_n G dX6_keep_73 rfl ?_
    refine jr_IZ G hQ hr dX6_keep_74 (by decide) (by decide) ?_
    try simp (config := { decide := true }) only [zS_k, zS_s, zS_j, ne_eq]
    subst h70
    have hK : FRM [11, 12, 13, 14] S (kpSt S) := ((FRM.of (SP.rf S) _).st (by simp) (by decide) _ _ _).st (by simp) (by decide) _ _ _
    have hZ : FRM [11, 12, 13, 14] S Z67 := hK.tr (fun k hk _ => hS67.1 k hk) hS67.2
    refine ⟨by omega, e11, (hZ.st (by simp) (by decide) _ _ _).st (by simp) (by decide) _ _ _, ?_, fun j => ?_, fun j => ?_, fun j => ?_⟩
    · rw [zS_k (by decide), zS_k (by decide), f11]
    · rw [zS_k (by decide), zS_k (by decide), hS67.1 12 rfl]
      unfold kpSt
      rw [zS_v, zS_k (by decide)]
    · rw [zS_k (by decide), zS_v, hS67.1 13 rfl, h67a, e11]
      unfold kpSt
      rw [zS_k (by decide), zS_k (by decide)]
    · rw [zS_v, zS_k (by decide), hS67.1 14 rfl, e11]
      unfold kpSt
      rw [zS_k (by decide), zS_k (by decide)]
  · refine j_throwW G hQX hE hst (E := exS) (names := xNm) (by decide +kernel) (by decide +kernel) xkS xiS (List.mem_of_getElem? (i := 15) rfl) xt1S xt2S xt3S dX6_keep_12 dX6_keep_15 dX6_keep_16 dX6_keep_19 dX6_keep_22 ⟨by decide, Nat.le_of_ble_eq_true rfl, by decide, by decide⟩ (by decide) (by decide) ?_
    exact ⟨⟨rfl, by omega, rfl⟩, rfl, rfl, rfl⟩

