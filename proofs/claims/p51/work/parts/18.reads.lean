theorem dX6_facts_0 : decode cX6_facts 0 = .ok (.aload_n 0, 1) := by decide +kernel
theorem dX6_facts_1 : decode cX6_facts 1 = .ok (.getfield 18, 3) := by decide +kernel
theorem dX6_facts_4 : decode cX6_facts 4 = .ok (.getfield 160, 3) := by decide +kernel
theorem dX6_facts_7 : decode cX6_facts 7 = .ok (.ireturn, 1) := by decide +kernel
theorem dX6_views_0 : decode cX6_views 0 = .ok (.aload_n 0, 1) := by decide +kernel
theorem dX6_views_1 : decode cX6_views 1 = .ok (.getfield 25, 3) := by decide +kernel
theorem dX6_views_4 : decode cX6_views 4 = .ok (.getfield 261, 3) := by decide +kernel
theorem dX6_views_7 : decode cX6_views 7 = .ok (.ireturn, 1) := by decide +kernel
theorem dX6_setBare_0 : decode cX6_setBare 0 = .ok (.aload_n 0, 1) := by decide +kernel
theorem dX6_setBare_1 : decode cX6_setBare 1 = .ok (.getfield 232, 3) := by decide +kernel
theorem dX6_setBare_4 : decode cX6_setBare 4 = .ok (.istore_n 2, 1) := by decide +kernel
theorem dX6_setBare_5 : decode cX6_setBare 5 = .ok (.aload_n 0, 1) := by decide +kernel
theorem dX6_setBare_6 : decode cX6_setBare 6 = .ok (.iload_n 1, 1) := by decide +kernel
theorem dX6_setBare_7 : decode cX6_setBare 7 = .ok (.putfield 232, 3) := by decide +kernel
theorem dX6_setBare_10 : decode cX6_setBare 10 = .ok (.iload_n 2, 1) := by decide +kernel
theorem dX6_setBare_11 : decode cX6_setBare 11 = .ok (.ireturn, 1) := by decide +kernel
theorem dX6_count_0 : decode cX6_count 0 = .ok (.iconst 0, 1) := by decide +kernel
theorem dX6_count_1 : decode cX6_count 1 = .ok (.istore_n 1, 1) := by decide +kernel
theorem dX6_count_2 : decode cX6_count 2 = .ok (.iconst 0, 1) := by decide +kernel
theorem dX6_count_3 : decode cX6_count 3 = .ok (.istore_n 2, 1) := by decide +kernel
theorem dX6_count_4 : decode cX6_count 4 = .ok (.iload_n 2, 1) := by decide +kernel
theorem dX6_count_5 : decode cX6_count 5 = .ok (.aload_n 0, 1) := by decide +kernel
theorem dX6_count_6 : decode cX6_count 6 = .ok (.getfield 18, 3) := by decide +kernel
theorem dX6_count_9 : decode cX6_count 9 = .ok (.getfield 160, 3) := by decide +kernel
theorem dX6_count_12 : decode cX6_count 12 = .ok (.if_icmp .ge 20, 3) := by decide +kernel
theorem dX6_count_15 : decode cX6_count 15 = .ok (.aload_n 0, 1) := by decide +kernel
theorem dX6_count_16 : decode cX6_count 16 = .ok (.iload_n 2, 1) := by decide +kernel
theorem dX6_count_17 : decode cX6_count 17 = .ok (.invokevirtual 175, 3) := by decide +kernel
theorem dX6_count_20 : decode cX6_count 20 = .ok (.ifCond .eq 6, 3) := by decide +kernel
theorem dX6_count_23 : decode cX6_count 23 = .ok (.iinc 1 1, 3) := by decide +kernel
theorem dX6_count_26 : decode cX6_count 26 = .ok (.iinc 2 1, 3) := by decide +kernel
theorem dX6_count_29 : decode cX6_count 29 = .ok (.goto (-25), 3) := by decide +kernel
theorem dX6_count_32 : decode cX6_count 32 = .ok (.iload_n 1, 1) := by decide +kernel
theorem dX6_count_33 : decode cX6_count 33 = .ok (.ireturn, 1) := by decide +kernel
theorem dX6_sum_0 : decode cX6_sum 0 = .ok (.iconst 0, 1) := by decide +kernel
theorem dX6_sum_1 : decode cX6_sum 1 = .ok (.istore_n 1, 1) := by decide +kernel
theorem dX6_sum_2 : decode cX6_sum 2 = .ok (.iconst 0, 1) := by decide +kernel
theorem dX6_sum_3 : decode cX6_sum 3 = .ok (.istore_n 2, 1) := by decide +kernel
theorem dX6_sum_4 : decode cX6_sum 4 = .ok (.iload_n 2, 1) := by decide +kernel
theorem dX6_sum_5 : decode cX6_sum 5 = .ok (.aload_n 0, 1) := by decide +kernel
theorem dX6_sum_6 : decode cX6_sum 6 = .ok (.getfield 18, 3) := by decide +kernel
theorem dX6_sum_9 : decode cX6_sum 9 = .ok (.getfield 160, 3) := by decide +kernel
theorem dX6_sum_12 : decode cX6_sum 12 = .ok (.if_icmp .ge 29, 3) := by decide +kernel
theorem dX6_sum_15 : decode cX6_sum 15 = .ok (.aload_n 0, 1) := by decide +kernel
theorem dX6_sum_16 : decode cX6_sum 16 = .ok (.iload_n 2, 1) := by decide +kernel
theorem dX6_sum_17 : decode cX6_sum 17 = .ok (.invokevirtual 175, 3) := by decide +kernel
theorem dX6_sum_20 : decode cX6_sum 20 = .ok (.ifCond .eq 15, 3) := by decide +kernel
theorem dX6_sum_23 : decode cX6_sum 23 = .ok (.iload_n 1, 1) := by decide +kernel
theorem dX6_sum_24 : decode cX6_sum 24 = .ok (.aload_n 0, 1) := by decide +kernel
theorem dX6_sum_25 : decode cX6_sum 25 = .ok (.getfield 18, 3) := by decide +kernel
theorem dX6_sum_28 : decode cX6_sum 28 = .ok (.getfield 163, 3) := by decide +kernel
theorem dX6_sum_31 : decode cX6_sum 31 = .ok (.iload_n 2, 1) := by decide +kernel
theorem dX6_sum_32 : decode cX6_sum 32 = .ok (.iaload, 1) := by decide +kernel
theorem dX6_sum_33 : decode cX6_sum 33 = .ok (.iadd, 1) := by decide +kernel
theorem dX6_sum_34 : decode cX6_sum 34 = .ok (.istore_n 1, 1) := by decide +kernel
theorem dX6_sum_35 : decode cX6_sum 35 = .ok (.iinc 2 1, 3) := by decide +kernel
theorem dX6_sum_38 : decode cX6_sum 38 = .ok (.goto (-34), 3) := by decide +kernel
theorem dX6_sum_41 : decode cX6_sum 41 = .ok (.iload_n 1, 1) := by decide +kernel
theorem dX6_sum_42 : decode cX6_sum 42 = .ok (.ireturn, 1) := by decide +kernel
theorem dX6_least_0 : decode cX6_least 0 = .ok (.sipush 10001, 3) := by decide +kernel
theorem dX6_least_3 : decode cX6_least 3 = .ok (.istore_n 1, 1) := by decide +kernel
theorem dX6_least_4 : decode cX6_least 4 = .ok (.iconst 0, 1) := by decide +kernel
theorem dX6_least_5 : decode cX6_least 5 = .ok (.istore_n 2, 1) := by decide +kernel
theorem dX6_least_6 : decode cX6_least 6 = .ok (.iload_n 2, 1) := by decide +kernel
theorem dX6_least_7 : decode cX6_least 7 = .ok (.aload_n 0, 1) := by decide +kernel
theorem dX6_least_8 : decode cX6_least 8 = .ok (.getfield 18, 3) := by decide +kernel
theorem dX6_least_11 : decode cX6_least 11 = .ok (.getfield 160, 3) := by decide +kernel
theorem dX6_least_14 : decode cX6_least 14 = .ok (.if_icmp .ge 40, 3) := by decide +kernel
theorem dX6_least_17 : decode cX6_least 17 = .ok (.aload_n 0, 1) := by decide +kernel
theorem dX6_least_18 : decode cX6_least 18 = .ok (.getfield 18, 3) := by decide +kernel
theorem dX6_least_21 : decode cX6_least 21 = .ok (.getfield 163, 3) := by decide +kernel
theorem dX6_least_24 : decode cX6_least 24 = .ok (.iload_n 2, 1) := by decide +kernel
theorem dX6_least_25 : decode cX6_least 25 = .ok (.iaload, 1) := by decide +kernel
theorem dX6_least_26 : decode cX6_least 26 = .ok (.iload_n 1, 1) := by decide +kernel
theorem dX6_least_27 : decode cX6_least 27 = .ok (.if_icmp .ge 21, 3) := by decide +kernel
theorem dX6_least_30 : decode cX6_least 30 = .ok (.aload_n 0, 1) := by decide +kernel
theorem dX6_least_31 : decode cX6_least 31 = .ok (.iload_n 2, 1) := by decide +kernel
theorem dX6_least_32 : decode cX6_least 32 = .ok (.invokevirtual 175, 3) := by decide +kernel
theorem dX6_least_35 : decode cX6_least 35 = .ok (.ifCond .eq 13, 3) := by decide +kernel
theorem dX6_least_38 : decode cX6_least 38 = .ok (.aload_n 0, 1) := by decide +kernel
theorem dX6_least_39 : decode cX6_least 39 = .ok (.getfield 18, 3) := by decide +kernel
theorem dX6_least_42 : decode cX6_least 42 = .ok (.getfield 163, 3) := by decide +kernel
theorem dX6_least_45 : decode cX6_least 45 = .ok (.iload_n 2, 1) := by decide +kernel
theorem dX6_least_46 : decode cX6_least 46 = .ok (.iaload, 1) := by decide +kernel
theorem dX6_least_47 : decode cX6_least 47 = .ok (.istore_n 1, 1) := by decide +kernel
theorem dX6_least_48 : decode cX6_least 48 = .ok (.iinc 2 1, 3) := by decide +kernel
theorem dX6_least_51 : decode cX6_least 51 = .ok (.goto (-45), 3) := by decide +kernel
theorem dX6_least_54 : decode cX6_least 54 = .ok (.iload_n 1, 1) := by decide +kernel
theorem dX6_least_55 : decode cX6_least 55 = .ok (.sipush 10000, 3) := by decide +kernel
theorem dX6_least_58 : decode cX6_least 58 = .ok (.if_icmp .le 7, 3) := by decide +kernel
theorem dX6_least_61 : decode cX6_least 61 = .ok (.iconst 0, 1) := by decide +kernel
theorem dX6_least_62 : decode cX6_least 62 = .ok (.goto 4, 3) := by decide +kernel
theorem dX6_least_65 : decode cX6_least 65 = .ok (.iload_n 1, 1) := by decide +kernel
theorem dX6_least_66 : decode cX6_least 66 = .ok (.ireturn, 1) := by decide +kernel
theorem dX6_greatest_0 : decode cX6_greatest 0 = .ok (.sipush (-10001), 3) := by decide +kernel
theorem dX6_greatest_3 : decode cX6_greatest 3 = .ok (.istore_n 1, 1) := by decide +kernel
theorem dX6_greatest_4 : decode cX6_greatest 4 = .ok (.iconst 0, 1) := by decide +kernel
theorem dX6_greatest_5 : decode cX6_greatest 5 = .ok (.istore_n 2, 1) := by decide +kernel
theorem dX6_greatest_6 : decode cX6_greatest 6 = .ok (.iload_n 2, 1) := by decide +kernel
theorem dX6_greatest_7 : decode cX6_greatest 7 = .ok (.aload_n 0, 1) := by decide +kernel
theorem dX6_greatest_8 : decode cX6_greatest 8 = .ok (.getfield 18, 3) := by decide +kernel
theorem dX6_greatest_11 : decode cX6_greatest 11 = .ok (.getfield 160, 3) := by decide +kernel
theorem dX6_greatest_14 : decode cX6_greatest 14 = .ok (.if_icmp .ge 40, 3) := by decide +kernel
theorem dX6_greatest_17 : decode cX6_greatest 17 = .ok (.aload_n 0, 1) := by decide +kernel
theorem dX6_greatest_18 : decode cX6_greatest 18 = .ok (.getfield 18, 3) := by decide +kernel
theorem dX6_greatest_21 : decode cX6_greatest 21 = .ok (.getfield 163, 3) := by decide +kernel
theorem dX6_greatest_24 : decode cX6_greatest 24 = .ok (.iload_n 2, 1) := by decide +kernel
theorem dX6_greatest_25 : decode cX6_greatest 25 = .ok (.iaload, 1) := by decide +kernel
theorem dX6_greatest_26 : decode cX6_greatest 26 = .ok (.iload_n 1, 1) := by decide +kernel
theorem dX6_greatest_27 : decode cX6_greatest 27 = .ok (.if_icmp .le 21, 3) := by decide +kernel
theorem dX6_greatest_30 : decode cX6_greatest 30 = .ok (.aload_n 0, 1) := by decide +kernel
theorem dX6_greatest_31 : decode cX6_greatest 31 = .ok (.iload_n 2, 1) := by decide +kernel
theorem dX6_greatest_32 : decode cX6_greatest 32 = .ok (.invokevirtual 175, 3) := by decide +kernel
theorem dX6_greatest_35 : decode cX6_greatest 35 = .ok (.ifCond .eq 13, 3) := by decide +kernel
theorem dX6_greatest_38 : decode cX6_greatest 38 = .ok (.aload_n 0, 1) := by decide +kernel
theorem dX6_greatest_39 : decode cX6_greatest 39 = .ok (.getfield 18, 3) := by decide +kernel
theorem dX6_greatest_42 : decode cX6_greatest 42 = .ok (.getfield 163, 3) := by decide +kernel
theorem dX6_greatest_45 : decode cX6_greatest 45 = .ok (.iload_n 2, 1) := by decide +kernel
theorem dX6_greatest_46 : decode cX6_greatest 46 = .ok (.iaload, 1) := by decide +kernel
theorem dX6_greatest_47 : decode cX6_greatest 47 = .ok (.istore_n 1, 1) := by decide +kernel
theorem dX6_greatest_48 : decode cX6_greatest 48 = .ok (.iinc 2 1, 3) := by decide +kernel
theorem dX6_greatest_51 : decode cX6_greatest 51 = .ok (.goto (-45), 3) := by decide +kernel
theorem dX6_greatest_54 : decode cX6_greatest 54 = .ok (.iload_n 1, 1) := by decide +kernel
theorem dX6_greatest_55 : decode cX6_greatest 55 = .ok (.sipush (-10000), 3) := by decide +kernel
theorem dX6_greatest_58 : decode cX6_greatest 58 = .ok (.if_icmp .ge 7, 3) := by decide +kernel
theorem dX6_greatest_61 : decode cX6_greatest 61 = .ok (.iconst 0, 1) := by decide +kernel
theorem dX6_greatest_62 : decode cX6_greatest 62 = .ok (.goto 4, 3) := by decide +kernel
theorem dX6_greatest_65 : decode cX6_greatest 65 = .ok (.iload_n 1, 1) := by decide +kernel
theorem dX6_greatest_66 : decode cX6_greatest 66 = .ok (.ireturn, 1) := by decide +kernel
theorem dX6_cellCount_0 : decode cX6_cellCount 0 = .ok (.aload_n 0, 1) := by decide +kernel
theorem dX6_cellCount_1 : decode cX6_cellCount 1 = .ok (.aload_n 0, 1) := by decide +kernel
theorem dX6_cellCount_2 : decode cX6_cellCount 2 = .ok (.getfield 249, 3) := by decide +kernel
theorem dX6_cellCount_5 : decode cX6_cellCount 5 = .ok (.invokevirtual 258, 3) := by decide +kernel
theorem dX6_cellCount_8 : decode cX6_cellCount 8 = .ok (.ireturn, 1) := by decide +kernel
theorem dX6_cost_0 : decode cX6_cost 0 = .ok (.aload_n 0, 1) := by decide +kernel
theorem dX6_cost_1 : decode cX6_cost 1 = .ok (.aload_n 0, 1) := by decide +kernel
theorem dX6_cost_2 : decode cX6_cost 2 = .ok (.getfield 249, 3) := by decide +kernel
theorem dX6_cost_5 : decode cX6_cost 5 = .ok (.invokevirtual 280, 3) := by decide +kernel
theorem dX6_cost_8 : decode cX6_cost 8 = .ok (.ireturn, 1) := by decide +kernel
theorem dX6_answeredBy_0 : decode cX6_answeredBy 0 = .ok (.aload_n 0, 1) := by decide +kernel
theorem dX6_answeredBy_1 : decode cX6_answeredBy 1 = .ok (.aload_n 0, 1) := by decide +kernel
theorem dX6_answeredBy_2 : decode cX6_answeredBy 2 = .ok (.getfield 249, 3) := by decide +kernel
theorem dX6_answeredBy_5 : decode cX6_answeredBy 5 = .ok (.invokevirtual 283, 3) := by decide +kernel
theorem dX6_answeredBy_8 : decode cX6_answeredBy 8 = .ok (.ireturn, 1) := by decide +kernel
theorem dX6_gain_0 : decode cX6_gain 0 = .ok (.aload_n 0, 1) := by decide +kernel
theorem dX6_gain_1 : decode cX6_gain 1 = .ok (.aload_n 0, 1) := by decide +kernel
theorem dX6_gain_2 : decode cX6_gain 2 = .ok (.getfield 249, 3) := by decide +kernel
theorem dX6_gain_5 : decode cX6_gain 5 = .ok (.invokevirtual 286, 3) := by decide +kernel
theorem dX6_gain_8 : decode cX6_gain 8 = .ok (.ireturn, 1) := by decide +kernel
theorem dX6_advise_0 : decode cX6_advise 0 = .ok (.iconst (-1), 1) := by decide +kernel
theorem dX6_advise_1 : decode cX6_advise 1 = .ok (.istore_n 1, 1) := by decide +kernel
theorem dX6_advise_2 : decode cX6_advise 2 = .ok (.iconst 0, 1) := by decide +kernel
theorem dX6_advise_3 : decode cX6_advise 3 = .ok (.istore_n 2, 1) := by decide +kernel
theorem dX6_advise_4 : decode cX6_advise 4 = .ok (.iconst 0, 1) := by decide +kernel
theorem dX6_advise_5 : decode cX6_advise 5 = .ok (.istore_n 3, 1) := by decide +kernel
theorem dX6_advise_6 : decode cX6_advise 6 = .ok (.iload_n 3, 1) := by decide +kernel
theorem dX6_advise_7 : decode cX6_advise 7 = .ok (.sipush 256, 3) := by decide +kernel
theorem dX6_advise_10 : decode cX6_advise 10 = .ok (.if_icmp .ge 39, 3) := by decide +kernel
theorem dX6_advise_13 : decode cX6_advise 13 = .ok (.aload_n 0, 1) := by decide +kernel
theorem dX6_advise_14 : decode cX6_advise 14 = .ok (.iload_n 3, 1) := by decide +kernel
theorem dX6_advise_15 : decode cX6_advise 15 = .ok (.invokevirtual 289, 3) := by decide +kernel
theorem dX6_advise_18 : decode cX6_advise 18 = .ok (.ifCond .eq 11, 3) := by decide +kernel
theorem dX6_advise_21 : decode cX6_advise 21 = .ok (.aload_n 0, 1) := by decide +kernel
theorem dX6_advise_22 : decode cX6_advise 22 = .ok (.iload_n 3, 1) := by decide +kernel
theorem dX6_advise_23 : decode cX6_advise 23 = .ok (.invokevirtual 286, 3) := by decide +kernel
theorem dX6_advise_26 : decode cX6_advise 26 = .ok (.goto 4, 3) := by decide +kernel
theorem dX6_advise_29 : decode cX6_advise 29 = .ok (.iconst (-1), 1) := by decide +kernel
theorem dX6_advise_30 : decode cX6_advise 30 = .ok (.istore 4, 2) := by decide +kernel
theorem dX6_advise_32 : decode cX6_advise 32 = .ok (.iload 4, 2) := by decide +kernel
theorem dX6_advise_34 : decode cX6_advise 34 = .ok (.iload_n 1, 1) := by decide +kernel
theorem dX6_advise_35 : decode cX6_advise 35 = .ok (.if_icmp .le 8, 3) := by decide +kernel
theorem dX6_advise_38 : decode cX6_advise 38 = .ok (.iload 4, 2) := by decide +kernel
theorem dX6_advise_40 : decode cX6_advise 40 = .ok (.istore_n 1, 1) := by decide +kernel
theorem dX6_advise_41 : decode cX6_advise 41 = .ok (.iload_n 3, 1) := by decide +kernel
theorem dX6_advise_42 : decode cX6_advise 42 = .ok (.istore_n 2, 1) := by decide +kernel
theorem dX6_advise_43 : decode cX6_advise 43 = .ok (.iinc 3 1, 3) := by decide +kernel
theorem dX6_advise_46 : decode cX6_advise 46 = .ok (.goto (-40), 3) := by decide +kernel
theorem dX6_advise_49 : decode cX6_advise 49 = .ok (.aload_n 0, 1) := by decide +kernel
theorem dX6_advise_50 : decode cX6_advise 50 = .ok (.iload_n 2, 1) := by decide +kernel
theorem dX6_advise_51 : decode cX6_advise 51 = .ok (.putfield 249, 3) := by decide +kernel
theorem dX6_advise_54 : decode cX6_advise 54 = .ok (.iload_n 1, 1) := by decide +kernel
theorem dX6_advise_55 : decode cX6_advise 55 = .ok (.ireturn, 1) := by decide +kernel
theorem dX6_mix_0 : decode cX6_mix 0 = .ok (.lload_n 0, 1) := by decide +kernel
theorem dX6_mix_1 : decode cX6_mix 1 = .ok (.ldc2_w 398, 3) := by decide +kernel
theorem dX6_mix_4 : decode cX6_mix 4 = .ok (.lmul, 1) := by decide +kernel
theorem dX6_mix_5 : decode cX6_mix 5 = .ok (.lload_n 2, 1) := by decide +kernel
theorem dX6_mix_6 : decode cX6_mix 6 = .ok (.ladd, 1) := by decide +kernel
theorem dX6_mix_7 : decode cX6_mix 7 = .ok (.lreturn, 1) := by decide +kernel
theorem dX6_mixTree_0 : decode cX6_mixTree 0 = .ok (.aload_n 0, 1) := by decide +kernel
theorem dX6_mixTree_1 : decode cX6_mixTree 1 = .ok (.getfield 11, 3) := by decide +kernel
theorem dX6_mixTree_4 : decode cX6_mixTree 4 = .ok (.iload_n 3, 1) := by decide +kernel
theorem dX6_mixTree_5 : decode cX6_mixTree 5 = .ok (.aaload, 1) := by decide +kernel
theorem dX6_mixTree_6 : decode cX6_mixTree 6 = .ok (.astore 4, 2) := by decide +kernel
theorem dX6_mixTree_8 : decode cX6_mixTree 8 = .ok (.lload_n 1, 1) := by decide +kernel
theorem dX6_mixTree_9 : decode cX6_mixTree 9 = .ok (.aload 4, 2) := by decide +kernel
theorem dX6_mixTree_11 : decode cX6_mixTree 11 = .ok (.getfield 128, 3) := by decide +kernel
theorem dX6_mixTree_14 : decode cX6_mixTree 14 = .ok (.i2l, 1) := by decide +kernel
theorem dX6_mixTree_15 : decode cX6_mixTree 15 = .ok (.invokestatic 294, 3) := by decide +kernel
theorem dX6_mixTree_18 : decode cX6_mixTree 18 = .ok (.lstore 5, 2) := by decide +kernel
theorem dX6_mixTree_20 : decode cX6_mixTree 20 = .ok (.iconst 0, 1) := by decide +kernel
theorem dX6_mixTree_21 : decode cX6_mixTree 21 = .ok (.istore 7, 2) := by decide +kernel
theorem dX6_mixTree_23 : decode cX6_mixTree 23 = .ok (.iload 7, 2) := by decide +kernel
theorem dX6_mixTree_25 : decode cX6_mixTree 25 = .ok (.aload 4, 2) := by decide +kernel
theorem dX6_mixTree_27 : decode cX6_mixTree 27 = .ok (.getfield 128, 3) := by decide +kernel
theorem dX6_mixTree_30 : decode cX6_mixTree 30 = .ok (.if_icmp .ge 41, 3) := by decide +kernel
theorem dX6_mixTree_33 : decode cX6_mixTree 33 = .ok (.lload 5, 2) := by decide +kernel
theorem dX6_mixTree_35 : decode cX6_mixTree 35 = .ok (.aload 4, 2) := by decide +kernel
theorem dX6_mixTree_37 : decode cX6_mixTree 37 = .ok (.getfield 118, 3) := by decide +kernel
theorem dX6_mixTree_40 : decode cX6_mixTree 40 = .ok (.iload 7, 2) := by decide +kernel
theorem dX6_mixTree_42 : decode cX6_mixTree 42 = .ok (.iaload, 1) := by decide +kernel
theorem dX6_mixTree_43 : decode cX6_mixTree 43 = .ok (.i2l, 1) := by decide +kernel
theorem dX6_mixTree_44 : decode cX6_mixTree 44 = .ok (.invokestatic 294, 3) := by decide +kernel
theorem dX6_mixTree_47 : decode cX6_mixTree 47 = .ok (.lstore 5, 2) := by decide +kernel
theorem dX6_mixTree_49 : decode cX6_mixTree 49 = .ok (.lload 5, 2) := by decide +kernel
theorem dX6_mixTree_51 : decode cX6_mixTree 51 = .ok (.aload 4, 2) := by decide +kernel
theorem dX6_mixTree_53 : decode cX6_mixTree 53 = .ok (.getfield 112, 3) := by decide +kernel
theorem dX6_mixTree_56 : decode cX6_mixTree 56 = .ok (.iload 7, 2) := by decide +kernel
theorem dX6_mixTree_58 : decode cX6_mixTree 58 = .ok (.iaload, 1) := by decide +kernel
theorem dX6_mixTree_59 : decode cX6_mixTree 59 = .ok (.i2l, 1) := by decide +kernel
theorem dX6_mixTree_60 : decode cX6_mixTree 60 = .ok (.invokestatic 294, 3) := by decide +kernel
theorem dX6_mixTree_63 : decode cX6_mixTree 63 = .ok (.lstore 5, 2) := by decide +kernel
theorem dX6_mixTree_65 : decode cX6_mixTree 65 = .ok (.iinc 7 1, 3) := by decide +kernel
theorem dX6_mixTree_68 : decode cX6_mixTree 68 = .ok (.goto (-45), 3) := by decide +kernel
theorem dX6_mixTree_71 : decode cX6_mixTree 71 = .ok (.lload 5, 2) := by decide +kernel
theorem dX6_mixTree_73 : decode cX6_mixTree 73 = .ok (.aload 4, 2) := by decide +kernel
theorem dX6_mixTree_75 : decode cX6_mixTree 75 = .ok (.getfield 150, 3) := by decide +kernel
theorem dX6_mixTree_78 : decode cX6_mixTree 78 = .ok (.i2l, 1) := by decide +kernel
theorem dX6_mixTree_79 : decode cX6_mixTree 79 = .ok (.invokestatic 294, 3) := by decide +kernel
theorem dX6_mixTree_82 : decode cX6_mixTree 82 = .ok (.lstore 5, 2) := by decide +kernel
theorem dX6_mixTree_84 : decode cX6_mixTree 84 = .ok (.lload 5, 2) := by decide +kernel
theorem dX6_mixTree_86 : decode cX6_mixTree 86 = .ok (.aload_n 0, 1) := by decide +kernel
theorem dX6_mixTree_87 : decode cX6_mixTree 87 = .ok (.getfield 249, 3) := by decide +kernel
theorem dX6_mixTree_90 : decode cX6_mixTree 90 = .ok (.iload_n 3, 1) := by decide +kernel
theorem dX6_mixTree_91 : decode cX6_mixTree 91 = .ok (.invokestatic 252, 3) := by decide +kernel
theorem dX6_mixTree_94 : decode cX6_mixTree 94 = .ok (.i2l, 1) := by decide +kernel
theorem dX6_mixTree_95 : decode cX6_mixTree 95 = .ok (.invokestatic 294, 3) := by decide +kernel
theorem dX6_mixTree_98 : decode cX6_mixTree 98 = .ok (.lreturn, 1) := by decide +kernel
theorem dX6_mixLineup_0 : decode cX6_mixLineup 0 = .ok (.aload_n 0, 1) := by decide +kernel
theorem dX6_mixLineup_1 : decode cX6_mixLineup 1 = .ok (.iload_n 3, 1) := by decide +kernel
theorem dX6_mixLineup_2 : decode cX6_mixLineup 2 = .ok (.aload_n 0, 1) := by decide +kernel
theorem dX6_mixLineup_3 : decode cX6_mixLineup 3 = .ok (.getfield 11, 3) := by decide +kernel
theorem dX6_mixLineup_6 : decode cX6_mixLineup 6 = .ok (.iload_n 3, 1) := by decide +kernel
theorem dX6_mixLineup_7 : decode cX6_mixLineup 7 = .ok (.aaload, 1) := by decide +kernel
theorem dX6_mixLineup_8 : decode cX6_mixLineup 8 = .ok (.invokevirtual 204, 3) := by decide +kernel
theorem dX6_mixLineup_11 : decode cX6_mixLineup 11 = .ok (.lload_n 1, 1) := by decide +kernel
theorem dX6_mixLineup_12 : decode cX6_mixLineup 12 = .ok (.aload_n 0, 1) := by decide +kernel
theorem dX6_mixLineup_13 : decode cX6_mixLineup 13 = .ok (.getfield 49, 3) := by decide +kernel
theorem dX6_mixLineup_16 : decode cX6_mixLineup 16 = .ok (.getfield 188, 3) := by decide +kernel
theorem dX6_mixLineup_19 : decode cX6_mixLineup 19 = .ok (.getfield 191, 3) := by decide +kernel
theorem dX6_mixLineup_22 : decode cX6_mixLineup 22 = .ok (.i2l, 1) := by decide +kernel
theorem dX6_mixLineup_23 : decode cX6_mixLineup 23 = .ok (.invokestatic 294, 3) := by decide +kernel
theorem dX6_mixLineup_26 : decode cX6_mixLineup 26 = .ok (.lstore 4, 2) := by decide +kernel
theorem dX6_mixLineup_28 : decode cX6_mixLineup 28 = .ok (.iconst 0, 1) := by decide +kernel
theorem dX6_mixLineup_29 : decode cX6_mixLineup 29 = .ok (.istore 6, 2) := by decide +kernel
theorem dX6_mixLineup_31 : decode cX6_mixLineup 31 = .ok (.iload 6, 2) := by decide +kernel
theorem dX6_mixLineup_33 : decode cX6_mixLineup 33 = .ok (.aload_n 0, 1) := by decide +kernel
theorem dX6_mixLineup_34 : decode cX6_mixLineup 34 = .ok (.getfield 49, 3) := by decide +kernel
theorem dX6_mixLineup_37 : decode cX6_mixLineup 37 = .ok (.getfield 188, 3) := by decide +kernel
theorem dX6_mixLineup_40 : decode cX6_mixLineup 40 = .ok (.getfield 191, 3) := by decide +kernel
theorem dX6_mixLineup_43 : decode cX6_mixLineup 43 = .ok (.if_icmp .ge 26, 3) := by decide +kernel
theorem dX6_mixLineup_46 : decode cX6_mixLineup 46 = .ok (.lload 4, 2) := by decide +kernel
theorem dX6_mixLineup_48 : decode cX6_mixLineup 48 = .ok (.aload_n 0, 1) := by decide +kernel
theorem dX6_mixLineup_49 : decode cX6_mixLineup 49 = .ok (.getfield 49, 3) := by decide +kernel
theorem dX6_mixLineup_52 : decode cX6_mixLineup 52 = .ok (.iload 6, 2) := by decide +kernel
theorem dX6_mixLineup_54 : decode cX6_mixLineup 54 = .ok (.invokevirtual 199, 3) := by decide +kernel
theorem dX6_mixLineup_57 : decode cX6_mixLineup 57 = .ok (.i2l, 1) := by decide +kernel
theorem dX6_mixLineup_58 : decode cX6_mixLineup 58 = .ok (.invokestatic 294, 3) := by decide +kernel
theorem dX6_mixLineup_61 : decode cX6_mixLineup 61 = .ok (.lstore 4, 2) := by decide +kernel
theorem dX6_mixLineup_63 : decode cX6_mixLineup 63 = .ok (.iinc 6 1, 3) := by decide +kernel
theorem dX6_mixLineup_66 : decode cX6_mixLineup 66 = .ok (.goto (-35), 3) := by decide +kernel
theorem dX6_mixLineup_69 : decode cX6_mixLineup 69 = .ok (.lload 4, 2) := by decide +kernel
theorem dX6_mixLineup_71 : decode cX6_mixLineup 71 = .ok (.lreturn, 1) := by decide +kernel
/-! by program: wip/whole/gen.py out of wip/whole/src/18.reads.eb -/
/-! EbbTable: what asks without throwing -/
set_option maxRecDepth 100000 in
set_option maxHeartbeats 8000000 in
theorem c_X6_facts {l : Launch} {D : va_G} {cys : Nat → ClassId} {ad : Nat → Int → Nat} {L : List Nat} {g : Nat → va_E} {X : Int64} {Z : ZT} (hi : injA ad)   : CM l D cys ad yX6_facts cX6_facts 1 (some .int) 0 0 0 0 [.ref (ad 0 0)] L g X Z (PI L g X Z (fun r => r = Z 6 0 3)) := by
  refine cm_start hi (by decide +kernel) (Nat.le_of_ble_eq_true rfl) ?_
  intro p_ e_ s_ m_ args_ below_ meth_ c_ A_ Q_ hQ G hr hin
  refine j_aload_n G dX6_facts_0 rfl ?_
  refine gf_0_1 G dX6_facts_1 lf6_18 (by first | assumption | decide) ?_
  refine gf_6_3 G dX6_facts_4 lf6_160 (by first | assumption | decide) ?_
  refine jr_I G hQ hr dX6_facts_7 (by decide) (by decide) ?_
  rfl
set_option maxRecDepth 100000 in
set_option maxHeartbeats 8000000 in
theorem c_X6_views {l : Launch} {D : va_G} {cys : Nat → ClassId} {ad : Nat → Int → Nat} {L : List Nat} {g : Nat → va_E} {X : Int64} {Z : ZT} (hi : injA ad)   : CM l D cys ad yX6_views cX6_views 1 (some .int) 0 0 0 0 [.ref (ad 0 0)] L g X Z (PI L g X Z (fun r => r = Z 11 0 3)) := by
  refine cm_start hi (by decide +kernel) (Nat.le_of_ble_eq_true rfl) ?_
  intro p_ e_ s_ m_ args_ below_ meth_ c_ A_ Q_ hQ G hr hin
  refine j_aload_n G dX6_views_0 rfl ?_
  refine gf_0_2 G dX6_views_1 lf6_25 (by first | assumption | decide) ?_
  refine gf_11_3 G dX6_views_4 lf6_261 (by first | assumption | decide) ?_
  refine jr_I G hQ hr dX6_views_7 (by decide) (by decide) ?_
  rfl
set_option maxRecDepth 100000 in
set_option maxHeartbeats 8000000 in
theorem c_X6_setBare {l : Launch} {D : va_G} {cys : Nat → ClassId} {ad : Nat → Int → Nat} {L : List Nat} {g : Nat → va_E} {X : Int64} {Z : ZT} (hi : injA ad) {b : Int} (hb : b = 0 ∨ b = 1) (hz : Z 0 0 8 = 0 ∨ Z 0 0 8 = 1) : CM l D cys ad yX6_setBare cX6_setBare 3 (some .boolean) 0 0 0 0 [.ref (ad 0 0), .int (iI b)] L g X Z (PIZ L g X Z (fun r Z' => r = Z 0 0 8 ∧ Z' = zS Z 0 0 8 b)) := by
  refine cm_start hi (by decide +kernel) (Nat.le_of_ble_eq_true rfl) ?_
  intro p_ e_ s_ m_ args_ below_ meth_ c_ A_ Q_ hQ G hr hin
  refine j_aload_n G dX6_setBare_0 rfl ?_
  refine gf_0_8 G dX6_setBare_1 lf6_232 (by first | assumption | decide) ?_
  refine j_istore_n G dX6_setBare_4 (by decide) rfl ?_
  refine j_aload_n G dX6_setBare_5 rfl ?_
  refine j_iload_n G dX6_setBare_6 rfl ?_
  refine pf_0_8 G dX6_setBare_7 lf6_232 (by first | assumption | decide) (by omega) ?_
  refine j_iload_n G dX6_setBare_10 rfl ?_
  refine jr_BZ G hQ hr dX6_setBare_11 (by decide) (by decide) (by omega) ?_
  try simp (config := { decide := true }) only [zS_k, zS_s, zS_j, ne_eq]
  all_goals exact ⟨rfl, rfl⟩
set_option maxRecDepth 100000 in
set_option maxHeartbeats 8000000 in
theorem c_X6_count {l : Launch} {D : va_G} {cys : Nat → ClassId} {ad : Nat → Int → Nat} {L : List Nat} {g : Nat → va_E} {X : Int64} {Z : ZT} (hi : injA ad) {S : ZT} (hS : SP S Z) (hW : WF S) : CM l D cys ad yX6_count cX6_count 3 (some .int) 3 67 0 0 [.ref (ad 0 0)] L g X Z (PI L g X Z (fun r => r = CNT S)) := by
  refine cm_start hi (by decide +kernel) (Nat.le_of_ble_eq_true rfl) ?_
  intro p_ e_ s_ m_ args_ below_ meth_ c_ A_ Q_ hQ G hr hin
  have hf := hW.f
  have e63 : Z 6 0 3 = S 6 0 3 := by rw [hS.1 6 rfl]
  have loop : ∀ (n : Nat) (a b : Int), 0 ≤ a → a ≤ S 6 0 3 → (S 6 0 3 - a).toNat = n → b = sumTo (fun k => iv (seen S k)) a.toNat → JJ p_ l e_ { frames := 3, cells := 0, slots := 0, locals := 67 } s_ m_ args_ below_ meth_ c_ D cys ad A_ Q_ 3 0 0 L g X Z 4 [(0, .ref (ad 0 0)), (1, .int (iI b)), (2, .int (iI a))] [] := by
    intro n
    induction n with
    | zero =>
      intro a b h0 h1 h2 h3
      have ea : a = S 6 0 3 := by omega
      subst ea
      refine j_iload_n G dX6_count_4 rfl ?_
      refine j_aload_n G dX6_count_5 rfl ?_
      refine gf_0_1 G dX6_count_6 lf6_18 (by first | assumption | decide) ?_
      refine gf_6_3 G dX6_count_9 lf6_160 (by first | assumption | decide) ?_
      refine j_icmp_ge G 32 dX6_count_12 (by decide) (by omega) (by omega) (fun c12 => ?_) (fun c12 => ?_)
      · refine j_iload_n G dX6_count_32 rfl ?_
        refine jr_I G hQ hr dX6_count_33 (by decide) (by decide) ?_
        exact h3
      · exfalso; omega
    | succ n ih =>
      intro a b h0 h1 h2 h3
      have hk : 0 ≤ a ∧ a < S 6 0 3 := by omega
      have hs := sumTo_s (f := fun k => iv (seen S k)) h0
      refine j_iload_n G dX6_count_4 rfl ?_
      refine j_aload_n G dX6_count_5 rfl ?_
      refine gf_0_1 G dX6_count_6 lf6_18 (by first | assumption | decide) ?_
      refine gf_6_3 G dX6_count_9 lf6_160 (by first | assumption | decide) ?_
      refine j_icmp_ge G 32 dX6_count_12 (by decide) (by omega) (by omega) (fun c12 => ?_) (fun c12 => ?_)
      · exfalso; omega
      · refine j_aload_n G dX6_count_15 rfl ?_
        refine j_iload_n G dX6_count_16 rfl ?_
        refine j_cVI G cvX6_isSeen ml6_175 (c_X6_isSeen hi hS hW hk) dX6_count_17 ⟨by decide, by decide⟩ ⟨by decide, by decide⟩ rfl rfl (Nat.le_of_ble_eq_true rfl) (by first | assumption | decide) rfl rfl rfl (fun r17 h17 => ?_)
        refine j_if_eq G 26 dX6_count_20 (by decide) (by omega) (fun c20 => ?_) (fun c20 => ?_)
        · refine j_iinc G dX6_count_26 rfl (by decide) rfl ?_
          refine j_goto G 4 dX6_count_29 (by decide) ?_
          refine ih (a + 1) _ (by omega) (by omega) (by omega) ?_
          rw [hs, ← h3]
          rcases h17 with q | q
          · first
            | (exfalso; omega)
            | rw [iv_t q.2]
          · first
            | (exfalso; omega)
            | (rw [iv_f q.2]; omega)
        · refine j_iinc G dX6_count_23 rfl (by decide) rfl ?_
          refine j_iinc G dX6_count_26 rfl (by decide) rfl ?_
          refine j_goto G 4 dX6_count_29 (by decide) ?_
          refine ih (a + 1) _ (by omega) (by omega) (by omega) ?_
          rw [hs, ← h3]
          rcases h17 with q | q
          · first
            | (exfalso; omega)
            | rw [iv_t q.2]
          · first
            | (exfalso; omega)
            | (rw [iv_f q.2]; omega)
  refine j_iconst G dX6_count_0 ?_
  refine j_istore_n G dX6_count_1 (by decide) rfl ?_
  refine j_iconst G dX6_count_2 ?_
  refine j_istore_n G dX6_count_3 (by decide) rfl ?_
  exact loop _ 0 0 (by omega) (by omega) rfl rfl
set_option maxRecDepth 100000 in
set_option maxHeartbeats 8000000 in
theorem c_X6_sum {l : Launch} {D : va_G} {cys : Nat → ClassId} {ad : Nat → Int → Nat} {L : List Nat} {g : Nat → va_E} {X : Int64} {Z : ZT} (hi : injA ad) {S : ZT} (hS : SP S Z) (hW : WF S) : CM l D cys ad yX6_sum cX6_sum 3 (some .int) 3 67 0 0 [.ref (ad 0 0)] L g X Z (PI L g X Z (fun r => r = SUM S)) := by
  refine cm_start hi (by decide +kernel) (Nat.le_of_ble_eq_true rfl) ?_
  intro p_ e_ s_ m_ args_ below_ meth_ c_ A_ Q_ hQ G hr hin
  have hf := hW.f
  have e63 : Z 6 0 3 = S 6 0 3 := by rw [hS.1 6 rfl]
  have loop : ∀ (n : Nat) (a b : Int), 0 ≤ a → a ≤ S 6 0 3 → (S 6 0 3 - a).toNat = n → b = sumTo (fun k => iv (seen S k) * S 9 0 k) a.toNat → JJ p_ l e_ { frames := 3, cells := 0, slots := 0, locals := 67 } s_ m_ args_ below_ meth_ c_ D cys ad A_ Q_ 3 0 0 L g X Z 4 [(0, .ref (ad 0 0)), (1, .int (iI b)), (2, .int (iI a))] [] := by
    intro n
    induction n with
    | zero =>
      intro a b h0 h1 h2 h3
      have ea : a = S 6 0 3 := by omega
      subst ea
      refine j_iload_n G dX6_sum_4 rfl ?_
      refine j_aload_n G dX6_sum_5 rfl ?_
      refine gf_0_1 G dX6_sum_6 lf6_18 (by first | assumption | decide) ?_
      refine gf_6_3 G dX6_sum_9 lf6_160 (by first | assumption | decide) ?_
      refine j_icmp_ge G 41 dX6_sum_12 (by decide) (by omega) (by omega) (fun c12 => ?_) (fun c12 => ?_)
      · refine j_iload_n G dX6_sum_41 rfl ?_
        refine jr_I G hQ hr dX6_sum_42 (by decide) (by decide) ?_
        exact h3
      · exfalso; omega
    | succ n ih =>
      intro a b h0 h1 h2 h3
      have hk : 0 ≤ a ∧ a < S 6 0 3 := by omega
      have e9 : Z 9 0 a = S 9 0 a := by rw [hS.1 9 rfl]
      have hs := sumTo_s (f := fun k => iv (seen S k) * S 9 0 k) h0
      refine j_iload_n G dX6_sum_4 rfl ?_
      refine j_aload_n G dX6_sum_5 rfl ?_
      refine gf_0_1 G dX6_sum_6 lf6_18 (by first | assumption | decide) ?_
      refine gf_6_3 G dX6_sum_9 lf6_160 (by first | assumption | decide) ?_
      refine j_icmp_ge G 41 dX6_sum_12 (by decide) (by omega) (by omega) (fun c12 => ?_) (fun c12 => ?_)
      · exfalso; omega
      · refine j_aload_n G dX6_sum_15 rfl ?_
        refine j_iload_n G dX6_sum_16 rfl ?_
        refine j_cVI G cvX6_isSeen ml6_175 (c_X6_isSeen hi hS hW hk) dX6_sum_17 ⟨by decide, by decide⟩ ⟨by decide, by decide⟩ rfl rfl (Nat.le_of_ble_eq_true rfl) (by first | assumption | decide) rfl rfl rfl (fun r17 h17 => ?_)
        refine j_if_eq G 35 dX6_sum_20 (by decide) (by omega) (fun c20 => ?_) (fun c20 => ?_)
        · refine j_iinc G dX6_sum_35 rfl (by decide) rfl ?_
          refine j_goto G 4 dX6_sum_38 (by decide) ?_
          refine ih (a + 1) _ (by omega) (by omega) (by omega) ?_
          rw [hs, ← h3]
          rcases h17 with q | q
          · first
            | (exfalso; omega)
            | (rw [iv_t q.2, e9]; omega)
          · first
            | (exfalso; omega)
            | (rw [iv_f q.2]; omega)
        · refine j_iload_n G dX6_sum_23 rfl ?_
          refine j_aload_n G dX6_sum_24 rfl ?_
          refine gf_0_1 G dX6_sum_25 lf6_18 (by first | assumption | decide) ?_
          refine gf_6_1 G dX6_sum_28 lf6_163 (by first | assumption | decide) ?_
          refine j_iload_n G dX6_sum_31 rfl ?_
          refine al_9 G dX6_sum_32 (by first | assumption | decide) (by omega) (by omega) ?_
          refine j_iadd G dX6_sum_33 ?_
          refine j_istore_n G dX6_sum_34 (by decide) rfl ?_
          refine j_iinc G dX6_sum_35 rfl (by decide) rfl ?_
          refine j_goto G 4 dX6_sum_38 (by decide) ?_
          refine ih (a + 1) _ (by omega) (by omega) (by omega) ?_
          rw [hs, ← h3]
          rcases h17 with q | q
          · first
            | (exfalso; omega)
            | (rw [iv_t q.2, e9]; omega)
          · first
            | (exfalso; omega)
            | (rw [iv_f q.2]; omega)
  refine j_iconst G dX6_sum_0 ?_
  refine j_istore_n G dX6_sum_1 (by decide) rfl ?_
  refine j_iconst G dX6_sum_2 ?_
  refine j_istore_n G dX6_sum_3 (by decide) rfl ?_
  exact loop _ 0 0 (by omega) (by omega) rfl rfl
set_option maxRecDepth 100000 in
set_option maxHeartbeats 8000000 in
theorem c_X6_least {l : Launch} {D : va_G} {cys : Nat → ClassId} {ad : Nat → Int → Nat} {L : List Nat} {g : Nat → va_E} {X : Int64} {Z : ZT} (hi : injA ad) {S : ZT} (hS : SP S Z) (hW : WF S) : CM l D cys ad yX6_least cX6_least 3 (some .int) 3 67 0 0 [.ref (ad 0 0)] L g X Z (PI L g X Z (fun r => r = LEAST S)) := by
  refine cm_start hi (by decide +kernel) (Nat.le_of_ble_eq_true rfl) ?_
  intro p_ e_ s_ m_ args_ below_ meth_ c_ A_ Q_ hQ G hr hin
  have hf := hW.f
  have e63 : Z 6 0 3 = S 6 0 3 := by rw [hS.1 6 rfl]
  have loop : ∀ (n : Nat) (a b : Int), 0 ≤ a → a ≤ S 6 0 3 → (S 6 0 3 - a).toNat = n → b = lsF S a.toNat → JJ p_ l e_ { frames := 3, cells := 0, slots := 0, locals := 67 } s_ m_ args_ below_ meth_ c_ D cys ad A_ Q_ 3 0 0 L g X Z 6 [(0, .ref (ad 0 0)), (1, .int (iI b)), (2, .int (iI a))] [] := by
    intro n
    induction n with
    | zero =>
      intro a b h0 h1 h2 h3
      have ea : a = S 6 0 3 := by omega
      subst ea
      have hb := lsF_in hW (S 6 0 3).toNat (by omega)
      rw [← h3] at hb
      refine j_iload_n G dX6_least_6 rfl ?_
      refine j_aload_n G dX6_least_7 rfl ?_
      refine gf_0_1 G dX6_least_8 lf6_18 (by first | assumption | decide) ?_
      refine gf_6_3 G dX6_least_11 lf6_160 (by first | assumption | decide) ?_
      refine j_icmp_ge G 54 dX6_least_14 (by decide) (by omega) (by omega) (fun c14 => ?_) (fun c14 => ?_)
      · refine j_iload_n G dX6_least_54 rfl ?_
        refine j_sipush G dX6_least_55 (by decide +kernel) ?_
        refine j_icmp_le G 65 dX6_least_58 (by decide) (by omega) (by omega) (fun c58 => ?_) (fun c58 => ?_)
        · refine j_iload_n G dX6_least_65 rfl ?_
          refine jr_I G hQ hr dX6_least_66 (by decide) (by decide) ?_
          unfold LEAST
          rw [← h3]
          split <;> omega
        · refine j_iconst G dX6_least_61 ?_
          refine j_goto G 66 dX6_least_62 (by decide) ?_
          refine jr_I G hQ hr dX6_least_66 (by decide) (by decide) ?_
          unfold LEAST
          rw [← h3]
          split <;> omega
      · exfalso; omega
    | succ n ih =>
      intro a b h0 h1 h2 h3
      have hk : 0 ≤ a ∧ a < S 6 0 3 := by omega
      have e9 : Z 9 0 a = S 9 0 a := by rw [hS.1 9 rfl]
      have hb := lsF_in hW a.toNat (by omega)
      rw [← h3] at hb
      have hv := (hW.fk hk.1 hk.2).2
      have hs := lsF_s (S := S) h0
      rw [← h3] at hs
      refine j_iload_n G dX6_least_6 rfl ?_
      refine j_aload_n G dX6_least_7 rfl ?_
      refine gf_0_1 G dX6_least_8 lf6_18 (by first | assumption | decide) ?_
      refine gf_6_3 G dX6_least_11 lf6_160 (by first | assumption | decide) ?_
      refine j_icmp_ge G 54 dX6_least_14 (by decide) (by omega) (by omega) (fun c14 => ?_) (fun c14 => ?_)
      · exfalso; omega
      · refine j_aload_n G dX6_least_17 rfl ?_
        refine gf_0_1 G dX6_least_18 lf6_18 (by first | assumption | decide) ?_
        refine gf_6_1 G dX6_least_21 lf6_163 (by first | assumption | decide) ?_
        refine j_iload_n G dX6_least_24 rfl ?_
        refine al_9 G dX6_least_25 (by first | assumption | decide) (by omega) (by omega) ?_
        refine j_iload_n G dX6_least_26 rfl ?_
        refine j_icmp_ge G 48 dX6_least_27 (by decide) (by omega) (by omega) (fun c27 => ?_) (fun c27 => ?_)
        · refine j_iinc G dX6_least_48 rfl (by decide) rfl ?_
          refine j_goto G 6 dX6_least_51 (by decide) ?_
          refine ih (a + 1) _ (by omega) (by omega) (by omega) ?_
          rw [hs]
          first
          | (rw [if_neg (fun z => by omega)])
          | (rcases h32 with q | q
             · first
               | (exfalso; omega)
               | (rw [if_pos ⟨by omega, q.2⟩, e9])
             · first
               | (exfalso; omega)
               | (rw [if_neg (fun z => q.2 z.2)]))
        · refine j_aload_n G dX6_least_30 rfl ?_
          refine j_iload_n G dX6_least_31 rfl ?_
          refine j_cVI G cvX6_isSeen ml6_175 (c_X6_isSeen hi hS hW hk) dX6_least_32 ⟨by decide, by decide⟩ ⟨by decide, by decide⟩ rfl rfl (Nat.le_of_ble_eq_true rfl) (by first | assumption | decide) rfl rfl rfl (fun r32 h32 => ?_)
          refine j_if_eq G 48 dX6_least_35 (by decide) (by omega) (fun c35 => ?_) (fun c35 => ?_)
          · refine j_iinc G dX6_least_48 rfl (by decide) rfl ?_
            refine j_goto G 6 dX6_least_51 (by decide) ?_
            refine ih (a + 1) _ (by omega) (by omega) (by omega) ?_
            rw [hs]
            first
            | (rw [if_neg (fun z => by omega)])
            | (rcases h32 with q | q
               · first
                 | (exfalso; omega)
                 | (rw [if_pos ⟨by omega, q.2⟩, e9])
               · first
                 | (exfalso; omega)
                 | (rw [if_neg (fun z => q.2 z.2)]))
          · refine j_aload_n G dX6_least_38 rfl ?_
            refine gf_0_1 G dX6_least_39 lf6_18 (by first | assumption | decide) ?_
            refine gf_6_1 G dX6_least_42 lf6_163 (by first | assumption | decide) ?_
            refine j_iload_n G dX6_least_45 rfl ?_
            refine al_9 G dX6_least_46 (by first | assumption | decide) (by omega) (by omega) ?_
            refine j_istore_n G dX6_least_47 (by decide) rfl ?_
            refine j_iinc G dX6_least_48 rfl (by decide) rfl ?_
            refine j_goto G 6 dX6_least_51 (by decide) ?_
            refine ih (a + 1) _ (by omega) (by omega) (by omega) ?_
            rw [hs]
            first
            | (rw [if_neg (fun z => by omega)])
            | (rcases h32 with q | q
               · first
                 | (exfalso; omega)
                 | (rw [if_pos ⟨by omega, q.2⟩, e9])
               · first
                 | (exfalso; omega)
                 | (rw [if_neg (fun z => q.2 z.2)]))
  refine j_sipush G dX6_least_0 (by decide +kernel) ?_
  refine j_istore_n G dX6_least_3 (by decide) rfl ?_
  refine j_iconst G dX6_least_4 ?_
  refine j_istore_n G dX6_least_5 (by decide) rfl ?_
  exact loop _ 0 10001 (by omega) (by omega) rfl rfl
set_option maxRecDepth 100000 in
set_option maxHeartbeats 8000000 in
theorem c_X6_greatest {l : Launch} {D : va_G} {cys : Nat → ClassId} {ad : Nat → Int → Nat} {L : List Nat} {g : Nat → va_E} {X : Int64} {Z : ZT} (hi : injA ad) {S : ZT} (hS : SP S Z) (hW : WF S) : CM l D cys ad yX6_greatest cX6_greatest 3 (some .int) 3 67 0 0 [.ref (ad 0 0)] L g X Z (PI L g X Z (fun r => r = GREAT S)) := by
  refine cm_start hi (by decide +kernel) (Nat.le_of_ble_eq_true rfl) ?_
  intro p_ e_ s_ m_ args_ below_ meth_ c_ A_ Q_ hQ G hr hin
  have hf := hW.f
  have e63 : Z 6 0 3 = S 6 0 3 := by rw [hS.1 6 rfl]
  have loop : ∀ (n : Nat) (a b : Int), 0 ≤ a → a ≤ S 6 0 3 → (S 6 0 3 - a).toNat = n → b = gsF S a.toNat → JJ p_ l e_ { frames := 3, cells := 0, slots := 0, locals := 67 } s_ m_ args_ below_ meth_ c_ D cys ad A_ Q_ 3 0 0 L g X Z 6 [(0, .ref (ad 0 0)), (1, .int (iI b)), (2, .int (iI a))] [] := by
    intro n
    induction n with
    | zero =>
      intro a b h0 h1 h2 h3
      have ea : a = S 6 0 3 := by omega
      subst ea
      have hb := gsF_in hW (S 6 0 3).toNat (by omega)
      rw [← h3] at hb
      refine j_iload_n G dX6_greatest_6 rfl ?_
      refine j_aload_n G dX6_greatest_7 rfl ?_
      refine gf_0_1 G dX6_greatest_8 lf6_18 (by first | assumption | decide) ?_
      refine gf_6_3 G dX6_greatest_11 lf6_160 (by first | assumption | decide) ?_
      refine j_icmp_ge G 54 dX6_greatest_14 (by decide) (by omega) (by omega) (fun c14 => ?_) (fun c14 => ?_)
      · refine j_iload_n G dX6_greatest_54 rfl ?_
        refine j_sipush G dX6_greatest_55 (by decide +kernel) ?_
        refine j_icmp_ge G 65 dX6_greatest_58 (by decide) (by omega) (by omega) (fun c58 => ?_) (fun c58 => ?_)
        · refine j_iload_n G dX6_greatest_65 rfl ?_
          refine jr_I G hQ hr dX6_greatest_66 (by decide) (by decide) ?_
          unfold GREAT
          rw [← h3]
          split <;> omega
        · refine j_iconst G dX6_greatest_61 ?_
          refine j_goto G 66 dX6_greatest_62 (by decide) ?_
          refine jr_I G hQ hr dX6_greatest_66 (by decide) (by decide) ?_
          unfold GREAT
          rw [← h3]
          split <;> omega
      · exfalso; omega
    | succ n ih =>
      intro a b h0 h1 h2 h3
      have hk : 0 ≤ a ∧ a < S 6 0 3 := by omega
      have e9 : Z 9 0 a = S 9 0 a := by rw [hS.1 9 rfl]
      have hb := gsF_in hW a.toNat (by omega)
      rw [← h3] at hb
      have hv := (hW.fk hk.1 hk.2).2
      have hs := gsF_s (S := S) h0
      rw [← h3] at hs
      refine j_iload_n G dX6_greatest_6 rfl ?_
      refine j_aload_n G dX6_greatest_7 rfl ?_
      refine gf_0_1 G dX6_greatest_8 lf6_18 (by first | assumption | decide) ?_
      refine gf_6_3 G dX6_greatest_11 lf6_160 (by first | assumption | decide) ?_
      refine j_icmp_ge G 54 dX6_greatest_14 (by decide) (by omega) (by omega) (fun c14 => ?_) (fun c14 => ?_)
      · exfalso; omega
      · refine j_aload_n G dX6_greatest_17 rfl ?_
        refine gf_0_1 G dX6_greatest_18 lf6_18 (by first | assumption | decide) ?_
        refine gf_6_1 G dX6_greatest_21 lf6_163 (by first | assumption | decide) ?_
        refine j_iload_n G dX6_greatest_24 rfl ?_
        refine al_9 G dX6_greatest_25 (by first | assumption | decide) (by omega) (by omega) ?_
        refine j_iload_n G dX6_greatest_26 rfl ?_
        refine j_icmp_le G 48 dX6_greatest_27 (by decide) (by omega) (by omega) (fun c27 => ?_) (fun c27 => ?_)
        · refine j_iinc G dX6_greatest_48 rfl (by decide) rfl ?_
          refine j_goto G 6 dX6_greatest_51 (by decide) ?_
          refine ih (a + 1) _ (by omega) (by omega) (by omega) ?_
          rw [hs]
          first
          | (rw [if_neg (fun z => by omega)])
          | (rcases h32 with q | q
             · first
               | (exfalso; omega)
               | (rw [if_pos ⟨by omega, q.2⟩, e9])
             · first
               | (exfalso; omega)
               | (rw [if_neg (fun z => q.2 z.2)]))
        · refine j_aload_n G dX6_greatest_30 rfl ?_
          refine j_iload_n G dX6_greatest_31 rfl ?_
          refine j_cVI G cvX6_isSeen ml6_175 (c_X6_isSeen hi hS hW hk) dX6_greatest_32 ⟨by decide, by decide⟩ ⟨by decide, by decide⟩ rfl rfl (Nat.le_of_ble_eq_true rfl) (by first | assumption | decide) rfl rfl rfl (fun r32 h32 => ?_)
          refine j_if_eq G 48 dX6_greatest_35 (by decide) (by omega) (fun c35 => ?_) (fun c35 => ?_)
          · refine j_iinc G dX6_greatest_48 rfl (by decide) rfl ?_
            refine j_goto G 6 dX6_greatest_51 (by decide) ?_
            refine ih (a + 1) _ (by omega) (by omega) (by omega) ?_
            rw [hs]
            first
            | (rw [if_neg (fun z => by omega)])
            | (rcases h32 with q | q
               · first
                 | (exfalso; omega)
                 | (rw [if_pos ⟨by omega, q.2⟩, e9])
               · first
                 | (exfalso; omega)
                 | (rw [if_neg (fun z => q.2 z.2)]))
          · refine j_aload_n G dX6_greatest_38 rfl ?_
            refine gf_0_1 G dX6_greatest_39 lf6_18 (by first | assumption | decide) ?_
            refine gf_6_1 G dX6_greatest_42 lf6_163 (by first | assumption | decide) ?_
            refine j_iload_n G dX6_greatest_45 rfl ?_
            refine al_9 G dX6_greatest_46 (by first | assumption | decide) (by omega) (by omega) ?_
            refine j_istore_n G dX6_greatest_47 (by decide) rfl ?_
            refine j_iinc G dX6_greatest_48 rfl (by decide) rfl ?_
            refine j_goto G 6 dX6_greatest_51 (by decide) ?_
            refine ih (a + 1) _ (by omega) (by omega) (by omega) ?_
            rw [hs]
            first
            | (rw [if_neg (fun z => by omega)])
            | (rcases h32 with q | q
               · first
                 | (exfalso; omega)
                 | (rw [if_pos ⟨by omega, q.2⟩, e9])
               · first
                 | (exfalso; omega)
                 | (rw [if_neg (fun z => q.2 z.2)]))
  refine j_sipush G dX6_greatest_0 (by decide +kernel) ?_
  refine j_istore_n G dX6_greatest_3 (by decide) rfl ?_
  refine j_iconst G dX6_greatest_4 ?_
  refine j_istore_n G dX6_greatest_5 (by decide) rfl ?_
  exact loop _ 0 (-10001) (by omega) (by omega) rfl rfl
set_option maxRecDepth 100000 in
set_option maxHeartbeats 8000000 in
theorem c_X6_cellCount {l : Launch} {D : va_G} {cys : Nat → ClassId} {ad : Nat → Int → Nat} {L : List Nat} {g : Nat → va_E} {X : Int64} {Z : ZT} (hi : injA ad) {S : ZT} (hS : SP S Z) (hW : WF S) : CM l D cys ad yX6_cellCount cX6_cellCount 1 (some .int) 4 93 0 0 [.ref (ad 0 0)] L g X Z (PIZ L g X Z (fun r Z' => r = CELLS S (S 0 0 6) ∧ SP S Z')) := by
  refine cm_start hi (by decide +kernel) (Nat.le_of_ble_eq_true rfl) ?_
  intro p_ e_ s_ m_ args_ below_ meth_ c_ A_ Q_ hQ G hr hin
  have e06 : Z 0 0 6 = S 0 0 6 := by rw [hS.1 0 rfl]
  have hl := hW.lv
  have hq : 0 ≤ S 0 0 6 ∧ S 0 0 6 < 256 := ⟨hl.1, hl.2.1⟩
  refine j_aload_n G dX6_cellCount_0 rfl ?_
  refine j_aload_n G dX6_cellCount_1 rfl ?_
  refine gf_0_6 G dX6_cellCount_2 lf6_249 (by first | assumption | decide) ?_
  rw [e06]
  refine j_cVIZ G cvX6_cellsOf ml6_258 (c_X6_cellsOf hi (by first | assumption | omega | decide) (by first | assumption | omega | decide) (by first | assumption | omega | decide)) dX6_cellCount_5 ⟨by decide, by decide⟩ ⟨by decide, by decide⟩ rfl rfl (Nat.le_of_ble_eq_true rfl) (by first | assumption | decide) rfl rfl rfl (fun r5 Z5 h5 => ?_)
  refine jr_IZ G hQ hr dX6_cellCount_8 (by decide) (by decide) ?_
  exact h5
set_option maxRecDepth 100000 in
set_option maxHeartbeats 8000000 in
theorem c_X6_cost {l : Launch} {D : va_G} {cys : Nat → ClassId} {ad : Nat → Int → Nat} {L : List Nat} {g : Nat → va_E} {X : Int64} {Z : ZT} (hi : injA ad) {S : ZT} (hS : SP S Z) (hW : WF S) : CM l D cys ad yX6_cost cX6_cost 1 (some .int) 3 68 0 0 [.ref (ad 0 0)] L g X Z (PI L g X Z (fun r => r = COST S (S 0 0 6))) := by
  refine cm_start hi (by decide +kernel) (Nat.le_of_ble_eq_true rfl) ?_
  intro p_ e_ s_ m_ args_ below_ meth_ c_ A_ Q_ hQ G hr hin
  have e06 : Z 0 0 6 = S 0 0 6 := by rw [hS.1 0 rfl]
  have hl := hW.lv
  have hq : 0 ≤ S 0 0 6 ∧ S 0 0 6 < 256 := ⟨hl.1, hl.2.1⟩
  refine j_aload_n G dX6_cost_0 rfl ?_
  refine j_aload_n G dX6_cost_1 rfl ?_
  refine gf_0_6 G dX6_cost_2 lf6_249 (by first | assumption | decide) ?_
  rw [e06]
  refine j_cVI G cvX6_costOf ml6_280 (c_X6_costOf hi (by first | assumption | omega | decide) (by first | assumption | omega | decide) (by first | assumption | omega | decide)) dX6_cost_5 ⟨by decide, by decide⟩ ⟨by decide, by decide⟩ rfl rfl (Nat.le_of_ble_eq_true rfl) (by first | assumption | decide) rfl rfl rfl (fun r5 h5 => ?_)
  refine jr_I G hQ hr dX6_cost_8 (by decide) (by decide) ?_
  exact h5
set_option maxRecDepth 100000 in
set_option maxHeartbeats 8000000 in
theorem c_X6_answeredBy {l : Launch} {D : va_G} {cys : Nat → ClassId} {ad : Nat → Int → Nat} {L : List Nat} {g : Nat → va_E} {X : Int64} {Z : ZT} (hi : injA ad) {S : ZT} (hS : SP S Z) (hW : WF S) : CM l D cys ad yX6_answeredBy cX6_answeredBy 1 (some .int) 2 46 0 0 [.ref (ad 0 0)] L g X Z (PI L g X Z (fun r => r = VFOR S (S 0 0 6))) := by
  refine cm_start hi (by decide +kernel) (Nat.le_of_ble_eq_true rfl) ?_
  intro p_ e_ s_ m_ args_ below_ meth_ c_ A_ Q_ hQ G hr hin
  have e06 : Z 0 0 6 = S 0 0 6 := by rw [hS.1 0 rfl]
  have hl := hW.lv
  have hq : 0 ≤ S 0 0 6 ∧ S 0 0 6 < 256 := ⟨hl.1, hl.2.1⟩
  refine j_aload_n G dX6_answeredBy_0 rfl ?_
  refine j_aload_n G dX6_answeredBy_1 rfl ?_
  refine gf_0_6 G dX6_answeredBy_2 lf6_249 (by first | assumption | decide) ?_
  rw [e06]
  refine j_cVI G cvX6_viewFor ml6_283 (c_X6_viewFor hi (by first | assumption | omega | decide) (by first | assumption | omega | decide) (by first | assumption | omega | decide)) dX6_answeredBy_5 ⟨by decide, by decide⟩ ⟨by decide, by decide⟩ rfl rfl (Nat.le_of_ble_eq_true rfl) (by first | assumption | decide) rfl rfl rfl (fun r5 h5 => ?_)
  refine jr_I G hQ hr dX6_answeredBy_8 (by decide) (by decide) ?_
  exact h5
set_option maxRecDepth 100000 in
set_option maxHeartbeats 8000000 in
theorem c_X6_gain {l : Launch} {D : va_G} {cys : Nat → ClassId} {ad : Nat → Int → Nat} {L : List Nat} {g : Nat → va_E} {X : Int64} {Z : ZT} (hi : injA ad) {S : ZT} (hS : SP S Z) (hW : WF S) : CM l D cys ad yX6_gain cX6_gain 1 (some .int) 5 117 0 0 [.ref (ad 0 0)] L g X Z (PIZ L g X Z (fun r Z' => r = GAIN S (S 0 0 6) ∧ SP S Z')) := by
  refine cm_start hi (by decide +kernel) (Nat.le_of_ble_eq_true rfl) ?_
  intro p_ e_ s_ m_ args_ below_ meth_ c_ A_ Q_ hQ G hr hin
  have e06 : Z 0 0 6 = S 0 0 6 := by rw [hS.1 0 rfl]
  have hl := hW.lv
  have hq : 0 ≤ S 0 0 6 ∧ S 0 0 6 < 256 := ⟨hl.1, hl.2.1⟩
  refine j_aload_n G dX6_gain_0 rfl ?_
  refine j_aload_n G dX6_gain_1 rfl ?_
  refine gf_0_6 G dX6_gain_2 lf6_249 (by first | assumption | decide) ?_
  rw [e06]
  refine j_cVIZ G cvX6_gainOf ml6_286 (c_X6_gainOf hi (by first | assumption | omega | decide) (by first | assumption | omega | decide) (by first | assumption | omega | decide)) dX6_gain_5 ⟨by decide, by decide⟩ ⟨by decide, by decide⟩ rfl rfl (Nat.le_of_ble_eq_true rfl) (by first | assumption | decide) rfl rfl rfl (fun r5 Z5 h5 => ?_)
  refine jr_IZ G hQ hr dX6_gain_8 (by decide) (by decide) ?_
  exact h5
set_option maxRecDepth 100000 in
set_option maxHeartbeats 8000000 in
theorem c_X6_advise {l : Launch} {D : va_G} {cys : Nat → ClassId} {ad : Nat → Int → Nat} {L : List Nat} {g : Nat → va_E} {X : Int64} {Z : ZT} (hi : injA ad) {S : ZT} (hS : SP S Z) (hW : WF S) : CM l D cys ad yX6_advise cX6_advise 5 (some .int) 5 117 0 0 [.ref (ad 0 0)] L g X Z (PIZ L g X Z (fun r Z' => r = (adF S 256).1 ∧ SP (zS S 0 0 6 (adF S 256).2) Z')) := by
  refine cm_start hi (by decide +kernel) (Nat.le_of_ble_eq_true rfl) ?_
  intro p_ e_ s_ m_ args_ below_ meth_ c_ A_ Q_ hQ G hr hin
  have loop : ∀ (n : Nat) (a b c : Int) (Y : ZT), 0 ≤ a → a ≤ 256 → (256 - a).toNat = n → SP S Y → (b, c) = adF S a.toNat → JJ p_ l e_ { frames := 5, cells := 0, slots := 0, locals := 117 } s_ m_ args_ below_ meth_ c_ D cys ad A_ Q_ 5 0 0 L g X Y 6 [(0, .ref (ad 0 0)), (1, .int (iI b)), (2, .int (iI c)), (3, .int (iI a))] [] := by
    intro n
    induction n with
    | zero =>
      intro a b c Y h0 h1 h2 h3 h4
      have ea : a = 256 := by omega
      subst ea
      refine j_iload_n G dX6_advise_6 rfl ?_
      refine j_sipush G dX6_advise_7 (by decide +kernel) ?_
      refine j_icmp_ge G 49 dX6_advise_10 (by decide) (by omega) (by omega) (fun c10 => ?_) (fun c10 => ?_)
      · refine j_aload_n G dX6_advise_49 rfl ?_
        refine j_iload_n G dX6_advise_50 rfl ?_
        refine pf_0_6 G dX6_advise_51 lf6_249 (by first | assumption | decide) ?_
        refine j_iload_n G dX6_advise_54 rfl ?_
        refine jr_IZ G hQ hr dX6_advise_55 (by decide) (by decide) ?_
        try simp (config := { decide := true }) only [zS_k, zS_s, zS_j, ne_eq]
        have h4 : (b, c) = adF S 256 := h4
        rw [← h4]
        refine ⟨rfl, fun k hk => ?_, fun i => ?_⟩
        · by_cases e : k = 0
          · subst e
            funext i j
            by_cases e2 : i = 0
            · subst e2
              rw [zS_v, zS_v, h3.1 0 rfl]
            · rw [zS_o (by omega), zS_o (by omega), h3.1 0 rfl]
          · rw [zS_k e, zS_k e]; exact h3.1 k hk
        · rw [zS_k (by decide), zS_k (by decide)]; exact h3.2 i
      · exfalso; omega
    | succ n ih =>
      intro a b c Y h0 h1 h2 h3 h4
      have hin := adF_in hW a.toNat (by omega)
      rw [← h4] at hin
      have ha : 0 ≤ a ∧ a < 256 := by omega
      have hg := GAIN_in hW (L := a) (by omega)
      have hs := adF_s (S := S) h0
      rw [← h4] at hs
      have hin1 := hin.1
      have hin2 := hin.2.1
      have hh1 : 0 ≤ a + 1 := by omega
      have hh2 : a + 1 ≤ 256 := by omega
      have hh3 : (256 - (a + 1)).toNat = n := by omega
      refine j_iload_n G dX6_advise_6 rfl ?_
      refine j_sipush G dX6_advise_7 (by decide +kernel) ?_
      refine j_icmp_ge G 49 dX6_advise_10 (by decide) (by omega) (by omega) (fun c10 => ?_) (fun c10 => ?_)
      · exfalso; omega
      · refine j_aload_n G dX6_advise_13 rfl ?_
        refine j_iload_n G dX6_advise_14 rfl ?_
        refine j_cVI G cvX6_areLevels ml6_289 (c_X6_areLevels hi h3 hW ha) dX6_advise_15 ⟨by decide, by decide⟩ ⟨by decide, by decide⟩ rfl rfl (Nat.le_of_ble_eq_true rfl) (by first | assumption | decide) rfl rfl rfl (fun r15 h15 => ?_)
        have h15' : (r15 = 1 ∨ r15 = 0) ∧ (r15 = 1 → LOK S a) ∧ (r15 = 0 → ¬ LOK S a) := by
          rcases h15 with q | q
          · exact ⟨Or.inl q.1, fun _ => q.2, fun z => by omega⟩
          · exact ⟨Or.inr q.1, fun z => by omega, fun _ => q.2⟩
        clear h15
        refine j_if_eq G 29 dX6_advise_18 (by decide) (by omega) (fun c18 => ?_) (fun c18 => ?_)
        · refine j_iconst G dX6_advise_29 ?_
          refine j_istore G dX6_advise_30 (by decide) rfl ?_
          refine j_iload G dX6_advise_32 rfl ?_
          refine j_iload_n G dX6_advise_34 rfl ?_
          refine j_icmp_le G 43 dX6_advise_35 (by decide) (by omega) (by omega) (fun c35 => ?_) (fun c35 => ?_)
          · refine j_iinc G dX6_advise_43 rfl (by decide) rfl ?_
            refine j_goto G 6 dX6_advise_46 (by decide) ?_
            refine j_keep [0, 1, 2, 3] ?_
            first
            | (refine ih (a + 1) b c _ hh1 hh2 hh3 (by assumption) ?_
               rw [hs, if_neg]
               first
               | (rintro ⟨z1, z2⟩
                  have z2 : b < GAIN S a := z2
                  omega)
               | (rintro ⟨z1, z2⟩
                  exact h15'.2.2 (by omega) z1))
            | (refine ih (a + 1) _ a _ hh1 hh2 hh3 (by assumption) ?_
               rw [hs, if_pos ⟨h15'.2.1 (by omega), by show b < GAIN S a; omega⟩, h23a])
            | (exfalso; omega)
          · refine j_iload G dX6_advise_38 rfl ?_
            refine j_istore_n G dX6_advise_40 (by decide) rfl ?_
            refine j_iload_n G dX6_advise_41 rfl ?_
            refine j_istore_n G dX6_advise_42 (by decide) rfl ?_
            refine j_iinc G dX6_advise_43 rfl (by decide) rfl ?_
            refine j_goto G 6 dX6_advise_46 (by decide) ?_
            refine j_keep [0, 1, 2, 3] ?_
            first
            | (refine ih (a + 1) b c _ hh1 hh2 hh3 (by assumption) ?_
               rw [hs, if_neg]
               first
               | (rintro ⟨z1, z2⟩
                  have z2 : b < GAIN S a := z2
                  omega)
               | (rintro ⟨z1, z2⟩
                  exact h15'.2.2 (by omega) z1))
            | (refine ih (a + 1) _ a _ hh1 hh2 hh3 (by assumption) ?_
               rw [hs, if_pos ⟨h15'.2.1 (by omega), by show b < GAIN S a; omega⟩, h23a])
            | (exfalso; omega)
        · refine j_aload_n G dX6_advise_21 rfl ?_
          refine j_iload_n G dX6_advise_22 rfl ?_
          refine j_cVIZ G cvX6_gainOf ml6_286 (c_X6_gainOf hi h3 hW ha) dX6_advise_23 ⟨by decide, by decide⟩ ⟨by decide, by decide⟩ rfl rfl (Nat.le_of_ble_eq_true rfl) (by first | assumption | decide) rfl rfl rfl (fun r23 Z23 h23 => ?_)
          obtain ⟨h23a, h23b⟩ := h23
          refine j_goto G 30 dX6_advise_26 (by decide) ?_
          refine j_istore G dX6_advise_30 (by decide) rfl ?_
          refine j_iload G dX6_advise_32 rfl ?_
          refine j_iload_n G dX6_advise_34 rfl ?_
          refine j_icmp_le G 43 dX6_advise_35 (by decide) (by omega) (by omega) (fun c35 => ?_) (fun c35 => ?_)
          · refine j_iinc G dX6_advise_43 rfl (by decide) rfl ?_
            refine j_goto G 6 dX6_advise_46 (by decide) ?_
            refine j_keep [0, 1, 2, 3] ?_
            first
            | (refine ih (a + 1) b c _ hh1 hh2 hh3 (by assumption) ?_
               rw [hs, if_neg]
               first
               | (rintro ⟨z1, z2⟩
                  have z2 : b < GAIN S a := z2
                  omega)
               | (rintro ⟨z1, z2⟩
                  exact h15'.2.2 (by omega) z1))
            | (refine ih (a + 1) _ a _ hh1 hh2 hh3 (by assumption) ?_
               rw [hs, if_pos ⟨h15'.2.1 (by omega), by show b < GAIN S a; omega⟩, h23a])
            | (exfalso; omega)
          · refine j_iload G dX6_advise_38 rfl ?_
            refine j_istore_n G dX6_advise_40 (by decide) rfl ?_
            refine j_iload_n G dX6_advise_41 rfl ?_
            refine j_istore_n G dX6_advise_42 (by decide) rfl ?_
            refine j_iinc G dX6_advise_43 rfl (by decide) rfl ?_
            refine j_goto G 6 dX6_advise_46 (by decide) ?_
            refine j_keep [0, 1, 2, 3] ?_
            first
            | (refine ih (a + 1) b c _ hh1 hh2 hh3 (by assumption) ?_
               rw [hs, if_neg]
               first
               | (rintro ⟨z1, z2⟩
                  have z2 : b < GAIN S a := z2
                  omega)
               | (rintro ⟨z1, z2⟩
                  exact h15'.2.2 (by omega) z1))
            | (refine ih (a + 1) _ a _ hh1 hh2 hh3 (by assumption) ?_
               rw [hs, if_pos ⟨h15'.2.1 (by omega), by show b < GAIN S a; omega⟩, h23a])
            | (exfalso; omega)
  refine j_iconst G dX6_advise_0 ?_
  refine j_istore_n G dX6_advise_1 (by decide) rfl ?_
  refine j_iconst G dX6_advise_2 ?_
  refine j_istore_n G dX6_advise_3 (by decide) rfl ?_
  refine j_iconst G dX6_advise_4 ?_
  refine j_istore_n G dX6_advise_5 (by decide) rfl ?_
  exact loop _ 0 (-1) 0 Z (by omega) (by omega) rfl hS rfl
set_option maxRecDepth 100000 in
set_option maxHeartbeats 8000000 in
theorem c_X6_mix {l : Launch} {D : va_G} {cys : Nat → ClassId} {ad : Nat → Int → Nat} {L : List Nat} {g : Nat → va_E} {X : Int64} {Z : ZT} (hi : injA ad) {x y : Int64}  : CM l D cys ad yX6_mix cX6_mix 4 (some .long) 0 0 0 0 [.long x, .long y] L g X Z (PJ L g X Z (fun r => r = x * 31 + y)) := by
  refine cm_start hi (by decide +kernel) (Nat.le_of_ble_eq_true rfl) ?_
  intro p_ e_ s_ m_ args_ below_ meth_ c_ A_ Q_ hQ G hr hin
  refine j_lload_n G dX6_mix_0 rfl ?_
  refine j_ldc2 G dX6_mix_1 (v := (31 : Int64)) (TW_of 414 (by decide +kernel) (by decide +kernel)) ?_
  refine j_lmul G dX6_mix_4 ?_
  refine j_lload_n G dX6_mix_5 rfl ?_
  refine j_ladd G dX6_mix_6 ?_
  refine jr_J G hQ hr dX6_mix_7 (by decide) (by decide) ?_
  rfl
set_option maxRecDepth 100000 in
set_option maxHeartbeats 8000000 in
theorem c_X6_mixTree {l : Launch} {D : va_G} {cys : Nat → ClassId} {ad : Nat → Int → Nat} {L : List Nat} {g : Nat → va_E} {X : Int64} {Z : ZT} (hi : injA ad) {S : ZT} {d : Int} {x : Int64} (hS : SP S Z) (hW : WF S) (hd : 0 ≤ d ∧ d < S 0 0 5) : CM l D cys ad yX6_mixTree cX6_mixTree 8 (some .long) 2 41 0 0 [.ref (ad 0 0), .long x, .int (iI d)] L g X Z (PJ L g X Z (fun r => r = DT S d x)) := by
  refine cm_start hi (by decide +kernel) (Nat.le_of_ble_eq_true rfl) ?_
  intro p_ e_ s_ m_ args_ below_ meth_ c_ A_ Q_ hQ G hr hin
  have hn := hW.n
  have ht := hW.t hd.1 hd.2
  have ht1 := ht.1
  have hv2 : vd 2 d := ⟨hd.1, show d < 4 by omega⟩
  have e2 : Z 2 = S 2 := hS.1 2 rfl
  have e3 : Z 3 = S 3 := hS.1 3 rfl
  have e4 : Z 4 = S 4 := hS.1 4 rfl
  have e06 : Z 0 0 6 = S 0 0 6 := by rw [hS.1 0 rfl]
  have e24 : Z 2 d 4 = S 2 d 4 := by rw [e2]
  have hl := hW.lv
  have hq : 0 ≤ Z 0 0 6 ∧ Z 0 0 6 < 256 := by rw [e06]; exact ⟨hl.1, hl.2.1⟩
  have hd4 : 0 ≤ d ∧ d < 4 := by omega
  have loop : ∀ (n : Nat) (a : Int) (y : Int64), 0 ≤ a → a ≤ S 2 d 4 → (S 2 d 4 - a).toNat = n → y = mtF S d (mI x (S 2 d 4)) a.toNat → JJ p_ l e_ { frames := 2, cells := 0, slots := 0, locals := 41 } s_ m_ args_ below_ meth_ c_ D cys ad A_ Q_ 8 0 0 L g X Z 23 [(0, .ref (ad 0 0)), (1, .long x), (3, .int (iI d)), (4, .ref (ad 2 d)), (5, .long y), (7, .int (iI a))] [] := by
    intro n
    induction n with
    | zero =>
      intro a y h0 h1 h2 h3
      have ea : a = S 2 d 4 := by omega
      subst ea
      refine j_iload G dX6_mixTree_23 rfl ?_
      refine j_aload G dX6_mixTree_25 rfl ?_
      refine gf_2_4 G dX6_mixTree_27 lf6_128 (by first | assumption | decide) ?_
      refine j_icmp_ge G 71 dX6_mixTree_30 (by decide) (by omega) (by omega) (fun c30 => ?_) (fun c30 => ?_)
      · refine j_lload G dX6_mixTree_71 rfl ?_
        refine j_aload G dX6_mixTree_73 rfl ?_
        refine gf_2_5 G dX6_mixTree_75 lf6_150 (by first | assumption | decide) ?_
        refine j_i2l G dX6_mixTree_78 ?_
        refine j_cSJ G csX6_mix ml6_294 rfl (c_X6_mix hi ) dX6_mixTree_79 ⟨by decide, by decide⟩ ⟨by decide, by decide⟩ rfl rfl (Nat.le_of_ble_eq_true rfl) (fun r79 h79 => ?_)
        refine j_lstore G dX6_mixTree_82 (by decide) rfl ?_
        refine j_lload G dX6_mixTree_84 rfl ?_
        refine j_aload_n G dX6_mixTree_86 rfl ?_
        refine gf_0_6 G dX6_mixTree_87 lf6_249 (by first | assumption | decide) ?_
        refine j_iload_n G dX6_mixTree_90 rfl ?_
        refine j_cSI G csX6_levelIn ml6_252 rfl (c_X6_levelIn hi (by first | assumption | omega | decide) (by first | assumption | omega | decide)) dX6_mixTree_91 ⟨by decide, by decide⟩ ⟨by decide, by decide⟩ rfl rfl (Nat.le_of_ble_eq_true rfl) (fun r91 h91 => ?_)
        refine j_i2l G dX6_mixTree_94 ?_
        refine j_cSJ G csX6_mix ml6_294 rfl (c_X6_mix hi ) dX6_mixTree_95 ⟨by decide, by decide⟩ ⟨by decide, by decide⟩ rfl rfl (Nat.le_of_ble_eq_true rfl) (fun r95 h95 => ?_)
        refine jr_J G hQ hr dX6_mixTree_98 (by decide) (by decide) ?_
        rw [h95, h91, h79, h3, e2, e06]
        rfl
      · exfalso; omega
    | succ n ih =>
      intro a y h0 h1 h2 h3
      refine j_iload G dX6_mixTree_23 rfl ?_
      refine j_aload G dX6_mixTree_25 rfl ?_
      refine gf_2_4 G dX6_mixTree_27 lf6_128 (by first | assumption | decide) ?_
      refine j_icmp_ge G 71 dX6_mixTree_30 (by decide) (by omega) (by omega) (fun c30 => ?_) (fun c30 => ?_)
      · exfalso; omega
      · refine j_lload G dX6_mixTree_33 rfl ?_
        refine j_aload G dX6_mixTree_35 rfl ?_
        refine gf_2_0 G dX6_mixTree_37 lf6_118 (by first | assumption | decide) ?_
        refine j_iload G dX6_mixTree_40 rfl ?_
        refine al_3 G dX6_mixTree_42 (by first | assumption | decide) (by omega) (by omega) ?_
        refine j_i2l G dX6_mixTree_43 ?_
        refine j_cSJ G csX6_mix ml6_294 rfl (c_X6_mix hi ) dX6_mixTree_44 ⟨by decide, by decide⟩ ⟨by decide, by decide⟩ rfl rfl (Nat.le_of_ble_eq_true rfl) (fun r44 h44 => ?_)
        refine j_lstore G dX6_mixTree_47 (by decide) rfl ?_
        refine j_lload G dX6_mixTree_49 rfl ?_
        refine j_aload G dX6_mixTree_51 rfl ?_
        refine gf_2_1 G dX6_mixTree_53 lf6_112 (by first | assumption | decide) ?_
        refine j_iload G dX6_mixTree_56 rfl ?_
        refine al_4 G dX6_mixTree_58 (by first | assumption | decide) (by omega) (by omega) ?_
        refine j_i2l G dX6_mixTree_59 ?_
        refine j_cSJ G csX6_mix ml6_294 rfl (c_X6_mix hi ) dX6_mixTree_60 ⟨by decide, by decide⟩ ⟨by decide, by decide⟩ rfl rfl (Nat.le_of_ble_eq_true rfl) (fun r60 h60 => ?_)
        refine j_lstore G dX6_mixTree_63 (by decide) rfl ?_
        refine j_iinc G dX6_mixTree_65 rfl (by decide) rfl ?_
        refine j_goto G 23 dX6_mixTree_68 (by decide) ?_
        refine ih (a + 1) _ (by omega) (by omega) (by omega) ?_
        rw [nat_s (mtF S d (mI x (S 2 d 4))) h0]
        show _ = mI (mI (mtF S d _ a.toNat) (S 3 d (a.toNat : Int))) (S 4 d (a.toNat : Int))
        rw [Int.toNat_of_nonneg h0, ← h3, h60, h44, e3, e4]
        rfl
  refine j_aload_n G dX6_mixTree_0 rfl ?_
  refine gf_0_0 G dX6_mixTree_1 lf6_11 (by first | assumption | decide) ?_
  refine j_iload_n G dX6_mixTree_4 rfl ?_
  refine al_1 G dX6_mixTree_5 (by first | assumption | decide) (by omega) (by omega) ?_
  refine j_astore G dX6_mixTree_6 (by decide) rfl ?_
  refine j_lload_n G dX6_mixTree_8 rfl ?_
  refine j_aload G dX6_mixTree_9 rfl ?_
  refine gf_2_4 G dX6_mixTree_11 lf6_128 (by first | assumption | decide) ?_
  refine j_i2l G dX6_mixTree_14 ?_
  refine j_cSJ G csX6_mix ml6_294 rfl (c_X6_mix hi ) dX6_mixTree_15 ⟨by decide, by decide⟩ ⟨by decide, by decide⟩ rfl rfl (Nat.le_of_ble_eq_true rfl) (fun r15 h15 => ?_)
  refine j_lstore G dX6_mixTree_18 (by decide) rfl ?_
  refine j_iconst G dX6_mixTree_20 ?_
  refine j_istore G dX6_mixTree_21 (by decide) rfl ?_
  refine loop _ 0 _ (by omega) (by omega) rfl ?_
  rw [h15, e2]
  rfl
set_option maxRecDepth 100000 in
set_option maxHeartbeats 8000000 in
theorem c_X6_mixLineup {l : Launch} {D : va_G} {cys : Nat → ClassId} {ad : Nat → Int → Nat} {L : List Nat} {g : Nat → va_E} {X : Int64} {Z : ZT} (hi : injA ad) {S : ZT} {d : Int} {x : Int64} (hS : SP S Z) (hW : WF S) (hd : 0 ≤ d ∧ d < S 0 0 5) : CM l D cys ad yX6_mixLineup cX6_mixLineup 7 (some .long) 4 98 0 0 [.ref (ad 0 0), .long x, .int (iI d)] L g X Z (PJZ L g X Z (fun r Z' => r = DL S d x ∧ SP S Z')) := by
  refine cm_start hi (by decide +kernel) (Nat.le_of_ble_eq_true rfl) ?_
  intro p_ e_ s_ m_ args_ below_ meth_ c_ A_ Q_ hQ G hr hin
  have hn := hW.n
  have ht := hW.t hd.1 hd.2
  have ht1 := ht.1
  have hkl : ((kids S d).length : Int) ≤ 24 := by
    have := wk_len (S 4 d (S 2 d 5) + 1) ht ht1.2.2.2.2.1 ht1.2.2.2.2.2.1
    unfold kids; omega
  refine j_aload_n G dX6_mixLineup_0 rfl ?_
  refine j_iload_n G dX6_mixLineup_1 rfl ?_
  refine j_aload_n G dX6_mixLineup_2 rfl ?_
  refine gf_0_0 G dX6_mixLineup_3 lf6_11 (by first | assumption | decide) ?_
  refine j_iload_n G dX6_mixLineup_6 rfl ?_
  refine al_1 G dX6_mixLineup_7 (by first | assumption | decide) (by omega) (by omega) ?_
  refine j_cVVZ G cvX6_lineUp ml6_204 (c_X6_lineUp hi hS hW hd) dX6_mixLineup_8 ⟨by decide, by decide⟩ ⟨by decide, by decide⟩ rfl rfl (Nat.le_of_ble_eq_true rfl) (by first | assumption | decide) rfl rfl rfl (fun Z8 h8 => ?_)
  obtain ⟨hS8, hL8, hB8⟩ := h8
  have hl8 := hL8.1
  have hv21 : ∀ j, 0 ≤ j → j < 24 → inR (Z8 21 0 j) := fun j j0 j1 => by
    rw [hB8 j j0 j1]
    have := lsum_bd hW d j
    omega
  have hn16 : 0 ≤ Z8 16 3 1 ∧ Z8 16 3 1 ≤ 24 := by omega
  have hnn : (Z8 16 3 1).toNat = (kids S d).length := by omega
  have hah : ∀ c : Int, 0 ≤ c → c < (kids S d).length → ahd (Z8 21 0) c (kids S d).length = ahd (lsum S d) c (kids S d).length := fun c c0 c1 => ahd_congr (fun j j0 j1 => hB8 j j0 (by omega)) c0 c1
  refine j_lload_n G dX6_mixLineup_11 rfl ?_
  refine j_aload_n G dX6_mixLineup_12 rfl ?_
  refine gf_0_10 G dX6_mixLineup_13 lf6_49 (by first | assumption | decide) ?_
  refine gf_20_0 G dX6_mixLineup_16 lf6_188 (by first | assumption | decide) ?_
  refine gf_16_1 G dX6_mixLineup_19 lf6_191 (by first | assumption | decide) ?_
  refine j_i2l G dX6_mixLineup_22 ?_
  refine j_cSJ G csX6_mix ml6_294 rfl (c_X6_mix hi ) dX6_mixLineup_23 ⟨by decide, by decide⟩ ⟨by decide, by decide⟩ rfl rfl (Nat.le_of_ble_eq_true rfl) (fun r23 h23 => ?_)
  refine j_lstore G dX6_mixLineup_26 (by decide) rfl ?_
  refine j_iconst G dX6_mixLineup_28 ?_
  refine j_istore G dX6_mixLineup_29 (by decide) rfl ?_
  have loop : ∀ (n : Nat) (a : Int) (y : Int64), 0 ≤ a → a ≤ (kids S d).length → ((kids S d).length - a).toNat = n → y = dlF S d (mI x (kids S d).length) a.toNat → JJ p_ l e_ { frames := 4, cells := 0, slots := 0, locals := 98 } s_ m_ args_ below_ meth_ c_ D cys ad A_ Q_ 7 0 0 L g X Z8 31 [(0, .ref (ad 0 0)), (1, .long x), (3, .int (iI d)), (4, .long y), (6, .int (iI a))] [] := by
    intro n
    induction n with
    | zero =>
      intro a y h0 h1 h2 h3
      have ea : a = (kids S d).length := by omega
      subst ea
      refine j_iload G dX6_mixLineup_31 rfl ?_
      refine j_aload_n G dX6_mixLineup_33 rfl ?_
      refine gf_0_10 G dX6_mixLineup_34 lf6_49 (by first | assumption | decide) ?_
      refine gf_20_0 G dX6_mixLineup_37 lf6_188 (by first | assumption | decide) ?_
      refine gf_16_1 G dX6_mixLineup_40 lf6_191 (by first | assumption | decide) ?_
      refine j_icmp_ge G 69 dX6_mixLineup_43 (by decide) (by omega) (by omega) (fun c43 => ?_) (fun c43 => ?_)
      · refine j_lload G dX6_mixLineup_69 rfl ?_
        refine jr_JZ G hQ hr dX6_mixLineup_71 (by decide) (by decide) ?_
        exact ⟨h3, hS8⟩
      · exfalso; omega
    | succ n ih =>
      intro a y h0 h1 h2 h3
      have hia : inR a := by omega
      refine j_iload G dX6_mixLineup_31 rfl ?_
      refine j_aload_n G dX6_mixLineup_33 rfl ?_
      refine gf_0_10 G dX6_mixLineup_34 lf6_49 (by first | assumption | decide) ?_
      refine gf_20_0 G dX6_mixLineup_37 lf6_188 (by first | assumption | decide) ?_
      refine gf_16_1 G dX6_mixLineup_40 lf6_191 (by first | assumption | decide) ?_
      refine j_icmp_ge G 69 dX6_mixLineup_43 (by decide) (by omega) (by omega) (fun c43 => ?_) (fun c43 => ?_)
      · exfalso; omega
      · refine j_lload G dX6_mixLineup_46 rfl ?_
        refine j_aload_n G dX6_mixLineup_48 rfl ?_
        refine gf_0_10 G dX6_mixLineup_49 lf6_49 (by first | assumption | decide) ?_
        refine j_iload G dX6_mixLineup_52 rfl ?_
        refine j_cVI G cvX2_childOfRank ml6_199 (c_X2_childOfRank hi hn16 hia hv21) dX6_mixLineup_54 ⟨by decide, by decide⟩ ⟨by decide, by decide⟩ rfl rfl (Nat.le_of_ble_eq_true rfl) (by first | assumption | decide) rfl rfl rfl (fun r54 h54 => ?_)
        have hcr : r54 = CR S d a := by
          unfold CR
          refine fstR_is _ _ ?_
          rw [hnn] at h54
          rcases h54 with q | q
          · refine Or.inl ⟨q.1, by omega, ?_, fun i i0 i1 => ?_⟩
            · rw [← hah r54 q.1 (by omega)]; exact q.2.2.1
            · rw [← hah i i0 (by omega)]; exact q.2.2.2 i i0 i1
          · refine Or.inr ⟨q.1, fun i i0 i1 => ?_⟩
            rw [← hah i i0 (by omega)]; exact q.2 i i0 (by omega)
        refine j_i2l G dX6_mixLineup_57 ?_
        refine j_cSJ G csX6_mix ml6_294 rfl (c_X6_mix hi ) dX6_mixLineup_58 ⟨by decide, by decide⟩ ⟨by decide, by decide⟩ rfl rfl (Nat.le_of_ble_eq_true rfl) (fun r58 h58 => ?_)
        refine j_lstore G dX6_mixLineup_61 (by decide) rfl ?_
        refine j_iinc G dX6_mixLineup_63 rfl (by decide) rfl ?_
        refine j_goto G 31 dX6_mixLineup_66 (by decide) ?_
        refine ih (a + 1) _ (by omega) (by omega) (by omega) ?_
        rw [nat_s (dlF S d (mI x (kids S d).length)) h0]
        show _ = mI (dlF S d _ a.toNat) (CR S d (a.toNat : Int))
        rw [Int.toNat_of_nonneg h0, ← h3, h58, hcr]
        rfl
  refine loop _ 0 _ (by omega) (by omega) rfl ?_
  rw [h23, hl8]
  rfl

