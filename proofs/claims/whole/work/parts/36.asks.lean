theorem dX7_dimensions_0 : decode cX7_dimensions 0 = .ok (.aload_n 0, 1) := by decide +kernel
theorem dX7_dimensions_1 : decode cX7_dimensions 1 = .ok (.iconst 0, 1) := by decide +kernel
theorem dX7_dimensions_2 : decode cX7_dimensions 2 = .ok (.putfield 52, 3) := by decide +kernel
theorem dX7_dimensions_5 : decode cX7_dimensions 5 = .ok (.aload_n 0, 1) := by decide +kernel
theorem dX7_dimensions_6 : decode cX7_dimensions 6 = .ok (.getfield 56, 3) := by decide +kernel
theorem dX7_dimensions_9 : decode cX7_dimensions 9 = .ok (.ireturn, 1) := by decide +kernel
theorem dX7_facts_0 : decode cX7_facts 0 = .ok (.aload_n 0, 1) := by decide +kernel
theorem dX7_facts_1 : decode cX7_facts 1 = .ok (.iconst 0, 1) := by decide +kernel
theorem dX7_facts_2 : decode cX7_facts 2 = .ok (.putfield 52, 3) := by decide +kernel
theorem dX7_facts_5 : decode cX7_facts 5 = .ok (.aload_n 0, 1) := by decide +kernel
theorem dX7_facts_6 : decode cX7_facts 6 = .ok (.getfield 89, 3) := by decide +kernel
theorem dX7_facts_9 : decode cX7_facts 9 = .ok (.ireturn, 1) := by decide +kernel
theorem dX7_views_0 : decode cX7_views 0 = .ok (.aload_n 0, 1) := by decide +kernel
theorem dX7_views_1 : decode cX7_views 1 = .ok (.iconst 0, 1) := by decide +kernel
theorem dX7_views_2 : decode cX7_views 2 = .ok (.putfield 52, 3) := by decide +kernel
theorem dX7_views_5 : decode cX7_views 5 = .ok (.aload_n 0, 1) := by decide +kernel
theorem dX7_views_6 : decode cX7_views 6 = .ok (.getfield 92, 3) := by decide +kernel
theorem dX7_views_9 : decode cX7_views 9 = .ok (.ireturn, 1) := by decide +kernel
theorem dX7_count_0 : decode cX7_count 0 = .ok (.aload_n 0, 1) := by decide +kernel
theorem dX7_count_1 : decode cX7_count 1 = .ok (.iconst 0, 1) := by decide +kernel
theorem dX7_count_2 : decode cX7_count 2 = .ok (.putfield 52, 3) := by decide +kernel
theorem dX7_count_5 : decode cX7_count 5 = .ok (.aload_n 0, 1) := by decide +kernel
theorem dX7_count_6 : decode cX7_count 6 = .ok (.invokevirtual 129, 3) := by decide +kernel
theorem dX7_count_9 : decode cX7_count 9 = .ok (.ireturn, 1) := by decide +kernel
theorem dX7_sum_0 : decode cX7_sum 0 = .ok (.aload_n 0, 1) := by decide +kernel
theorem dX7_sum_1 : decode cX7_sum 1 = .ok (.iconst 0, 1) := by decide +kernel
theorem dX7_sum_2 : decode cX7_sum 2 = .ok (.putfield 52, 3) := by decide +kernel
theorem dX7_sum_5 : decode cX7_sum 5 = .ok (.aload_n 0, 1) := by decide +kernel
theorem dX7_sum_6 : decode cX7_sum 6 = .ok (.invokevirtual 133, 3) := by decide +kernel
theorem dX7_sum_9 : decode cX7_sum 9 = .ok (.ireturn, 1) := by decide +kernel
theorem dX7_least_0 : decode cX7_least 0 = .ok (.aload_n 0, 1) := by decide +kernel
theorem dX7_least_1 : decode cX7_least 1 = .ok (.iconst 0, 1) := by decide +kernel
theorem dX7_least_2 : decode cX7_least 2 = .ok (.putfield 52, 3) := by decide +kernel
theorem dX7_least_5 : decode cX7_least 5 = .ok (.aload_n 0, 1) := by decide +kernel
theorem dX7_least_6 : decode cX7_least 6 = .ok (.iconst 1, 1) := by decide +kernel
theorem dX7_least_7 : decode cX7_least 7 = .ok (.invokevirtual 136, 3) := by decide +kernel
theorem dX7_least_10 : decode cX7_least 10 = .ok (.ireturn, 1) := by decide +kernel
theorem dX7_greatest_0 : decode cX7_greatest 0 = .ok (.aload_n 0, 1) := by decide +kernel
theorem dX7_greatest_1 : decode cX7_greatest 1 = .ok (.iconst 0, 1) := by decide +kernel
theorem dX7_greatest_2 : decode cX7_greatest 2 = .ok (.putfield 52, 3) := by decide +kernel
theorem dX7_greatest_5 : decode cX7_greatest 5 = .ok (.aload_n 0, 1) := by decide +kernel
theorem dX7_greatest_6 : decode cX7_greatest 6 = .ok (.iconst (-1), 1) := by decide +kernel
theorem dX7_greatest_7 : decode cX7_greatest 7 = .ok (.invokevirtual 136, 3) := by decide +kernel
theorem dX7_greatest_10 : decode cX7_greatest 10 = .ok (.ireturn, 1) := by decide +kernel
theorem dX7_cellCount_0 : decode cX7_cellCount 0 = .ok (.aload_n 0, 1) := by decide +kernel
theorem dX7_cellCount_1 : decode cX7_cellCount 1 = .ok (.iconst 0, 1) := by decide +kernel
theorem dX7_cellCount_2 : decode cX7_cellCount 2 = .ok (.putfield 52, 3) := by decide +kernel
theorem dX7_cellCount_5 : decode cX7_cellCount 5 = .ok (.aload_n 0, 1) := by decide +kernel
theorem dX7_cellCount_6 : decode cX7_cellCount 6 = .ok (.aload_n 0, 1) := by decide +kernel
theorem dX7_cellCount_7 : decode cX7_cellCount 7 = .ok (.invokevirtual 220, 3) := by decide +kernel
theorem dX7_cellCount_10 : decode cX7_cellCount 10 = .ok (.invokevirtual 206, 3) := by decide +kernel
theorem dX7_cellCount_13 : decode cX7_cellCount 13 = .ok (.ireturn, 1) := by decide +kernel
theorem dX7_cost_0 : decode cX7_cost 0 = .ok (.aload_n 0, 1) := by decide +kernel
theorem dX7_cost_1 : decode cX7_cost 1 = .ok (.iconst 0, 1) := by decide +kernel
theorem dX7_cost_2 : decode cX7_cost 2 = .ok (.putfield 52, 3) := by decide +kernel
theorem dX7_cost_5 : decode cX7_cost 5 = .ok (.aload_n 0, 1) := by decide +kernel
theorem dX7_cost_6 : decode cX7_cost 6 = .ok (.aload_n 0, 1) := by decide +kernel
theorem dX7_cost_7 : decode cX7_cost 7 = .ok (.invokevirtual 220, 3) := by decide +kernel
theorem dX7_cost_10 : decode cX7_cost 10 = .ok (.invokevirtual 212, 3) := by decide +kernel
theorem dX7_cost_13 : decode cX7_cost 13 = .ok (.ireturn, 1) := by decide +kernel
theorem dX7_answeredBy_0 : decode cX7_answeredBy 0 = .ok (.aload_n 0, 1) := by decide +kernel
theorem dX7_answeredBy_1 : decode cX7_answeredBy 1 = .ok (.iconst 0, 1) := by decide +kernel
theorem dX7_answeredBy_2 : decode cX7_answeredBy 2 = .ok (.putfield 52, 3) := by decide +kernel
theorem dX7_answeredBy_5 : decode cX7_answeredBy 5 = .ok (.aload_n 0, 1) := by decide +kernel
theorem dX7_answeredBy_6 : decode cX7_answeredBy 6 = .ok (.aload_n 0, 1) := by decide +kernel
theorem dX7_answeredBy_7 : decode cX7_answeredBy 7 = .ok (.invokevirtual 220, 3) := by decide +kernel
theorem dX7_answeredBy_10 : decode cX7_answeredBy 10 = .ok (.invokevirtual 203, 3) := by decide +kernel
theorem dX7_answeredBy_13 : decode cX7_answeredBy 13 = .ok (.ireturn, 1) := by decide +kernel
theorem dX7_gain_0 : decode cX7_gain 0 = .ok (.aload_n 0, 1) := by decide +kernel
theorem dX7_gain_1 : decode cX7_gain 1 = .ok (.iconst 0, 1) := by decide +kernel
theorem dX7_gain_2 : decode cX7_gain 2 = .ok (.putfield 52, 3) := by decide +kernel
theorem dX7_gain_5 : decode cX7_gain 5 = .ok (.aload_n 0, 1) := by decide +kernel
theorem dX7_gain_6 : decode cX7_gain 6 = .ok (.aload_n 0, 1) := by decide +kernel
theorem dX7_gain_7 : decode cX7_gain 7 = .ok (.invokevirtual 220, 3) := by decide +kernel
theorem dX7_gain_10 : decode cX7_gain 10 = .ok (.invokevirtual 226, 3) := by decide +kernel
theorem dX7_gain_13 : decode cX7_gain 13 = .ok (.ireturn, 1) := by decide +kernel
theorem dX7_members_0 : decode cX7_members 0 = .ok (.aload_n 0, 1) := by decide +kernel
theorem dX7_members_1 : decode cX7_members 1 = .ok (.iconst 0, 1) := by decide +kernel
theorem dX7_members_2 : decode cX7_members 2 = .ok (.putfield 52, 3) := by decide +kernel
theorem dX7_members_5 : decode cX7_members 5 = .ok (.aload_n 0, 1) := by decide +kernel
theorem dX7_members_6 : decode cX7_members 6 = .ok (.iload_n 1, 1) := by decide +kernel
theorem dX7_members_7 : decode cX7_members 7 = .ok (.invokevirtual 63, 3) := by decide +kernel
theorem dX7_members_10 : decode cX7_members 10 = .ok (.ifCond .eq 12, 3) := by decide +kernel
theorem dX7_members_13 : decode cX7_members 13 = .ok (.aload_n 0, 1) := by decide +kernel
theorem dX7_members_14 : decode cX7_members 14 = .ok (.getfield 13, 3) := by decide +kernel
theorem dX7_members_17 : decode cX7_members 17 = .ok (.iload_n 1, 1) := by decide +kernel
theorem dX7_members_18 : decode cX7_members 18 = .ok (.iaload, 1) := by decide +kernel
theorem dX7_members_19 : decode cX7_members 19 = .ok (.goto 8, 3) := by decide +kernel
theorem dX7_members_22 : decode cX7_members 22 = .ok (.aload_n 0, 1) := by decide +kernel
theorem dX7_members_23 : decode cX7_members 23 = .ok (.iconst 1, 1) := by decide +kernel
theorem dX7_members_24 : decode cX7_members 24 = .ok (.invokevirtual 85, 3) := by decide +kernel
theorem dX7_members_27 : decode cX7_members 27 = .ok (.ireturn, 1) := by decide +kernel
theorem dX7_pointOf_0 : decode cX7_pointOf 0 = .ok (.aload_n 0, 1) := by decide +kernel
theorem dX7_pointOf_1 : decode cX7_pointOf 1 = .ok (.iconst 0, 1) := by decide +kernel
theorem dX7_pointOf_2 : decode cX7_pointOf 2 = .ok (.putfield 52, 3) := by decide +kernel
theorem dX7_pointOf_5 : decode cX7_pointOf 5 = .ok (.aload_n 0, 1) := by decide +kernel
theorem dX7_pointOf_6 : decode cX7_pointOf 6 = .ok (.iload_n 1, 1) := by decide +kernel
theorem dX7_pointOf_7 : decode cX7_pointOf 7 = .ok (.invokevirtual 63, 3) := by decide +kernel
theorem dX7_pointOf_10 : decode cX7_pointOf 10 = .ok (.ifCond .eq 12, 3) := by decide +kernel
theorem dX7_pointOf_13 : decode cX7_pointOf 13 = .ok (.aload_n 0, 1) := by decide +kernel
theorem dX7_pointOf_14 : decode cX7_pointOf 14 = .ok (.getfield 26, 3) := by decide +kernel
theorem dX7_pointOf_17 : decode cX7_pointOf 17 = .ok (.iload_n 1, 1) := by decide +kernel
theorem dX7_pointOf_18 : decode cX7_pointOf 18 = .ok (.iaload, 1) := by decide +kernel
theorem dX7_pointOf_19 : decode cX7_pointOf 19 = .ok (.goto 8, 3) := by decide +kernel
theorem dX7_pointOf_22 : decode cX7_pointOf 22 = .ok (.aload_n 0, 1) := by decide +kernel
theorem dX7_pointOf_23 : decode cX7_pointOf 23 = .ok (.iconst 1, 1) := by decide +kernel
theorem dX7_pointOf_24 : decode cX7_pointOf 24 = .ok (.invokevirtual 85, 3) := by decide +kernel
theorem dX7_pointOf_27 : decode cX7_pointOf 27 = .ok (.ireturn, 1) := by decide +kernel
theorem dX7_parentOf_0 : decode cX7_parentOf 0 = .ok (.aload_n 0, 1) := by decide +kernel
theorem dX7_parentOf_1 : decode cX7_parentOf 1 = .ok (.iconst 0, 1) := by decide +kernel
theorem dX7_parentOf_2 : decode cX7_parentOf 2 = .ok (.putfield 52, 3) := by decide +kernel
theorem dX7_parentOf_5 : decode cX7_parentOf 5 = .ok (.aload_n 0, 1) := by decide +kernel
theorem dX7_parentOf_6 : decode cX7_parentOf 6 = .ok (.iload_n 1, 1) := by decide +kernel
theorem dX7_parentOf_7 : decode cX7_parentOf 7 = .ok (.iload_n 2, 1) := by decide +kernel
theorem dX7_parentOf_8 : decode cX7_parentOf 8 = .ok (.invokevirtual 99, 3) := by decide +kernel
theorem dX7_parentOf_11 : decode cX7_parentOf 11 = .ok (.ifCond .eq 12, 3) := by decide +kernel
theorem dX7_parentOf_14 : decode cX7_parentOf 14 = .ok (.aload_n 0, 1) := by decide +kernel
theorem dX7_parentOf_15 : decode cX7_parentOf 15 = .ok (.iload_n 1, 1) := by decide +kernel
theorem dX7_parentOf_16 : decode cX7_parentOf 16 = .ok (.iload_n 2, 1) := by decide +kernel
theorem dX7_parentOf_17 : decode cX7_parentOf 17 = .ok (.invokevirtual 106, 3) := by decide +kernel
theorem dX7_parentOf_20 : decode cX7_parentOf 20 = .ok (.goto 8, 3) := by decide +kernel
theorem dX7_parentOf_23 : decode cX7_parentOf 23 = .ok (.aload_n 0, 1) := by decide +kernel
theorem dX7_parentOf_24 : decode cX7_parentOf 24 = .ok (.iconst 1, 1) := by decide +kernel
theorem dX7_parentOf_25 : decode cX7_parentOf 25 = .ok (.invokevirtual 85, 3) := by decide +kernel
theorem dX7_parentOf_28 : decode cX7_parentOf 28 = .ok (.ireturn, 1) := by decide +kernel
theorem dX7_levelOf_0 : decode cX7_levelOf 0 = .ok (.aload_n 0, 1) := by decide +kernel
theorem dX7_levelOf_1 : decode cX7_levelOf 1 = .ok (.iconst 0, 1) := by decide +kernel
theorem dX7_levelOf_2 : decode cX7_levelOf 2 = .ok (.putfield 52, 3) := by decide +kernel
theorem dX7_levelOf_5 : decode cX7_levelOf 5 = .ok (.aload_n 0, 1) := by decide +kernel
theorem dX7_levelOf_6 : decode cX7_levelOf 6 = .ok (.iload_n 1, 1) := by decide +kernel
theorem dX7_levelOf_7 : decode cX7_levelOf 7 = .ok (.iload_n 2, 1) := by decide +kernel
theorem dX7_levelOf_8 : decode cX7_levelOf 8 = .ok (.invokevirtual 99, 3) := by decide +kernel
theorem dX7_levelOf_11 : decode cX7_levelOf 11 = .ok (.ifCond .eq 12, 3) := by decide +kernel
theorem dX7_levelOf_14 : decode cX7_levelOf 14 = .ok (.aload_n 0, 1) := by decide +kernel
theorem dX7_levelOf_15 : decode cX7_levelOf 15 = .ok (.iload_n 1, 1) := by decide +kernel
theorem dX7_levelOf_16 : decode cX7_levelOf 16 = .ok (.iload_n 2, 1) := by decide +kernel
theorem dX7_levelOf_17 : decode cX7_levelOf 17 = .ok (.invokevirtual 67, 3) := by decide +kernel
theorem dX7_levelOf_20 : decode cX7_levelOf 20 = .ok (.goto 8, 3) := by decide +kernel
theorem dX7_levelOf_23 : decode cX7_levelOf 23 = .ok (.aload_n 0, 1) := by decide +kernel
theorem dX7_levelOf_24 : decode cX7_levelOf 24 = .ok (.iconst 1, 1) := by decide +kernel
theorem dX7_levelOf_25 : decode cX7_levelOf 25 = .ok (.invokevirtual 85, 3) := by decide +kernel
theorem dX7_levelOf_28 : decode cX7_levelOf 28 = .ok (.ireturn, 1) := by decide +kernel
theorem dX7_isView_0 : decode cX7_isView 0 = .ok (.aload_n 0, 1) := by decide +kernel
theorem dX7_isView_1 : decode cX7_isView 1 = .ok (.iload_n 1, 1) := by decide +kernel
theorem dX7_isView_2 : decode cX7_isView 2 = .ok (.iconst 0, 1) := by decide +kernel
theorem dX7_isView_3 : decode cX7_isView 3 = .ok (.aload_n 0, 1) := by decide +kernel
theorem dX7_isView_4 : decode cX7_isView 4 = .ok (.getfield 92, 3) := by decide +kernel
theorem dX7_isView_7 : decode cX7_isView 7 = .ok (.iconst 1, 1) := by decide +kernel
theorem dX7_isView_8 : decode cX7_isView 8 = .ok (.isub, 1) := by decide +kernel
theorem dX7_isView_9 : decode cX7_isView 9 = .ok (.invokestatic 59, 3) := by decide +kernel
theorem dX7_isView_12 : decode cX7_isView 12 = .ok (.ifCond .eq 7, 3) := by decide +kernel
theorem dX7_isView_15 : decode cX7_isView 15 = .ok (.iconst 0, 1) := by decide +kernel
theorem dX7_isView_16 : decode cX7_isView 16 = .ok (.goto 4, 3) := by decide +kernel
theorem dX7_isView_19 : decode cX7_isView 19 = .ok (.iconst 1, 1) := by decide +kernel
theorem dX7_isView_20 : decode cX7_isView 20 = .ok (.putfield 52, 3) := by decide +kernel
theorem dX7_isView_23 : decode cX7_isView 23 = .ok (.aload_n 0, 1) := by decide +kernel
theorem dX7_isView_24 : decode cX7_isView 24 = .ok (.getfield 52, 3) := by decide +kernel
theorem dX7_isView_27 : decode cX7_isView 27 = .ok (.ifCond .ne 7, 3) := by decide +kernel
theorem dX7_isView_30 : decode cX7_isView 30 = .ok (.iconst 1, 1) := by decide +kernel
theorem dX7_isView_31 : decode cX7_isView 31 = .ok (.goto 4, 3) := by decide +kernel
theorem dX7_isView_34 : decode cX7_isView 34 = .ok (.iconst 0, 1) := by decide +kernel
theorem dX7_isView_35 : decode cX7_isView 35 = .ok (.ireturn, 1) := by decide +kernel
theorem dX7_rowsOf_0 : decode cX7_rowsOf 0 = .ok (.aload_n 0, 1) := by decide +kernel
theorem dX7_rowsOf_1 : decode cX7_rowsOf 1 = .ok (.iload_n 1, 1) := by decide +kernel
theorem dX7_rowsOf_2 : decode cX7_rowsOf 2 = .ok (.invokevirtual 223, 3) := by decide +kernel
theorem dX7_rowsOf_5 : decode cX7_rowsOf 5 = .ok (.ifCond .eq 12, 3) := by decide +kernel
theorem dX7_rowsOf_8 : decode cX7_rowsOf 8 = .ok (.aload_n 0, 1) := by decide +kernel
theorem dX7_rowsOf_9 : decode cX7_rowsOf 9 = .ok (.getfield 45, 3) := by decide +kernel
theorem dX7_rowsOf_12 : decode cX7_rowsOf 12 = .ok (.iload_n 1, 1) := by decide +kernel
theorem dX7_rowsOf_13 : decode cX7_rowsOf 13 = .ok (.iaload, 1) := by decide +kernel
theorem dX7_rowsOf_14 : decode cX7_rowsOf 14 = .ok (.goto 4, 3) := by decide +kernel
theorem dX7_rowsOf_17 : decode cX7_rowsOf 17 = .ok (.iconst 0, 1) := by decide +kernel
theorem dX7_rowsOf_18 : decode cX7_rowsOf 18 = .ok (.ireturn, 1) := by decide +kernel
theorem dX7_isStale_0 : decode cX7_isStale 0 = .ok (.aload_n 0, 1) := by decide +kernel
theorem dX7_isStale_1 : decode cX7_isStale 1 = .ok (.iload_n 1, 1) := by decide +kernel
theorem dX7_isStale_2 : decode cX7_isStale 2 = .ok (.invokevirtual 223, 3) := by decide +kernel
theorem dX7_isStale_5 : decode cX7_isStale 5 = .ok (.ifCond .eq 16, 3) := by decide +kernel
theorem dX7_isStale_8 : decode cX7_isStale 8 = .ok (.aload_n 0, 1) := by decide +kernel
theorem dX7_isStale_9 : decode cX7_isStale 9 = .ok (.getfield 48, 3) := by decide +kernel
theorem dX7_isStale_12 : decode cX7_isStale 12 = .ok (.iload_n 1, 1) := by decide +kernel
theorem dX7_isStale_13 : decode cX7_isStale 13 = .ok (.baload, 1) := by decide +kernel
theorem dX7_isStale_14 : decode cX7_isStale 14 = .ok (.ifCond .eq 7, 3) := by decide +kernel
theorem dX7_isStale_17 : decode cX7_isStale 17 = .ok (.iconst 1, 1) := by decide +kernel
theorem dX7_isStale_18 : decode cX7_isStale 18 = .ok (.goto 4, 3) := by decide +kernel
theorem dX7_isStale_21 : decode cX7_isStale 21 = .ok (.iconst 0, 1) := by decide +kernel
theorem dX7_isStale_22 : decode cX7_isStale 22 = .ok (.ireturn, 1) := by decide +kernel
theorem dX7_setBare_0 : decode cX7_setBare 0 = .ok (.aload_n 0, 1) := by decide +kernel
theorem dX7_setBare_1 : decode cX7_setBare 1 = .ok (.iconst 0, 1) := by decide +kernel
theorem dX7_setBare_2 : decode cX7_setBare 2 = .ok (.putfield 52, 3) := by decide +kernel
theorem dX7_setBare_5 : decode cX7_setBare 5 = .ok (.aload_n 0, 1) := by decide +kernel
theorem dX7_setBare_6 : decode cX7_setBare 6 = .ok (.getfield 168, 3) := by decide +kernel
theorem dX7_setBare_9 : decode cX7_setBare 9 = .ok (.istore_n 2, 1) := by decide +kernel
theorem dX7_setBare_10 : decode cX7_setBare 10 = .ok (.aload_n 0, 1) := by decide +kernel
theorem dX7_setBare_11 : decode cX7_setBare 11 = .ok (.iload_n 1, 1) := by decide +kernel
theorem dX7_setBare_12 : decode cX7_setBare 12 = .ok (.putfield 168, 3) := by decide +kernel
theorem dX7_setBare_15 : decode cX7_setBare 15 = .ok (.iload_n 2, 1) := by decide +kernel
theorem dX7_setBare_16 : decode cX7_setBare 16 = .ok (.ireturn, 1) := by decide +kernel
theorem dX7_canLay_0 : decode cX7_canLay 0 = .ok (.aload_n 0, 1) := by decide +kernel
theorem dX7_canLay_1 : decode cX7_canLay 1 = .ok (.aload_n 0, 1) := by decide +kernel
theorem dX7_canLay_2 : decode cX7_canLay 2 = .ok (.getfield 95, 3) := by decide +kernel
theorem dX7_canLay_5 : decode cX7_canLay 5 = .ok (.ifCond .eq 7, 3) := by decide +kernel
theorem dX7_canLay_8 : decode cX7_canLay 8 = .ok (.iconst 0, 1) := by decide +kernel
theorem dX7_canLay_9 : decode cX7_canLay 9 = .ok (.goto 4, 3) := by decide +kernel
theorem dX7_canLay_12 : decode cX7_canLay 12 = .ok (.iconst 1, 1) := by decide +kernel
theorem dX7_canLay_13 : decode cX7_canLay 13 = .ok (.putfield 52, 3) := by decide +kernel
theorem dX7_canLay_16 : decode cX7_canLay 16 = .ok (.aload_n 0, 1) := by decide +kernel
theorem dX7_canLay_17 : decode cX7_canLay 17 = .ok (.getfield 95, 3) := by decide +kernel
theorem dX7_canLay_20 : decode cX7_canLay 20 = .ok (.ireturn, 1) := by decide +kernel
/-! by program: wip/whole/gen.py out of wip/whole/src/36.asks.eb -/
/-! EbbTableModel: what only asks -/
set_option maxRecDepth 100000 in
set_option maxHeartbeats 8000000 in
theorem c_X7_dimensions {l : Launch} {D : va_G} {cys : Nat → ClassId} {ad : Nat → Int → Nat} {L : List Nat} {g : Nat → va_E} {X : Int64} {Z : ZT} (hi : injA ad) {S : ZT} (hS : RMZ S Z) : CM l D cys ad yX7_dimensions cX7_dimensions 1 (some .int) 0 0 0 0 [.ref (ad 24 0)] L g X Z (PIZ L g X Z (fun r Z' => r = S 0 0 5 ∧ MTH 0 Z Z')) := by
  refine cm_start hi (by decide +kernel) (Nat.le_of_ble_eq_true rfl) ?_
  intro p_ e_ s_ m_ args_ below_ meth_ c_ A_ Q_ hQ G hr hin
  refine j_aload_n G dX7_dimensions_0 rfl ?_
  refine j_iconst G dX7_dimensions_1 ?_
  refine pf_24_0 G dX7_dimensions_2 lf7_52 (by first | assumption | decide) ?_
  refine j_aload_n G dX7_dimensions_5 rfl ?_
  refine gf_24_1 G dX7_dimensions_6 lf7_56 (by first | assumption | decide) ?_
  try simp (config := { decide := true }) only [zS_k, zS_s, zS_j, ne_eq]
  refine jr_IZ G hQ hr dX7_dimensions_9 (by decide) (by decide) ?_
  try simp (config := { decide := true }) only [zS_k, zS_s, zS_j, ne_eq]
  exact ⟨hS.a.1, rfl⟩
set_option maxRecDepth 100000 in
set_option maxHeartbeats 8000000 in
theorem c_X7_facts {l : Launch} {D : va_G} {cys : Nat → ClassId} {ad : Nat → Int → Nat} {L : List Nat} {g : Nat → va_E} {X : Int64} {Z : ZT} (hi : injA ad) {S : ZT} (hS : RMZ S Z) : CM l D cys ad yX7_facts cX7_facts 1 (some .int) 0 0 0 0 [.ref (ad 24 0)] L g X Z (PIZ L g X Z (fun r Z' => r = S 6 0 3 ∧ MTH 0 Z Z')) := by
  refine cm_start hi (by decide +kernel) (Nat.le_of_ble_eq_true rfl) ?_
  intro p_ e_ s_ m_ args_ below_ meth_ c_ A_ Q_ hQ G hr hin
  refine j_aload_n G dX7_facts_0 rfl ?_
  refine j_iconst G dX7_facts_1 ?_
  refine pf_24_0 G dX7_facts_2 lf7_52 (by first | assumption | decide) ?_
  refine j_aload_n G dX7_facts_5 rfl ?_
  refine gf_24_8 G dX7_facts_6 lf7_89 (by first | assumption | decide) ?_
  try simp (config := { decide := true }) only [zS_k, zS_s, zS_j, ne_eq]
  refine jr_IZ G hQ hr dX7_facts_9 (by decide) (by decide) ?_
  try simp (config := { decide := true }) only [zS_k, zS_s, zS_j, ne_eq]
  exact ⟨hS.a.2.1, rfl⟩
set_option maxRecDepth 100000 in
set_option maxHeartbeats 8000000 in
theorem c_X7_views {l : Launch} {D : va_G} {cys : Nat → ClassId} {ad : Nat → Int → Nat} {L : List Nat} {g : Nat → va_E} {X : Int64} {Z : ZT} (hi : injA ad) {S : ZT} (hS : RMZ S Z) : CM l D cys ad yX7_views cX7_views 1 (some .int) 0 0 0 0 [.ref (ad 24 0)] L g X Z (PIZ L g X Z (fun r Z' => r = S 11 0 3 ∧ MTH 0 Z Z')) := by
  refine cm_start hi (by decide +kernel) (Nat.le_of_ble_eq_true rfl) ?_
  intro p_ e_ s_ m_ args_ below_ meth_ c_ A_ Q_ hQ G hr hin
  refine j_aload_n G dX7_views_0 rfl ?_
  refine j_iconst G dX7_views_1 ?_
  refine pf_24_0 G dX7_views_2 lf7_52 (by first | assumption | decide) ?_
  refine j_aload_n G dX7_views_5 rfl ?_
  refine gf_24_14 G dX7_views_6 lf7_92 (by first | assumption | decide) ?_
  try simp (config := { decide := true }) only [zS_k, zS_s, zS_j, ne_eq]
  refine jr_IZ G hQ hr dX7_views_9 (by decide) (by decide) ?_
  try simp (config := { decide := true }) only [zS_k, zS_s, zS_j, ne_eq]
  exact ⟨hS.a.2.2.2.2, rfl⟩
set_option maxRecDepth 100000 in
set_option maxHeartbeats 8000000 in
theorem c_X7_count {l : Launch} {D : va_G} {cys : Nat → ClassId} {ad : Nat → Int → Nat} {L : List Nat} {g : Nat → va_E} {X : Int64} {Z : ZT} (hi : injA ad) {S : ZT} (hS : RMZ S Z) (hRL : RML cys ad S L g) (hW : WF S) : CM l D cys ad yX7_count cX7_count 1 (some .int) 4 92 0 0 [.ref (ad 24 0)] L g X Z (PIZ L g X Z (fun r Z' => r = CNT S ∧ MTH 0 Z Z')) := by
  refine cm_start hi (by decide +kernel) (Nat.le_of_ble_eq_true rfl) ?_
  intro p_ e_ s_ m_ args_ below_ meth_ c_ A_ Q_ hQ G hr hin
  have hS1 := hS.th 0
  refine j_aload_n G dX7_count_0 rfl ?_
  refine j_iconst G dX7_count_1 ?_
  refine pf_24_0 G dX7_count_2 lf7_52 (by first | assumption | decide) ?_
  refine j_aload_n G dX7_count_5 rfl ?_
  refine j_cVI G cvX7_countNow ml7_129 (c_X7_countNow hi hS1 hRL hW) dX7_count_6 ⟨by decide, by decide⟩ ⟨by decide, by decide⟩ rfl rfl (Nat.le_of_ble_eq_true rfl) (by first | assumption | decide) rfl rfl rfl (fun r6 h6 => ?_)
  refine jr_IZ G hQ hr dX7_count_9 (by decide) (by decide) ?_
  try simp (config := { decide := true }) only [zS_k, zS_s, zS_j, ne_eq]
  exact ⟨h6, rfl⟩
set_option maxRecDepth 100000 in
set_option maxHeartbeats 8000000 in
theorem c_X7_sum {l : Launch} {D : va_G} {cys : Nat → ClassId} {ad : Nat → Int → Nat} {L : List Nat} {g : Nat → va_E} {X : Int64} {Z : ZT} (hi : injA ad) {S : ZT} (hS : RMZ S Z) (hRL : RML cys ad S L g) (hW : WF S) : CM l D cys ad yX7_sum cX7_sum 1 (some .int) 4 92 0 0 [.ref (ad 24 0)] L g X Z (PIZ L g X Z (fun r Z' => r = SUM S ∧ MTH 0 Z Z')) := by
  refine cm_start hi (by decide +kernel) (Nat.le_of_ble_eq_true rfl) ?_
  intro p_ e_ s_ m_ args_ below_ meth_ c_ A_ Q_ hQ G hr hin
  have hS1 := hS.th 0
  refine j_aload_n G dX7_sum_0 rfl ?_
  refine j_iconst G dX7_sum_1 ?_
  refine pf_24_0 G dX7_sum_2 lf7_52 (by first | assumption | decide) ?_
  refine j_aload_n G dX7_sum_5 rfl ?_
  refine j_cVI G cvX7_sumNow ml7_133 (c_X7_sumNow hi hS1 hRL hW) dX7_sum_6 ⟨by decide, by decide⟩ ⟨by decide, by decide⟩ rfl rfl (Nat.le_of_ble_eq_true rfl) (by first | assumption | decide) rfl rfl rfl (fun r6 h6 => ?_)
  refine jr_IZ G hQ hr dX7_sum_9 (by decide) (by decide) ?_
  try simp (config := { decide := true }) only [zS_k, zS_s, zS_j, ne_eq]
  exact ⟨h6, rfl⟩
set_option maxRecDepth 100000 in
set_option maxHeartbeats 8000000 in
theorem c_X7_least {l : Launch} {D : va_G} {cys : Nat → ClassId} {ad : Nat → Int → Nat} {L : List Nat} {g : Nat → va_E} {X : Int64} {Z : ZT} (hi : injA ad) {S : ZT} (hS : RMZ S Z) (hRL : RML cys ad S L g) (hW : WF S) : CM l D cys ad yX7_least cX7_least 1 (some .int) 4 94 0 0 [.ref (ad 24 0)] L g X Z (PIZ L g X Z (fun r Z' => r = LEAST S ∧ MTH 0 Z Z')) := by
  refine cm_start hi (by decide +kernel) (Nat.le_of_ble_eq_true rfl) ?_
  intro p_ e_ s_ m_ args_ below_ meth_ c_ A_ Q_ hQ G hr hin
  have hS1 := hS.th 0
  have hq : (1 : Int) = 1 ∨ (1 : Int) = -1 := by decide
  refine j_aload_n G dX7_least_0 rfl ?_
  refine j_iconst G dX7_least_1 ?_
  refine pf_24_0 G dX7_least_2 lf7_52 (by first | assumption | decide) ?_
  refine j_aload_n G dX7_least_5 rfl ?_
  refine j_iconst G dX7_least_6 ?_
  refine j_cVI G cvX7_end ml7_136 (c_X7_end hi hS1 hRL hW hq) dX7_least_7 ⟨by decide, by decide⟩ ⟨by decide, by decide⟩ rfl rfl (Nat.le_of_ble_eq_true rfl) (by first | assumption | decide) rfl rfl rfl (fun r7 h7 => ?_)
  refine jr_IZ G hQ hr dX7_least_10 (by decide) (by decide) ?_
  try simp (config := { decide := true }) only [zS_k, zS_s, zS_j, ne_eq]
  exact ⟨h7, rfl⟩
set_option maxRecDepth 100000 in
set_option maxHeartbeats 8000000 in
theorem c_X7_greatest {l : Launch} {D : va_G} {cys : Nat → ClassId} {ad : Nat → Int → Nat} {L : List Nat} {g : Nat → va_E} {X : Int64} {Z : ZT} (hi : injA ad) {S : ZT} (hS : RMZ S Z) (hRL : RML cys ad S L g) (hW : WF S) : CM l D cys ad yX7_greatest cX7_greatest 1 (some .int) 4 94 0 0 [.ref (ad 24 0)] L g X Z (PIZ L g X Z (fun r Z' => r = GREAT S ∧ MTH 0 Z Z')) := by
  refine cm_start hi (by decide +kernel) (Nat.le_of_ble_eq_true rfl) ?_
  intro p_ e_ s_ m_ args_ below_ meth_ c_ A_ Q_ hQ G hr hin
  have hS1 := hS.th 0
  have hq : (-1 : Int) = 1 ∨ (-1 : Int) = -1 := by decide
  refine j_aload_n G dX7_greatest_0 rfl ?_
  refine j_iconst G dX7_greatest_1 ?_
  refine pf_24_0 G dX7_greatest_2 lf7_52 (by first | assumption | decide) ?_
  refine j_aload_n G dX7_greatest_5 rfl ?_
  refine j_iconst G dX7_greatest_6 ?_
  refine j_cVI G cvX7_end ml7_136 (c_X7_end hi hS1 hRL hW hq) dX7_greatest_7 ⟨by decide, by decide⟩ ⟨by decide, by decide⟩ rfl rfl (Nat.le_of_ble_eq_true rfl) (by first | assumption | decide) rfl rfl rfl (fun r7 h7 => ?_)
  refine jr_IZ G hQ hr dX7_greatest_10 (by decide) (by decide) ?_
  try simp (config := { decide := true }) only [zS_k, zS_s, zS_j, ne_eq]
  exact ⟨h7, rfl⟩
set_option maxRecDepth 100000 in
set_option maxHeartbeats 8000000 in
theorem c_X7_cellCount {l : Launch} {D : va_G} {cys : Nat → ClassId} {ad : Nat → Int → Nat} {L : List Nat} {g : Nat → va_E} {X : Int64} {Z : ZT} (hi : injA ad) {S : ZT} (hS : RMZ S Z) (hRL : RML cys ad S L g) (hW : WF S) : CM l D cys ad yX7_cellCount cX7_cellCount 1 (some .int) 4 98 0 0 [.ref (ad 24 0)] L g X Z (PIZ L g X Z (fun r Z' => r = CELLS S (S 0 0 6) ∧ MTH 0 Z Z')) := by
  refine cm_start hi (by decide +kernel) (Nat.le_of_ble_eq_true rfl) ?_
  intro p_ e_ s_ m_ args_ below_ meth_ c_ A_ Q_ hQ G hr hin
  have hS1 := hS.th 0
  refine j_aload_n G dX7_cellCount_0 rfl ?_
  refine j_iconst G dX7_cellCount_1 ?_
  refine pf_24_0 G dX7_cellCount_2 lf7_52 (by first | assumption | decide) ?_
  refine j_aload_n G dX7_cellCount_5 rfl ?_
  refine j_aload_n G dX7_cellCount_6 rfl ?_
  refine j_cVI G cvX7_levelsNow ml7_220 (c_X7_levelsNow hi hS1 hW) dX7_cellCount_7 ⟨by decide, by decide⟩ ⟨by decide, by decide⟩ rfl rfl (Nat.le_of_ble_eq_true rfl) (by first | assumption | decide) rfl rfl rfl (fun r7 h7 => ?_)
  obtain ⟨q1, q2⟩ := h7
  refine j_cVI G cvX7_cells ml7_206 (c_X7_cells hi hS1 hRL hW q2) dX7_cellCount_10 ⟨by decide, by decide⟩ ⟨by decide, by decide⟩ rfl rfl (Nat.le_of_ble_eq_true rfl) (by first | assumption | decide) rfl rfl rfl (fun r10 h10 => ?_)
  refine jr_IZ G hQ hr dX7_cellCount_13 (by decide) (by decide) ?_
  try simp (config := { decide := true }) only [zS_k, zS_s, zS_j, ne_eq]
  rw [q1] at h10
  exact ⟨h10, rfl⟩
set_option maxRecDepth 100000 in
set_option maxHeartbeats 8000000 in
theorem c_X7_cost {l : Launch} {D : va_G} {cys : Nat → ClassId} {ad : Nat → Int → Nat} {L : List Nat} {g : Nat → va_E} {X : Int64} {Z : ZT} (hi : injA ad) {S : ZT} (hS : RMZ S Z) (hRL : RML cys ad S L g) (hW : WF S) : CM l D cys ad yX7_cost cX7_cost 1 (some .int) 4 91 0 0 [.ref (ad 24 0)] L g X Z (PIZ L g X Z (fun r Z' => r = COST S (S 0 0 6) ∧ MTH 0 Z Z')) := by
  refine cm_start hi (by decide +kernel) (Nat.le_of_ble_eq_true rfl) ?_
  intro p_ e_ s_ m_ args_ below_ meth_ c_ A_ Q_ hQ G hr hin
  have hS1 := hS.th 0
  refine j_aload_n G dX7_cost_0 rfl ?_
  refine j_iconst G dX7_cost_1 ?_
  refine pf_24_0 G dX7_cost_2 lf7_52 (by first | assumption | decide) ?_
  refine j_aload_n G dX7_cost_5 rfl ?_
  refine j_aload_n G dX7_cost_6 rfl ?_
  refine j_cVI G cvX7_levelsNow ml7_220 (c_X7_levelsNow hi hS1 hW) dX7_cost_7 ⟨by decide, by decide⟩ ⟨by decide, by decide⟩ rfl rfl (Nat.le_of_ble_eq_true rfl) (by first | assumption | decide) rfl rfl rfl (fun r7 h7 => ?_)
  obtain ⟨q1, q2⟩ := h7
  refine j_cVI G cvX7_costOf ml7_212 (c_X7_costOf hi hS1 hW q2) dX7_cost_10 ⟨by decide, by decide⟩ ⟨by decide, by decide⟩ rfl rfl (Nat.le_of_ble_eq_true rfl) (by first | assumption | decide) rfl rfl rfl (fun r10 h10 => ?_)
  refine jr_IZ G hQ hr dX7_cost_13 (by decide) (by decide) ?_
  try simp (config := { decide := true }) only [zS_k, zS_s, zS_j, ne_eq]
  rw [q1] at h10
  exact ⟨h10, rfl⟩
set_option maxRecDepth 100000 in
set_option maxHeartbeats 8000000 in
theorem c_X7_answeredBy {l : Launch} {D : va_G} {cys : Nat → ClassId} {ad : Nat → Int → Nat} {L : List Nat} {g : Nat → va_E} {X : Int64} {Z : ZT} (hi : injA ad) {S : ZT} (hS : RMZ S Z) (hRL : RML cys ad S L g) (hW : WF S) : CM l D cys ad yX7_answeredBy cX7_answeredBy 1 (some .int) 3 69 0 0 [.ref (ad 24 0)] L g X Z (PIZ L g X Z (fun r Z' => r = VFOR S (S 0 0 6) ∧ MTH 0 Z Z')) := by
  refine cm_start hi (by decide +kernel) (Nat.le_of_ble_eq_true rfl) ?_
  intro p_ e_ s_ m_ args_ below_ meth_ c_ A_ Q_ hQ G hr hin
  have hS1 := hS.th 0
  refine j_aload_n G dX7_answeredBy_0 rfl ?_
  refine j_iconst G dX7_answeredBy_1 ?_
  refine pf_24_0 G dX7_answeredBy_2 lf7_52 (by first | assumption | decide) ?_
  refine j_aload_n G dX7_answeredBy_5 rfl ?_
  refine j_aload_n G dX7_answeredBy_6 rfl ?_
  refine j_cVI G cvX7_levelsNow ml7_220 (c_X7_levelsNow hi hS1 hW) dX7_answeredBy_7 ⟨by decide, by decide⟩ ⟨by decide, by decide⟩ rfl rfl (Nat.le_of_ble_eq_true rfl) (by first | assumption | decide) rfl rfl rfl (fun r7 h7 => ?_)
  obtain ⟨q1, q2⟩ := h7
  refine j_cVI G cvX7_answering ml7_203 (c_X7_answering hi hS1 hW q2) dX7_answeredBy_10 ⟨by decide, by decide⟩ ⟨by decide, by decide⟩ rfl rfl (Nat.le_of_ble_eq_true rfl) (by first | assumption | decide) rfl rfl rfl (fun r10 h10 => ?_)
  refine jr_IZ G hQ hr dX7_answeredBy_13 (by decide) (by decide) ?_
  try simp (config := { decide := true }) only [zS_k, zS_s, zS_j, ne_eq]
  rw [q1] at h10
  exact ⟨h10, rfl⟩
set_option maxRecDepth 100000 in
set_option maxHeartbeats 8000000 in
theorem c_X7_gain {l : Launch} {D : va_G} {cys : Nat → ClassId} {ad : Nat → Int → Nat} {L : List Nat} {g : Nat → va_E} {X : Int64} {Z : ZT} (hi : injA ad) {S : ZT} (hS : RMZ S Z) (hRL : RML cys ad S L g) (hW : WF S) : CM l D cys ad yX7_gain cX7_gain 1 (some .int) 5 122 0 0 [.ref (ad 24 0)] L g X Z (PIZ L g X Z (fun r Z' => (∃ q, 0 ≤ q ∧ LV (S 0 0 5) q = S 0 0 6 ∧ r = GM S q) ∧ MTH 0 Z Z')) := by
  refine cm_start hi (by decide +kernel) (Nat.le_of_ble_eq_true rfl) ?_
  intro p_ e_ s_ m_ args_ below_ meth_ c_ A_ Q_ hQ G hr hin
  have hS1 := hS.th 0
  refine j_aload_n G dX7_gain_0 rfl ?_
  refine j_iconst G dX7_gain_1 ?_
  refine pf_24_0 G dX7_gain_2 lf7_52 (by first | assumption | decide) ?_
  refine j_aload_n G dX7_gain_5 rfl ?_
  refine j_aload_n G dX7_gain_6 rfl ?_
  refine j_cVI G cvX7_levelsNow ml7_220 (c_X7_levelsNow hi hS1 hW) dX7_gain_7 ⟨by decide, by decide⟩ ⟨by decide, by decide⟩ rfl rfl (Nat.le_of_ble_eq_true rfl) (by first | assumption | decide) rfl rfl rfl (fun r7 h7 => ?_)
  obtain ⟨q1, q2⟩ := h7
  refine j_cVI G cvX7_gainOf ml7_226 (c_X7_gainOf hi hS1 hRL hW q2) dX7_gain_10 ⟨by decide, by decide⟩ ⟨by decide, by decide⟩ rfl rfl (Nat.le_of_ble_eq_true rfl) (by first | assumption | decide) rfl rfl rfl (fun r10 h10 => ?_)
  refine jr_IZ G hQ hr dX7_gain_13 (by decide) (by decide) ?_
  try simp (config := { decide := true }) only [zS_k, zS_s, zS_j, ne_eq]
  exact ⟨⟨r7, q2.1, q1, h10⟩, rfl⟩
set_option maxRecDepth 100000 in
set_option maxHeartbeats 8000000 in
theorem c_X7_members {l : Launch} {D : va_G} {cys : Nat → ClassId} {ad : Nat → Int → Nat} {L : List Nat} {g : Nat → va_E} {X : Int64} {Z : ZT} (hi : injA ad) {S : ZT} {d : Int} (hS : RMZ S Z) (hW : WF S) (hd : inR d) : CM l D cys ad yX7_members cX7_members 2 (some .int) 2 43 0 0 [.ref (ad 24 0), .int (iI d)] L g X Z (PIZ L g X Z (fun r Z' => ((0 ≤ d ∧ d < S 0 0 5) ∧ r = S 2 d 4 ∧ MTH 0 Z Z') ∨ (¬ (0 ≤ d ∧ d < S 0 0 5) ∧ r = 0 ∧ MTH 1 Z Z'))) := by
  refine cm_start hi (by decide +kernel) (Nat.le_of_ble_eq_true rfl) ?_
  intro p_ e_ s_ m_ args_ below_ meth_ c_ A_ Q_ hQ G hr hin
  have hn := hW.n
  have hS1 := hS.th 0
  refine j_aload_n G dX7_members_0 rfl ?_
  refine j_iconst G dX7_members_1 ?_
  refine pf_24_0 G dX7_members_2 lf7_52 (by first | assumption | decide) ?_
  refine j_aload_n G dX7_members_5 rfl ?_
  refine j_iload_n G dX7_members_6 rfl ?_
  refine j_cVI G cvX7_isDimension ml7_63 (c_X7_isDimension hi hS1 hW hd) dX7_members_7 ⟨by decide, by decide⟩ ⟨by decide, by decide⟩ rfl rfl (Nat.le_of_ble_eq_true rfl) (by first | assumption | decide) rfl rfl rfl (fun r7 h7 => ?_)
  refine j_if_eq G 22 dX7_members_10 (by decide) (by omega) (fun c10 => ?_) (fun c10 => ?_)
  · refine j_aload_n G dX7_members_22 rfl ?_
    refine j_iconst G dX7_members_23 ?_
    refine j_cVIZ G cvX7_refuse ml7_85 (c_X7_refuse hi ) dX7_members_24 ⟨by decide, by decide⟩ ⟨by decide, by decide⟩ rfl rfl (Nat.le_of_ble_eq_true rfl) (by first | assumption | decide) rfl rfl rfl (fun r24 Z24 h24 => ?_)
    refine jr_IZ G hQ hr dX7_members_27 (by decide) (by decide) ?_
    try simp (config := { decide := true }) only [zS_k, zS_s, zS_j, ne_eq]
    first
    | exact Or.inl ⟨hd0, ed.2.1, rfl⟩
    | exact Or.inr ⟨by omega, h24.1, MTH.up h24.2⟩
  · have hd0 : 0 ≤ d ∧ d < S 0 0 5 := by omega
    have hd4 : 0 ≤ d ∧ d < 4 := by omega
    have ed := hS.d hd4.1 hd4.2
    refine j_aload_n G dX7_members_13 rfl ?_
    refine gf_24_3 G dX7_members_14 lf7_13 (by first | assumption | decide) ?_
    refine j_iload_n G dX7_members_17 rfl ?_
    refine al_26 G dX7_members_18 (by first | assumption | decide) (by omega) (by omega) ?_
    try simp (config := { decide := true }) only [zS_k, zS_s, zS_j, ne_eq]
    refine j_goto G 27 dX7_members_19 (by decide) ?_
    refine jr_IZ G hQ hr dX7_members_27 (by decide) (by decide) ?_
    try simp (config := { decide := true }) only [zS_k, zS_s, zS_j, ne_eq]
    first
    | exact Or.inl ⟨hd0, ed.2.1, rfl⟩
    | exact Or.inr ⟨by omega, h24.1, MTH.up h24.2⟩
set_option maxRecDepth 100000 in
set_option maxHeartbeats 8000000 in
theorem c_X7_pointOf {l : Launch} {D : va_G} {cys : Nat → ClassId} {ad : Nat → Int → Nat} {L : List Nat} {g : Nat → va_E} {X : Int64} {Z : ZT} (hi : injA ad) {S : ZT} {d : Int} (hS : RMZ S Z) (hW : WF S) (hd : inR d) : CM l D cys ad yX7_pointOf cX7_pointOf 2 (some .int) 2 43 0 0 [.ref (ad 24 0), .int (iI d)] L g X Z (PIZ L g X Z (fun r Z' => ((0 ≤ d ∧ d < S 0 0 5) ∧ r = S 2 d 5 ∧ MTH 0 Z Z') ∨ (¬ (0 ≤ d ∧ d < S 0 0 5) ∧ r = 0 ∧ MTH 1 Z Z'))) := by
  refine cm_start hi (by decide +kernel) (Nat.le_of_ble_eq_true rfl) ?_
  intro p_ e_ s_ m_ args_ below_ meth_ c_ A_ Q_ hQ G hr hin
  have hn := hW.n
  have hS1 := hS.th 0
  refine j_aload_n G dX7_pointOf_0 rfl ?_
  refine j_iconst G dX7_pointOf_1 ?_
  refine pf_24_0 G dX7_pointOf_2 lf7_52 (by first | assumption | decide) ?_
  refine j_aload_n G dX7_pointOf_5 rfl ?_
  refine j_iload_n G dX7_pointOf_6 rfl ?_
  refine j_cVI G cvX7_isDimension ml7_63 (c_X7_isDimension hi hS1 hW hd) dX7_pointOf_7 ⟨by decide, by decide⟩ ⟨by decide, by decide⟩ rfl rfl (Nat.le_of_ble_eq_true rfl) (by first | assumption | decide) rfl rfl rfl (fun r7 h7 => ?_)
  refine j_if_eq G 22 dX7_pointOf_10 (by decide) (by omega) (fun c10 => ?_) (fun c10 => ?_)
  · refine j_aload_n G dX7_pointOf_22 rfl ?_
    refine j_iconst G dX7_pointOf_23 ?_
    refine j_cVIZ G cvX7_refuse ml7_85 (c_X7_refuse hi ) dX7_pointOf_24 ⟨by decide, by decide⟩ ⟨by decide, by decide⟩ rfl rfl (Nat.le_of_ble_eq_true rfl) (by first | assumption | decide) rfl rfl rfl (fun r24 Z24 h24 => ?_)
    refine jr_IZ G hQ hr dX7_pointOf_27 (by decide) (by decide) ?_
    try simp (config := { decide := true }) only [zS_k, zS_s, zS_j, ne_eq]
    first
    | exact Or.inl ⟨hd0, ed.2.2.1, rfl⟩
    | exact Or.inr ⟨by omega, h24.1, MTH.up h24.2⟩
  · have hd0 : 0 ≤ d ∧ d < S 0 0 5 := by omega
    have hd4 : 0 ≤ d ∧ d < 4 := by omega
    have ed := hS.d hd4.1 hd4.2
    refine j_aload_n G dX7_pointOf_13 rfl ?_
    refine gf_24_6 G dX7_pointOf_14 lf7_26 (by first | assumption | decide) ?_
    refine j_iload_n G dX7_pointOf_17 rfl ?_
    refine al_31 G dX7_pointOf_18 (by first | assumption | decide) (by omega) (by omega) ?_
    try simp (config := { decide := true }) only [zS_k, zS_s, zS_j, ne_eq]
    refine j_goto G 27 dX7_pointOf_19 (by decide) ?_
    refine jr_IZ G hQ hr dX7_pointOf_27 (by decide) (by decide) ?_
    try simp (config := { decide := true }) only [zS_k, zS_s, zS_j, ne_eq]
    first
    | exact Or.inl ⟨hd0, ed.2.2.1, rfl⟩
    | exact Or.inr ⟨by omega, h24.1, MTH.up h24.2⟩
set_option maxRecDepth 100000 in
set_option maxHeartbeats 8000000 in
theorem c_X7_parentOf {l : Launch} {D : va_G} {cys : Nat → ClassId} {ad : Nat → Int → Nat} {L : List Nat} {g : Nat → va_E} {X : Int64} {Z : ZT} (hi : injA ad) {S : ZT} {d q : Int} (hS : RMZ S Z) (hW : WF S) (hd : inR d) (hq : inR q) : CM l D cys ad yX7_parentOf cX7_parentOf 3 (some .int) 3 65 0 0 [.ref (ad 24 0), .int (iI d), .int (iI q)] L g X Z (PIZ L g X Z (fun r Z' => ((0 ≤ d ∧ d < S 0 0 5 ∧ 0 ≤ q ∧ q < S 2 d 4) ∧ r = S 3 d q ∧ MTH 0 Z Z') ∨ (¬ (0 ≤ d ∧ d < S 0 0 5 ∧ 0 ≤ q ∧ q < S 2 d 4) ∧ r = 0 ∧ MTH 1 Z Z'))) := by
  refine cm_start hi (by decide +kernel) (Nat.le_of_ble_eq_true rfl) ?_
  intro p_ e_ s_ m_ args_ below_ meth_ c_ A_ Q_ hQ G hr hin
  have hn := hW.n
  have hS1 := hS.th 0
  refine j_aload_n G dX7_parentOf_0 rfl ?_
  refine j_iconst G dX7_parentOf_1 ?_
  refine pf_24_0 G dX7_parentOf_2 lf7_52 (by first | assumption | decide) ?_
  refine j_aload_n G dX7_parentOf_5 rfl ?_
  refine j_iload_n G dX7_parentOf_6 rfl ?_
  refine j_iload_n G dX7_parentOf_7 rfl ?_
  refine j_cVI G cvX7_isMember ml7_99 (c_X7_isMember hi hS1 hW hd hq) dX7_parentOf_8 ⟨by decide, by decide⟩ ⟨by decide, by decide⟩ rfl rfl (Nat.le_of_ble_eq_true rfl) (by first | assumption | decide) rfl rfl rfl (fun r8 h8 => ?_)
  refine j_if_eq G 23 dX7_parentOf_11 (by decide) (by omega) (fun c11 => ?_) (fun c11 => ?_)
  · refine j_aload_n G dX7_parentOf_23 rfl ?_
    refine j_iconst G dX7_parentOf_24 ?_
    refine j_cVIZ G cvX7_refuse ml7_85 (c_X7_refuse hi ) dX7_parentOf_25 ⟨by decide, by decide⟩ ⟨by decide, by decide⟩ rfl rfl (Nat.le_of_ble_eq_true rfl) (by first | assumption | decide) rfl rfl rfl (fun r25 Z25 h25 => ?_)
    refine jr_IZ G hQ hr dX7_parentOf_28 (by decide) (by decide) ?_
    try simp (config := { decide := true }) only [zS_k, zS_s, zS_j, ne_eq]
    first
    | exact Or.inl ⟨hdq, h17, rfl⟩
    | exact Or.inr ⟨by omega, h25.1, MTH.up h25.2⟩
  · have hdq : 0 ≤ d ∧ d < S 0 0 5 ∧ 0 ≤ q ∧ q < S 2 d 4 := by omega
    have hd0 : 0 ≤ d ∧ d < S 0 0 5 := by omega
    have hq0 : 0 ≤ q ∧ q < S 2 d 4 := by omega
    refine j_aload_n G dX7_parentOf_14 rfl ?_
    refine j_iload_n G dX7_parentOf_15 rfl ?_
    refine j_iload_n G dX7_parentOf_16 rfl ?_
    refine j_cVI G cvX7_parentNow ml7_106 (c_X7_parentNow hi hS1 hW hd0 hq0) dX7_parentOf_17 ⟨by decide, by decide⟩ ⟨by decide, by decide⟩ rfl rfl (Nat.le_of_ble_eq_true rfl) (by first | assumption | decide) rfl rfl rfl (fun r17 h17 => ?_)
    refine j_goto G 28 dX7_parentOf_20 (by decide) ?_
    refine jr_IZ G hQ hr dX7_parentOf_28 (by decide) (by decide) ?_
    try simp (config := { decide := true }) only [zS_k, zS_s, zS_j, ne_eq]
    first
    | exact Or.inl ⟨hdq, h17, rfl⟩
    | exact Or.inr ⟨by omega, h25.1, MTH.up h25.2⟩
set_option maxRecDepth 100000 in
set_option maxHeartbeats 8000000 in
theorem c_X7_levelOf {l : Launch} {D : va_G} {cys : Nat → ClassId} {ad : Nat → Int → Nat} {L : List Nat} {g : Nat → va_E} {X : Int64} {Z : ZT} (hi : injA ad) {S : ZT} {d q : Int} (hS : RMZ S Z) (hW : WF S) (hd : inR d) (hq : inR q) : CM l D cys ad yX7_levelOf cX7_levelOf 3 (some .int) 3 65 0 0 [.ref (ad 24 0), .int (iI d), .int (iI q)] L g X Z (PIZ L g X Z (fun r Z' => ((0 ≤ d ∧ d < S 0 0 5 ∧ 0 ≤ q ∧ q < S 2 d 4) ∧ r = S 4 d q ∧ MTH 0 Z Z') ∨ (¬ (0 ≤ d ∧ d < S 0 0 5 ∧ 0 ≤ q ∧ q < S 2 d 4) ∧ r = 0 ∧ MTH 1 Z Z'))) := by
  refine cm_start hi (by decide +kernel) (Nat.le_of_ble_eq_true rfl) ?_
  intro p_ e_ s_ m_ args_ below_ meth_ c_ A_ Q_ hQ G hr hin
  have hn := hW.n
  have hS1 := hS.th 0
  refine j_aload_n G dX7_levelOf_0 rfl ?_
  refine j_iconst G dX7_levelOf_1 ?_
  refine pf_24_0 G dX7_levelOf_2 lf7_52 (by first | assumption | decide) ?_
  refine j_aload_n G dX7_levelOf_5 rfl ?_
  refine j_iload_n G dX7_levelOf_6 rfl ?_
  refine j_iload_n G dX7_levelOf_7 rfl ?_
  refine j_cVI G cvX7_isMember ml7_99 (c_X7_isMember hi hS1 hW hd hq) dX7_levelOf_8 ⟨by decide, by decide⟩ ⟨by decide, by decide⟩ rfl rfl (Nat.le_of_ble_eq_true rfl) (by first | assumption | decide) rfl rfl rfl (fun r8 h8 => ?_)
  refine j_if_eq G 23 dX7_levelOf_11 (by decide) (by omega) (fun c11 => ?_) (fun c11 => ?_)
  · refine j_aload_n G dX7_levelOf_23 rfl ?_
    refine j_iconst G dX7_levelOf_24 ?_
    refine j_cVIZ G cvX7_refuse ml7_85 (c_X7_refuse hi ) dX7_levelOf_25 ⟨by decide, by decide⟩ ⟨by decide, by decide⟩ rfl rfl (Nat.le_of_ble_eq_true rfl) (by first | assumption | decide) rfl rfl rfl (fun r25 Z25 h25 => ?_)
    refine jr_IZ G hQ hr dX7_levelOf_28 (by decide) (by decide) ?_
    try simp (config := { decide := true }) only [zS_k, zS_s, zS_j, ne_eq]
    first
    | exact Or.inl ⟨hdq, h17, rfl⟩
    | exact Or.inr ⟨by omega, h25.1, MTH.up h25.2⟩
  · have hdq : 0 ≤ d ∧ d < S 0 0 5 ∧ 0 ≤ q ∧ q < S 2 d 4 := by omega
    have hd0 : 0 ≤ d ∧ d < S 0 0 5 := by omega
    have hq0 : 0 ≤ q ∧ q < S 2 d 4 := by omega
    refine j_aload_n G dX7_levelOf_14 rfl ?_
    refine j_iload_n G dX7_levelOf_15 rfl ?_
    refine j_iload_n G dX7_levelOf_16 rfl ?_
    refine j_cVI G cvX7_depth ml7_67 (c_X7_depth hi hS1 hW hd0 hq0) dX7_levelOf_17 ⟨by decide, by decide⟩ ⟨by decide, by decide⟩ rfl rfl (Nat.le_of_ble_eq_true rfl) (by first | assumption | decide) rfl rfl rfl (fun r17 h17 => ?_)
    refine j_goto G 28 dX7_levelOf_20 (by decide) ?_
    refine jr_IZ G hQ hr dX7_levelOf_28 (by decide) (by decide) ?_
    try simp (config := { decide := true }) only [zS_k, zS_s, zS_j, ne_eq]
    first
    | exact Or.inl ⟨hdq, h17, rfl⟩
    | exact Or.inr ⟨by omega, h25.1, MTH.up h25.2⟩
set_option maxRecDepth 100000 in
set_option maxHeartbeats 8000000 in
theorem c_X7_isView {l : Launch} {D : va_G} {cys : Nat → ClassId} {ad : Nat → Int → Nat} {L : List Nat} {g : Nat → va_E} {X : Int64} {Z : ZT} (hi : injA ad) {S : ZT} {q : Int} (hS : RMZ S Z) (hW : WF S) (hq : inR q) : CM l D cys ad yX7_isView cX7_isView 2 (some .boolean) 1 22 0 0 [.ref (ad 24 0), .int (iI q)] L g X Z (PIZ L g X Z (fun r Z' => ((0 ≤ q ∧ q < S 11 0 3) ∧ r = 1 ∧ MTH 0 Z Z') ∨ (¬ (0 ≤ q ∧ q < S 11 0 3) ∧ r = 0 ∧ MTH 1 Z Z'))) := by
  refine cm_start hi (by decide +kernel) (Nat.le_of_ble_eq_true rfl) ?_
  intro p_ e_ s_ m_ args_ below_ meth_ c_ A_ Q_ hQ G hr hin
  have hv := hW.v
  have e14 := hS.a.2.2.2.2
  have h0r : inR 0 := by decide
  have hbr : inR (Z 24 0 14 - 1) := by omega
  refine j_aload_n G dX7_isView_0 rfl ?_
  refine j_iload_n G dX7_isView_1 rfl ?_
  refine j_iconst G dX7_isView_2 ?_
  refine j_aload_n G dX7_isView_3 rfl ?_
  refine gf_24_14 G dX7_isView_4 lf7_92 (by first | assumption | decide) ?_
  refine j_iconst G dX7_isView_7 ?_
  refine j_isub G dX7_isView_8 ?_
  refine j_cSI G csX7_is ml7_59 rfl (c_X7_is hi hq h0r hbr) dX7_isView_9 ⟨by decide, by decide⟩ ⟨by decide, by decide⟩ rfl rfl (Nat.le_of_ble_eq_true rfl) (fun r9 h9 => ?_)
  refine j_if_eq G 19 dX7_isView_12 (by decide) (by omega) (fun c12 => ?_) (fun c12 => ?_)
  · refine j_iconst G dX7_isView_19 ?_
    refine pf_24_0 G dX7_isView_20 lf7_52 (by first | assumption | decide) ?_
    refine j_aload_n G dX7_isView_23 rfl ?_
    refine gf_24_0 G dX7_isView_24 lf7_52 (by first | assumption | decide) ?_
    try simp (config := { decide := true }) only [zS_k, zS_s, zS_j, ne_eq]
    refine j_if_ne G 34 dX7_isView_27 (by decide) (by omega) (fun c27 => ?_) (fun c27 => ?_)
    · refine j_iconst G dX7_isView_34 ?_
      refine jr_BZ G hQ hr dX7_isView_35 (by decide) (by decide) (by omega) ?_
      try simp (config := { decide := true }) only [zS_k, zS_s, zS_j, ne_eq]
      first
      | (exfalso; omega)
      | exact Or.inl ⟨by omega, by first | rfl | trivial, rfl⟩
      | exact Or.inr ⟨by omega, by first | rfl | trivial, rfl⟩
    · refine j_iconst G dX7_isView_30 ?_
      refine j_goto G 35 dX7_isView_31 (by decide) ?_
      refine jr_BZ G hQ hr dX7_isView_35 (by decide) (by decide) (by omega) ?_
      try simp (config := { decide := true }) only [zS_k, zS_s, zS_j, ne_eq]
      first
      | (exfalso; omega)
      | exact Or.inl ⟨by omega, by first | rfl | trivial, rfl⟩
      | exact Or.inr ⟨by omega, by first | rfl | trivial, rfl⟩
  · refine j_iconst G dX7_isView_15 ?_
    refine j_goto G 20 dX7_isView_16 (by decide) ?_
    refine pf_24_0 G dX7_isView_20 lf7_52 (by first | assumption | decide) ?_
    refine j_aload_n G dX7_isView_23 rfl ?_
    refine gf_24_0 G dX7_isView_24 lf7_52 (by first | assumption | decide) ?_
    try simp (config := { decide := true }) only [zS_k, zS_s, zS_j, ne_eq]
    refine j_if_ne G 34 dX7_isView_27 (by decide) (by omega) (fun c27 => ?_) (fun c27 => ?_)
    · refine j_iconst G dX7_isView_34 ?_
      refine jr_BZ G hQ hr dX7_isView_35 (by decide) (by decide) (by omega) ?_
      try simp (config := { decide := true }) only [zS_k, zS_s, zS_j, ne_eq]
      first
      | (exfalso; omega)
      | exact Or.inl ⟨by omega, by first | rfl | trivial, rfl⟩
      | exact Or.inr ⟨by omega, by first | rfl | trivial, rfl⟩
    · refine j_iconst G dX7_isView_30 ?_
      refine j_goto G 35 dX7_isView_31 (by decide) ?_
      refine jr_BZ G hQ hr dX7_isView_35 (by decide) (by decide) (by omega) ?_
      try simp (config := { decide := true }) only [zS_k, zS_s, zS_j, ne_eq]
      first
      | (exfalso; omega)
      | exact Or.inl ⟨by omega, by first | rfl | trivial, rfl⟩
      | exact Or.inr ⟨by omega, by first | rfl | trivial, rfl⟩
set_option maxRecDepth 100000 in
set_option maxHeartbeats 8000000 in
theorem c_X7_rowsOf {l : Launch} {D : va_G} {cys : Nat → ClassId} {ad : Nat → Int → Nat} {L : List Nat} {g : Nat → va_E} {X : Int64} {Z : ZT} (hi : injA ad) {S : ZT} {q : Int} (hS : RMZ S Z) (hW : WF S) (hq : inR q) : CM l D cys ad yX7_rowsOf cX7_rowsOf 2 (some .int) 2 43 0 0 [.ref (ad 24 0), .int (iI q)] L g X Z (PIZ L g X Z (fun r Z' => ((0 ≤ q ∧ q < S 11 0 3) ∧ r = S 13 0 q ∧ MTH 0 Z Z') ∨ (¬ (0 ≤ q ∧ q < S 11 0 3) ∧ r = 0 ∧ MTH 1 Z Z'))) := by
  refine cm_start hi (by decide +kernel) (Nat.le_of_ble_eq_true rfl) ?_
  intro p_ e_ s_ m_ args_ below_ meth_ c_ A_ Q_ hQ G hr hin
  have hv := hW.v
  refine j_aload_n G dX7_rowsOf_0 rfl ?_
  refine j_iload_n G dX7_rowsOf_1 rfl ?_
  refine j_cVIZ G cvX7_isView ml7_223 (c_X7_isView hi hS hW hq) dX7_rowsOf_2 ⟨by decide, by decide⟩ ⟨by decide, by decide⟩ rfl rfl (Nat.le_of_ble_eq_true rfl) (by first | assumption | decide) rfl rfl rfl (fun r2 Z2 h2 => ?_)
  have h2r : (r2 = 1 ∧ (0 ≤ q ∧ q < S 11 0 3) ∧ MTH 0 Z Z2) ∨ (r2 = 0 ∧ ¬ (0 ≤ q ∧ q < S 11 0 3) ∧ MTH 1 Z Z2) := by
    rcases h2 with z | z
    · exact Or.inl ⟨z.2.1, z.1, z.2.2⟩
    · exact Or.inr ⟨z.2.1, z.1, z.2.2⟩
  clear h2
  refine j_if_eq G 17 dX7_rowsOf_5 (by decide) (by omega) (fun c5 => ?_) (fun c5 => ?_)
  · refine j_iconst G dX7_rowsOf_17 ?_
    refine jr_IZ G hQ hr dX7_rowsOf_18 (by decide) (by decide) ?_
    first
    | (exact Or.inl ⟨hq0, by rw [show Z2 = zS Z 24 0 0 0 from hm, zS_k (by decide)]; exact (hS.w hq0.1 hq0.2).2.1, hm⟩)
    | (rcases h2r with z | z
       · exfalso; omega
       · exact Or.inr ⟨z.2.1, rfl, z.2.2⟩)
  · have hq0 : 0 ≤ q ∧ q < S 11 0 3 := by omega
    have hm : MTH 0 Z Z2 := h2r.elim (fun z => z.2.2) (fun z => absurd hq0 z.2.1)
    refine j_aload_n G dX7_rowsOf_8 rfl ?_
    refine gf_24_16 G dX7_rowsOf_9 lf7_45 (by first | assumption | decide) ?_
    refine j_iload_n G dX7_rowsOf_12 rfl ?_
    refine al_37 G dX7_rowsOf_13 (by first | assumption | decide) (by omega) (by omega) ?_
    refine j_goto G 18 dX7_rowsOf_14 (by decide) ?_
    refine jr_IZ G hQ hr dX7_rowsOf_18 (by decide) (by decide) ?_
    first
    | (exact Or.inl ⟨hq0, by rw [show Z2 = zS Z 24 0 0 0 from hm, zS_k (by decide)]; exact (hS.w hq0.1 hq0.2).2.1, hm⟩)
    | (rcases h2r with z | z
       · exfalso; omega
       · exact Or.inr ⟨z.2.1, rfl, z.2.2⟩)
set_option maxRecDepth 100000 in
set_option maxHeartbeats 8000000 in
theorem c_X7_isStale {l : Launch} {D : va_G} {cys : Nat → ClassId} {ad : Nat → Int → Nat} {L : List Nat} {g : Nat → va_E} {X : Int64} {Z : ZT} (hi : injA ad) {S : ZT} {q : Int} (hS : RMZ S Z) (hW : WF S) (hq : inR q) : CM l D cys ad yX7_isStale cX7_isStale 2 (some .boolean) 2 43 0 0 [.ref (ad 24 0), .int (iI q)] L g X Z (PIZ L g X Z (fun r Z' => ((0 ≤ q ∧ q < S 11 0 3) ∧ r = S 14 0 q ∧ MTH 0 Z Z') ∨ (¬ (0 ≤ q ∧ q < S 11 0 3) ∧ r = 0 ∧ MTH 1 Z Z'))) := by
  refine cm_start hi (by decide +kernel) (Nat.le_of_ble_eq_true rfl) ?_
  intro p_ e_ s_ m_ args_ below_ meth_ c_ A_ Q_ hQ G hr hin
  have hv := hW.v
  refine j_aload_n G dX7_isStale_0 rfl ?_
  refine j_iload_n G dX7_isStale_1 rfl ?_
  refine j_cVIZ G cvX7_isView ml7_223 (c_X7_isView hi hS hW hq) dX7_isStale_2 ⟨by decide, by decide⟩ ⟨by decide, by decide⟩ rfl rfl (Nat.le_of_ble_eq_true rfl) (by first | assumption | decide) rfl rfl rfl (fun r2 Z2 h2 => ?_)
  have h2r : (r2 = 1 ∧ (0 ≤ q ∧ q < S 11 0 3) ∧ MTH 0 Z Z2) ∨ (r2 = 0 ∧ ¬ (0 ≤ q ∧ q < S 11 0 3) ∧ MTH 1 Z Z2) := by
    rcases h2 with z | z
    · exact Or.inl ⟨z.2.1, z.1, z.2.2⟩
    · exact Or.inr ⟨z.2.1, z.1, z.2.2⟩
  clear h2
  refine j_if_eq G 21 dX7_isStale_5 (by decide) (by omega) (fun c5 => ?_) (fun c5 => ?_)
  · refine j_iconst G dX7_isStale_21 ?_
    refine jr_BZ G hQ hr dX7_isStale_22 (by decide) (by decide) (by omega) ?_
    first
    | (exact Or.inl ⟨hq0, by omega, hm⟩)
    | (rcases h2r with z | z
       · exfalso; omega
       · exact Or.inr ⟨z.2.1, rfl, z.2.2⟩)
  · have hq0 : 0 ≤ q ∧ q < S 11 0 3 := by omega
    have hm : MTH 0 Z Z2 := h2r.elim (fun z => z.2.2) (fun z => absurd hq0 z.2.1)
    have e38 : Z2 38 0 q = S 14 0 q := by rw [show Z2 = zS Z 24 0 0 0 from hm, zS_k (by decide)]; exact (hS.w hq0.1 hq0.2).2.2
    have hst := hW.st hq0.1 (by omega : q < 6)
    refine j_aload_n G dX7_isStale_8 rfl ?_
    refine gf_24_17 G dX7_isStale_9 lf7_48 (by first | assumption | decide) ?_
    refine j_iload_n G dX7_isStale_12 rfl ?_
    refine al_38 G dX7_isStale_13 (by first | assumption | decide) (by omega) (by omega) ?_
    rw [e38]
    refine j_if_eq G 21 dX7_isStale_14 (by decide) (by omega) (fun c14 => ?_) (fun c14 => ?_)
    · refine j_iconst G dX7_isStale_21 ?_
      refine jr_BZ G hQ hr dX7_isStale_22 (by decide) (by decide) (by omega) ?_
      first
      | (exact Or.inl ⟨hq0, by omega, hm⟩)
      | (rcases h2r with z | z
         · exfalso; omega
         · exact Or.inr ⟨z.2.1, rfl, z.2.2⟩)
    · refine j_iconst G dX7_isStale_17 ?_
      refine j_goto G 22 dX7_isStale_18 (by decide) ?_
      refine jr_BZ G hQ hr dX7_isStale_22 (by decide) (by decide) (by omega) ?_
      first
      | (exact Or.inl ⟨hq0, by omega, hm⟩)
      | (rcases h2r with z | z
         · exfalso; omega
         · exact Or.inr ⟨z.2.1, rfl, z.2.2⟩)
set_option maxRecDepth 100000 in
set_option maxHeartbeats 8000000 in
theorem c_X7_setBare {l : Launch} {D : va_G} {cys : Nat → ClassId} {ad : Nat → Int → Nat} {L : List Nat} {g : Nat → va_E} {X : Int64} {Z : ZT} (hi : injA ad) {S : ZT} {b : Int} (hS : RMZ S Z) (hW : WF S) (hb : b = 0 ∨ b = 1) : CM l D cys ad yX7_setBare cX7_setBare 3 (some .boolean) 0 0 0 0 [.ref (ad 24 0), .int (iI b)] L g X Z (PIZ L g X Z (fun r Z' => r = S 0 0 8 ∧ Z' = zS (zS Z 24 0 0 0) 24 0 13 b)) := by
  refine cm_start hi (by decide +kernel) (Nat.le_of_ble_eq_true rfl) ?_
  intro p_ e_ s_ m_ args_ below_ meth_ c_ A_ Q_ hQ G hr hin
  have e13 := hS.a.2.2.2.1
  have hba := hW.ba
  refine j_aload_n G dX7_setBare_0 rfl ?_
  refine j_iconst G dX7_setBare_1 ?_
  refine pf_24_0 G dX7_setBare_2 lf7_52 (by first | assumption | decide) ?_
  refine j_aload_n G dX7_setBare_5 rfl ?_
  refine gf_24_13 G dX7_setBare_6 lf7_168 (by first | assumption | decide) ?_
  try simp (config := { decide := true }) only [zS_k, zS_s, zS_j, ne_eq]
  refine j_istore_n G dX7_setBare_9 (by decide) rfl ?_
  refine j_aload_n G dX7_setBare_10 rfl ?_
  refine j_iload_n G dX7_setBare_11 rfl ?_
  refine pf_24_13 G dX7_setBare_12 lf7_168 (by first | assumption | decide) (by omega) ?_
  refine j_iload_n G dX7_setBare_15 rfl ?_
  refine jr_BZ G hQ hr dX7_setBare_16 (by decide) (by decide) (by omega) ?_
  try simp (config := { decide := true }) only [zS_k, zS_s, zS_j, ne_eq]
  exact ⟨e13, by first | rfl | trivial⟩
set_option maxRecDepth 100000 in
set_option maxHeartbeats 8000000 in
theorem c_X7_canLay {l : Launch} {D : va_G} {cys : Nat → ClassId} {ad : Nat → Int → Nat} {L : List Nat} {g : Nat → va_E} {X : Int64} {Z : ZT} (hi : injA ad) {S : ZT} (hS : RMZ S Z) (hW : WF S) : CM l D cys ad yX7_canLay cX7_canLay 1 (some .boolean) 0 0 0 0 [.ref (ad 24 0)] L g X Z (PIZ L g X Z (fun r Z' => (S 0 0 7 = 1 ∧ r = 1 ∧ MTH 0 Z Z') ∨ (S 0 0 7 ≠ 1 ∧ r = 0 ∧ MTH 1 Z Z'))) := by
  refine cm_start hi (by decide +kernel) (Nat.le_of_ble_eq_true rfl) ?_
  intro p_ e_ s_ m_ args_ below_ meth_ c_ A_ Q_ hQ G hr hin
  have e11 := hS.a.2.2.1
  have hax := hW.ax
  refine j_aload_n G dX7_canLay_0 rfl ?_
  refine j_aload_n G dX7_canLay_1 rfl ?_
  refine gf_24_11 G dX7_canLay_2 lf7_95 (by first | assumption | decide) ?_
  refine j_if_eq G 12 dX7_canLay_5 (by decide) (by omega) (fun c5 => ?_) (fun c5 => ?_)
  · refine j_iconst G dX7_canLay_12 ?_
    refine pf_24_0 G dX7_canLay_13 lf7_52 (by first | assumption | decide) ?_
    refine j_aload_n G dX7_canLay_16 rfl ?_
    refine gf_24_11 G dX7_canLay_17 lf7_95 (by first | assumption | decide) ?_
    try simp (config := { decide := true }) only [zS_k, zS_s, zS_j, ne_eq]
    refine jr_BZ G hQ hr dX7_canLay_20 (by decide) (by decide) (by omega) ?_
    try simp (config := { decide := true }) only [zS_k, zS_s, zS_j, ne_eq]
    first
    | exact Or.inl ⟨by omega, by omega, rfl⟩
    | exact Or.inr ⟨by omega, by omega, rfl⟩
  · refine j_iconst G dX7_canLay_8 ?_
    refine j_goto G 13 dX7_canLay_9 (by decide) ?_
    refine pf_24_0 G dX7_canLay_13 lf7_52 (by first | assumption | decide) ?_
    refine j_aload_n G dX7_canLay_16 rfl ?_
    refine gf_24_11 G dX7_canLay_17 lf7_95 (by first | assumption | decide) ?_
    try simp (config := { decide := true }) only [zS_k, zS_s, zS_j, ne_eq]
    refine jr_BZ G hQ hr dX7_canLay_20 (by decide) (by decide) (by omega) ?_
    try simp (config := { decide := true }) only [zS_k, zS_s, zS_j, ne_eq]
    first
    | exact Or.inl ⟨by omega, by omega, rfl⟩
    | exact Or.inr ⟨by omega, by omega, rfl⟩

