/-! by program: wip/whole/genw.py: the law's own methods -/
theorem dL_addDimension_0 : decode cL_addDimension 0 = .ok (.aload_n 2, 1) := by decide +kernel
theorem dL_addDimension_1 : decode cL_addDimension 1 = .ok (.iconst 0, 1) := by decide +kernel
theorem dL_addDimension_2 : decode cL_addDimension 2 = .ok (.aload_n 0, 1) := by decide +kernel
theorem dL_addDimension_3 : decode cL_addDimension 3 = .ok (.iload_n 1, 1) := by decide +kernel
theorem dL_addDimension_4 : decode cL_addDimension 4 = .ok (.invokevirtual 7, 3) := by decide +kernel
theorem dL_addDimension_7 : decode cL_addDimension 7 = .ok (.i2l, 1) := by decide +kernel
theorem dL_addDimension_8 : decode cL_addDimension 8 = .ok (.lastore, 1) := by decide +kernel
theorem dL_addDimension_9 : decode cL_addDimension 9 = .ok (.goto 9, 3) := by decide +kernel
theorem dL_addDimension_12 : decode cL_addDimension 12 = .ok (.astore_n 3, 1) := by decide +kernel
theorem dL_addDimension_13 : decode cL_addDimension 13 = .ok (.iconst 1, 1) := by decide +kernel
theorem dL_addDimension_14 : decode cL_addDimension 14 = .ok (.ireturn, 1) := by decide +kernel
theorem dL_addDimension_15 : decode cL_addDimension 15 = .ok (.astore_n 3, 1) := by decide +kernel
theorem dL_addDimension_16 : decode cL_addDimension 16 = .ok (.iconst 2, 1) := by decide +kernel
theorem dL_addDimension_17 : decode cL_addDimension 17 = .ok (.ireturn, 1) := by decide +kernel
theorem dL_addDimension_18 : decode cL_addDimension 18 = .ok (.iconst 0, 1) := by decide +kernel
theorem dL_addDimension_19 : decode cL_addDimension 19 = .ok (.ireturn, 1) := by decide +kernel
theorem dL_addMember_0 : decode cL_addMember 0 = .ok (.aload_n 3, 1) := by decide +kernel
theorem dL_addMember_1 : decode cL_addMember 1 = .ok (.iconst 0, 1) := by decide +kernel
theorem dL_addMember_2 : decode cL_addMember 2 = .ok (.aload_n 0, 1) := by decide +kernel
theorem dL_addMember_3 : decode cL_addMember 3 = .ok (.iload_n 1, 1) := by decide +kernel
theorem dL_addMember_4 : decode cL_addMember 4 = .ok (.iload_n 2, 1) := by decide +kernel
theorem dL_addMember_5 : decode cL_addMember 5 = .ok (.invokevirtual 17, 3) := by decide +kernel
theorem dL_addMember_8 : decode cL_addMember 8 = .ok (.i2l, 1) := by decide +kernel
theorem dL_addMember_9 : decode cL_addMember 9 = .ok (.lastore, 1) := by decide +kernel
theorem dL_addMember_10 : decode cL_addMember 10 = .ok (.goto 11, 3) := by decide +kernel
theorem dL_addMember_13 : decode cL_addMember 13 = .ok (.astore 4, 2) := by decide +kernel
theorem dL_addMember_15 : decode cL_addMember 15 = .ok (.iconst 1, 1) := by decide +kernel
theorem dL_addMember_16 : decode cL_addMember 16 = .ok (.ireturn, 1) := by decide +kernel
theorem dL_addMember_17 : decode cL_addMember 17 = .ok (.astore 4, 2) := by decide +kernel
theorem dL_addMember_19 : decode cL_addMember 19 = .ok (.iconst 2, 1) := by decide +kernel
theorem dL_addMember_20 : decode cL_addMember 20 = .ok (.ireturn, 1) := by decide +kernel
theorem dL_addMember_21 : decode cL_addMember 21 = .ok (.iconst 0, 1) := by decide +kernel
theorem dL_addMember_22 : decode cL_addMember 22 = .ok (.ireturn, 1) := by decide +kernel
theorem dL_move_0 : decode cL_move 0 = .ok (.aload 4, 2) := by decide +kernel
theorem dL_move_2 : decode cL_move 2 = .ok (.iconst 0, 1) := by decide +kernel
theorem dL_move_3 : decode cL_move 3 = .ok (.aload_n 0, 1) := by decide +kernel
theorem dL_move_4 : decode cL_move 4 = .ok (.iload_n 1, 1) := by decide +kernel
theorem dL_move_5 : decode cL_move 5 = .ok (.iload_n 2, 1) := by decide +kernel
theorem dL_move_6 : decode cL_move 6 = .ok (.iload_n 3, 1) := by decide +kernel
theorem dL_move_7 : decode cL_move 7 = .ok (.invokevirtual 23, 3) := by decide +kernel
theorem dL_move_10 : decode cL_move 10 = .ok (.i2l, 1) := by decide +kernel
theorem dL_move_11 : decode cL_move 11 = .ok (.lastore, 1) := by decide +kernel
theorem dL_move_12 : decode cL_move 12 = .ok (.goto 11, 3) := by decide +kernel
theorem dL_move_15 : decode cL_move 15 = .ok (.astore 5, 2) := by decide +kernel
theorem dL_move_17 : decode cL_move 17 = .ok (.iconst 1, 1) := by decide +kernel
theorem dL_move_18 : decode cL_move 18 = .ok (.ireturn, 1) := by decide +kernel
theorem dL_move_19 : decode cL_move 19 = .ok (.astore 5, 2) := by decide +kernel
theorem dL_move_21 : decode cL_move 21 = .ok (.iconst 2, 1) := by decide +kernel
theorem dL_move_22 : decode cL_move 22 = .ok (.ireturn, 1) := by decide +kernel
theorem dL_move_23 : decode cL_move 23 = .ok (.iconst 0, 1) := by decide +kernel
theorem dL_move_24 : decode cL_move 24 = .ok (.ireturn, 1) := by decide +kernel
theorem dL_members_0 : decode cL_members 0 = .ok (.aload_n 2, 1) := by decide +kernel
theorem dL_members_1 : decode cL_members 1 = .ok (.iconst 0, 1) := by decide +kernel
theorem dL_members_2 : decode cL_members 2 = .ok (.aload_n 0, 1) := by decide +kernel
theorem dL_members_3 : decode cL_members 3 = .ok (.iload_n 1, 1) := by decide +kernel
theorem dL_members_4 : decode cL_members 4 = .ok (.invokevirtual 27, 3) := by decide +kernel
theorem dL_members_7 : decode cL_members 7 = .ok (.i2l, 1) := by decide +kernel
theorem dL_members_8 : decode cL_members 8 = .ok (.lastore, 1) := by decide +kernel
theorem dL_members_9 : decode cL_members 9 = .ok (.goto 6, 3) := by decide +kernel
theorem dL_members_12 : decode cL_members 12 = .ok (.astore_n 3, 1) := by decide +kernel
theorem dL_members_13 : decode cL_members 13 = .ok (.iconst 1, 1) := by decide +kernel
theorem dL_members_14 : decode cL_members 14 = .ok (.ireturn, 1) := by decide +kernel
theorem dL_members_15 : decode cL_members 15 = .ok (.iconst 0, 1) := by decide +kernel
theorem dL_members_16 : decode cL_members 16 = .ok (.ireturn, 1) := by decide +kernel
theorem dL_parentOf_0 : decode cL_parentOf 0 = .ok (.aload_n 3, 1) := by decide +kernel
theorem dL_parentOf_1 : decode cL_parentOf 1 = .ok (.iconst 0, 1) := by decide +kernel
theorem dL_parentOf_2 : decode cL_parentOf 2 = .ok (.aload_n 0, 1) := by decide +kernel
theorem dL_parentOf_3 : decode cL_parentOf 3 = .ok (.iload_n 1, 1) := by decide +kernel
theorem dL_parentOf_4 : decode cL_parentOf 4 = .ok (.iload_n 2, 1) := by decide +kernel
theorem dL_parentOf_5 : decode cL_parentOf 5 = .ok (.invokevirtual 30, 3) := by decide +kernel
theorem dL_parentOf_8 : decode cL_parentOf 8 = .ok (.i2l, 1) := by decide +kernel
theorem dL_parentOf_9 : decode cL_parentOf 9 = .ok (.lastore, 1) := by decide +kernel
theorem dL_parentOf_10 : decode cL_parentOf 10 = .ok (.goto 7, 3) := by decide +kernel
theorem dL_parentOf_13 : decode cL_parentOf 13 = .ok (.astore 4, 2) := by decide +kernel
theorem dL_parentOf_15 : decode cL_parentOf 15 = .ok (.iconst 1, 1) := by decide +kernel
theorem dL_parentOf_16 : decode cL_parentOf 16 = .ok (.ireturn, 1) := by decide +kernel
theorem dL_parentOf_17 : decode cL_parentOf 17 = .ok (.iconst 0, 1) := by decide +kernel
theorem dL_parentOf_18 : decode cL_parentOf 18 = .ok (.ireturn, 1) := by decide +kernel
theorem dL_levelOf_0 : decode cL_levelOf 0 = .ok (.aload_n 3, 1) := by decide +kernel
theorem dL_levelOf_1 : decode cL_levelOf 1 = .ok (.iconst 0, 1) := by decide +kernel
theorem dL_levelOf_2 : decode cL_levelOf 2 = .ok (.aload_n 0, 1) := by decide +kernel
theorem dL_levelOf_3 : decode cL_levelOf 3 = .ok (.iload_n 1, 1) := by decide +kernel
theorem dL_levelOf_4 : decode cL_levelOf 4 = .ok (.iload_n 2, 1) := by decide +kernel
theorem dL_levelOf_5 : decode cL_levelOf 5 = .ok (.invokevirtual 33, 3) := by decide +kernel
theorem dL_levelOf_8 : decode cL_levelOf 8 = .ok (.i2l, 1) := by decide +kernel
theorem dL_levelOf_9 : decode cL_levelOf 9 = .ok (.lastore, 1) := by decide +kernel
theorem dL_levelOf_10 : decode cL_levelOf 10 = .ok (.goto 7, 3) := by decide +kernel
theorem dL_levelOf_13 : decode cL_levelOf 13 = .ok (.astore 4, 2) := by decide +kernel
theorem dL_levelOf_15 : decode cL_levelOf 15 = .ok (.iconst 1, 1) := by decide +kernel
theorem dL_levelOf_16 : decode cL_levelOf 16 = .ok (.ireturn, 1) := by decide +kernel
theorem dL_levelOf_17 : decode cL_levelOf 17 = .ok (.iconst 0, 1) := by decide +kernel
theorem dL_levelOf_18 : decode cL_levelOf 18 = .ok (.ireturn, 1) := by decide +kernel
theorem dL_memberAt_0 : decode cL_memberAt 0 = .ok (.aload 4, 2) := by decide +kernel
theorem dL_memberAt_2 : decode cL_memberAt 2 = .ok (.iconst 0, 1) := by decide +kernel
theorem dL_memberAt_3 : decode cL_memberAt 3 = .ok (.aload_n 0, 1) := by decide +kernel
theorem dL_memberAt_4 : decode cL_memberAt 4 = .ok (.iload_n 1, 1) := by decide +kernel
theorem dL_memberAt_5 : decode cL_memberAt 5 = .ok (.iload_n 2, 1) := by decide +kernel
theorem dL_memberAt_6 : decode cL_memberAt 6 = .ok (.iload_n 3, 1) := by decide +kernel
theorem dL_memberAt_7 : decode cL_memberAt 7 = .ok (.invokevirtual 36, 3) := by decide +kernel
theorem dL_memberAt_10 : decode cL_memberAt 10 = .ok (.i2l, 1) := by decide +kernel
theorem dL_memberAt_11 : decode cL_memberAt 11 = .ok (.lastore, 1) := by decide +kernel
theorem dL_memberAt_12 : decode cL_memberAt 12 = .ok (.goto 7, 3) := by decide +kernel
theorem dL_memberAt_15 : decode cL_memberAt 15 = .ok (.astore 5, 2) := by decide +kernel
theorem dL_memberAt_17 : decode cL_memberAt 17 = .ok (.iconst 1, 1) := by decide +kernel
theorem dL_memberAt_18 : decode cL_memberAt 18 = .ok (.ireturn, 1) := by decide +kernel
theorem dL_memberAt_19 : decode cL_memberAt 19 = .ok (.iconst 0, 1) := by decide +kernel
theorem dL_memberAt_20 : decode cL_memberAt 20 = .ok (.ireturn, 1) := by decide +kernel
theorem dL_leaveOut_0 : decode cL_leaveOut 0 = .ok (.aload 4, 2) := by decide +kernel
theorem dL_leaveOut_2 : decode cL_leaveOut 2 = .ok (.iconst 0, 1) := by decide +kernel
theorem dL_leaveOut_3 : decode cL_leaveOut 3 = .ok (.aload_n 0, 1) := by decide +kernel
theorem dL_leaveOut_4 : decode cL_leaveOut 4 = .ok (.iload_n 1, 1) := by decide +kernel
theorem dL_leaveOut_5 : decode cL_leaveOut 5 = .ok (.iload_n 2, 1) := by decide +kernel
theorem dL_leaveOut_6 : decode cL_leaveOut 6 = .ok (.iload_n 3, 1) := by decide +kernel
theorem dL_leaveOut_7 : decode cL_leaveOut 7 = .ok (.invokevirtual 39, 3) := by decide +kernel
theorem dL_leaveOut_10 : decode cL_leaveOut 10 = .ok (.ifCond .eq 7, 3) := by decide +kernel
theorem dL_leaveOut_13 : decode cL_leaveOut 13 = .ok (.lconst 1, 1) := by decide +kernel
theorem dL_leaveOut_14 : decode cL_leaveOut 14 = .ok (.goto 4, 3) := by decide +kernel
theorem dL_leaveOut_17 : decode cL_leaveOut 17 = .ok (.lconst 0, 1) := by decide +kernel
theorem dL_leaveOut_18 : decode cL_leaveOut 18 = .ok (.lastore, 1) := by decide +kernel
theorem dL_leaveOut_19 : decode cL_leaveOut 19 = .ok (.goto 7, 3) := by decide +kernel
theorem dL_leaveOut_22 : decode cL_leaveOut 22 = .ok (.astore 5, 2) := by decide +kernel
theorem dL_leaveOut_24 : decode cL_leaveOut 24 = .ok (.iconst 1, 1) := by decide +kernel
theorem dL_leaveOut_25 : decode cL_leaveOut 25 = .ok (.ireturn, 1) := by decide +kernel
theorem dL_leaveOut_26 : decode cL_leaveOut 26 = .ok (.iconst 0, 1) := by decide +kernel
theorem dL_leaveOut_27 : decode cL_leaveOut 27 = .ok (.ireturn, 1) := by decide +kernel
theorem dL_goTo_0 : decode cL_goTo 0 = .ok (.aload_n 3, 1) := by decide +kernel
theorem dL_goTo_1 : decode cL_goTo 1 = .ok (.iconst 0, 1) := by decide +kernel
theorem dL_goTo_2 : decode cL_goTo 2 = .ok (.aload_n 0, 1) := by decide +kernel
theorem dL_goTo_3 : decode cL_goTo 3 = .ok (.iload_n 1, 1) := by decide +kernel
theorem dL_goTo_4 : decode cL_goTo 4 = .ok (.iload_n 2, 1) := by decide +kernel
theorem dL_goTo_5 : decode cL_goTo 5 = .ok (.invokevirtual 43, 3) := by decide +kernel
theorem dL_goTo_8 : decode cL_goTo 8 = .ok (.i2l, 1) := by decide +kernel
theorem dL_goTo_9 : decode cL_goTo 9 = .ok (.lastore, 1) := by decide +kernel
theorem dL_goTo_10 : decode cL_goTo 10 = .ok (.goto 7, 3) := by decide +kernel
theorem dL_goTo_13 : decode cL_goTo 13 = .ok (.astore 4, 2) := by decide +kernel
theorem dL_goTo_15 : decode cL_goTo 15 = .ok (.iconst 1, 1) := by decide +kernel
theorem dL_goTo_16 : decode cL_goTo 16 = .ok (.ireturn, 1) := by decide +kernel
theorem dL_goTo_17 : decode cL_goTo 17 = .ok (.iconst 0, 1) := by decide +kernel
theorem dL_goTo_18 : decode cL_goTo 18 = .ok (.ireturn, 1) := by decide +kernel
theorem dL_goUp_0 : decode cL_goUp 0 = .ok (.aload_n 2, 1) := by decide +kernel
theorem dL_goUp_1 : decode cL_goUp 1 = .ok (.iconst 0, 1) := by decide +kernel
theorem dL_goUp_2 : decode cL_goUp 2 = .ok (.aload_n 0, 1) := by decide +kernel
theorem dL_goUp_3 : decode cL_goUp 3 = .ok (.iload_n 1, 1) := by decide +kernel
theorem dL_goUp_4 : decode cL_goUp 4 = .ok (.invokevirtual 46, 3) := by decide +kernel
theorem dL_goUp_7 : decode cL_goUp 7 = .ok (.i2l, 1) := by decide +kernel
theorem dL_goUp_8 : decode cL_goUp 8 = .ok (.lastore, 1) := by decide +kernel
theorem dL_goUp_9 : decode cL_goUp 9 = .ok (.goto 6, 3) := by decide +kernel
theorem dL_goUp_12 : decode cL_goUp 12 = .ok (.astore_n 3, 1) := by decide +kernel
theorem dL_goUp_13 : decode cL_goUp 13 = .ok (.iconst 1, 1) := by decide +kernel
theorem dL_goUp_14 : decode cL_goUp 14 = .ok (.ireturn, 1) := by decide +kernel
theorem dL_goUp_15 : decode cL_goUp 15 = .ok (.iconst 0, 1) := by decide +kernel
theorem dL_goUp_16 : decode cL_goUp 16 = .ok (.ireturn, 1) := by decide +kernel
theorem dL_pointOf_0 : decode cL_pointOf 0 = .ok (.aload_n 2, 1) := by decide +kernel
theorem dL_pointOf_1 : decode cL_pointOf 1 = .ok (.iconst 0, 1) := by decide +kernel
theorem dL_pointOf_2 : decode cL_pointOf 2 = .ok (.aload_n 0, 1) := by decide +kernel
theorem dL_pointOf_3 : decode cL_pointOf 3 = .ok (.iload_n 1, 1) := by decide +kernel
theorem dL_pointOf_4 : decode cL_pointOf 4 = .ok (.invokevirtual 49, 3) := by decide +kernel
theorem dL_pointOf_7 : decode cL_pointOf 7 = .ok (.i2l, 1) := by decide +kernel
theorem dL_pointOf_8 : decode cL_pointOf 8 = .ok (.lastore, 1) := by decide +kernel
theorem dL_pointOf_9 : decode cL_pointOf 9 = .ok (.goto 6, 3) := by decide +kernel
theorem dL_pointOf_12 : decode cL_pointOf 12 = .ok (.astore_n 3, 1) := by decide +kernel
theorem dL_pointOf_13 : decode cL_pointOf 13 = .ok (.iconst 1, 1) := by decide +kernel
theorem dL_pointOf_14 : decode cL_pointOf 14 = .ok (.ireturn, 1) := by decide +kernel
theorem dL_pointOf_15 : decode cL_pointOf 15 = .ok (.iconst 0, 1) := by decide +kernel
theorem dL_pointOf_16 : decode cL_pointOf 16 = .ok (.ireturn, 1) := by decide +kernel
theorem dL_add_0 : decode cL_add 0 = .ok (.aload_n 2, 1) := by decide +kernel
theorem dL_add_1 : decode cL_add 1 = .ok (.iconst 0, 1) := by decide +kernel
theorem dL_add_2 : decode cL_add 2 = .ok (.aload_n 0, 1) := by decide +kernel
theorem dL_add_3 : decode cL_add 3 = .ok (.iload_n 1, 1) := by decide +kernel
theorem dL_add_4 : decode cL_add 4 = .ok (.invokevirtual 52, 3) := by decide +kernel
theorem dL_add_7 : decode cL_add 7 = .ok (.i2l, 1) := by decide +kernel
theorem dL_add_8 : decode cL_add 8 = .ok (.lastore, 1) := by decide +kernel
theorem dL_add_9 : decode cL_add 9 = .ok (.goto 9, 3) := by decide +kernel
theorem dL_add_12 : decode cL_add 12 = .ok (.astore_n 3, 1) := by decide +kernel
theorem dL_add_13 : decode cL_add 13 = .ok (.iconst 1, 1) := by decide +kernel
theorem dL_add_14 : decode cL_add 14 = .ok (.ireturn, 1) := by decide +kernel
theorem dL_add_15 : decode cL_add 15 = .ok (.astore_n 3, 1) := by decide +kernel
theorem dL_add_16 : decode cL_add 16 = .ok (.iconst 2, 1) := by decide +kernel
theorem dL_add_17 : decode cL_add 17 = .ok (.ireturn, 1) := by decide +kernel
theorem dL_add_18 : decode cL_add 18 = .ok (.iconst 0, 1) := by decide +kernel
theorem dL_add_19 : decode cL_add 19 = .ok (.ireturn, 1) := by decide +kernel
theorem dL_drop_0 : decode cL_drop 0 = .ok (.aload_n 2, 1) := by decide +kernel
theorem dL_drop_1 : decode cL_drop 1 = .ok (.iconst 0, 1) := by decide +kernel
theorem dL_drop_2 : decode cL_drop 2 = .ok (.aload_n 0, 1) := by decide +kernel
theorem dL_drop_3 : decode cL_drop 3 = .ok (.iload_n 1, 1) := by decide +kernel
theorem dL_drop_4 : decode cL_drop 4 = .ok (.invokevirtual 55, 3) := by decide +kernel
theorem dL_drop_7 : decode cL_drop 7 = .ok (.i2l, 1) := by decide +kernel
theorem dL_drop_8 : decode cL_drop 8 = .ok (.lastore, 1) := by decide +kernel
theorem dL_drop_9 : decode cL_drop 9 = .ok (.goto 6, 3) := by decide +kernel
theorem dL_drop_12 : decode cL_drop 12 = .ok (.astore_n 3, 1) := by decide +kernel
theorem dL_drop_13 : decode cL_drop 13 = .ok (.iconst 1, 1) := by decide +kernel
theorem dL_drop_14 : decode cL_drop 14 = .ok (.ireturn, 1) := by decide +kernel
theorem dL_drop_15 : decode cL_drop 15 = .ok (.iconst 0, 1) := by decide +kernel
theorem dL_drop_16 : decode cL_drop 16 = .ok (.ireturn, 1) := by decide +kernel
theorem dL_children_0 : decode cL_children 0 = .ok (.aload_n 2, 1) := by decide +kernel
theorem dL_children_1 : decode cL_children 1 = .ok (.iconst 0, 1) := by decide +kernel
theorem dL_children_2 : decode cL_children 2 = .ok (.aload_n 0, 1) := by decide +kernel
theorem dL_children_3 : decode cL_children 3 = .ok (.iload_n 1, 1) := by decide +kernel
theorem dL_children_4 : decode cL_children 4 = .ok (.invokevirtual 58, 3) := by decide +kernel
theorem dL_children_7 : decode cL_children 7 = .ok (.i2l, 1) := by decide +kernel
theorem dL_children_8 : decode cL_children 8 = .ok (.lastore, 1) := by decide +kernel
theorem dL_children_9 : decode cL_children 9 = .ok (.goto 6, 3) := by decide +kernel
theorem dL_children_12 : decode cL_children 12 = .ok (.astore_n 3, 1) := by decide +kernel
theorem dL_children_13 : decode cL_children 13 = .ok (.iconst 1, 1) := by decide +kernel
theorem dL_children_14 : decode cL_children 14 = .ok (.ireturn, 1) := by decide +kernel
theorem dL_children_15 : decode cL_children 15 = .ok (.iconst 0, 1) := by decide +kernel
theorem dL_children_16 : decode cL_children 16 = .ok (.ireturn, 1) := by decide +kernel
theorem dL_sumOf_0 : decode cL_sumOf 0 = .ok (.aload_n 3, 1) := by decide +kernel
theorem dL_sumOf_1 : decode cL_sumOf 1 = .ok (.iconst 0, 1) := by decide +kernel
theorem dL_sumOf_2 : decode cL_sumOf 2 = .ok (.aload_n 0, 1) := by decide +kernel
theorem dL_sumOf_3 : decode cL_sumOf 3 = .ok (.iload_n 1, 1) := by decide +kernel
theorem dL_sumOf_4 : decode cL_sumOf 4 = .ok (.iload_n 2, 1) := by decide +kernel
theorem dL_sumOf_5 : decode cL_sumOf 5 = .ok (.invokevirtual 61, 3) := by decide +kernel
theorem dL_sumOf_8 : decode cL_sumOf 8 = .ok (.i2l, 1) := by decide +kernel
theorem dL_sumOf_9 : decode cL_sumOf 9 = .ok (.lastore, 1) := by decide +kernel
theorem dL_sumOf_10 : decode cL_sumOf 10 = .ok (.goto 7, 3) := by decide +kernel
theorem dL_sumOf_13 : decode cL_sumOf 13 = .ok (.astore 4, 2) := by decide +kernel
theorem dL_sumOf_15 : decode cL_sumOf 15 = .ok (.iconst 1, 1) := by decide +kernel
theorem dL_sumOf_16 : decode cL_sumOf 16 = .ok (.ireturn, 1) := by decide +kernel
theorem dL_sumOf_17 : decode cL_sumOf 17 = .ok (.iconst 0, 1) := by decide +kernel
theorem dL_sumOf_18 : decode cL_sumOf 18 = .ok (.ireturn, 1) := by decide +kernel
theorem dL_ranked_0 : decode cL_ranked 0 = .ok (.aload_n 3, 1) := by decide +kernel
theorem dL_ranked_1 : decode cL_ranked 1 = .ok (.iconst 0, 1) := by decide +kernel
theorem dL_ranked_2 : decode cL_ranked 2 = .ok (.aload_n 0, 1) := by decide +kernel
theorem dL_ranked_3 : decode cL_ranked 3 = .ok (.iload_n 1, 1) := by decide +kernel
theorem dL_ranked_4 : decode cL_ranked 4 = .ok (.iload_n 2, 1) := by decide +kernel
theorem dL_ranked_5 : decode cL_ranked 5 = .ok (.invokevirtual 64, 3) := by decide +kernel
theorem dL_ranked_8 : decode cL_ranked 8 = .ok (.i2l, 1) := by decide +kernel
theorem dL_ranked_9 : decode cL_ranked 9 = .ok (.lastore, 1) := by decide +kernel
theorem dL_ranked_10 : decode cL_ranked 10 = .ok (.goto 7, 3) := by decide +kernel
theorem dL_ranked_13 : decode cL_ranked 13 = .ok (.astore 4, 2) := by decide +kernel
theorem dL_ranked_15 : decode cL_ranked 15 = .ok (.iconst 1, 1) := by decide +kernel
theorem dL_ranked_16 : decode cL_ranked 16 = .ok (.ireturn, 1) := by decide +kernel
theorem dL_ranked_17 : decode cL_ranked 17 = .ok (.iconst 0, 1) := by decide +kernel
theorem dL_ranked_18 : decode cL_ranked 18 = .ok (.ireturn, 1) := by decide +kernel
theorem dL_running_0 : decode cL_running 0 = .ok (.aload_n 3, 1) := by decide +kernel
theorem dL_running_1 : decode cL_running 1 = .ok (.iconst 0, 1) := by decide +kernel
theorem dL_running_2 : decode cL_running 2 = .ok (.aload_n 0, 1) := by decide +kernel
theorem dL_running_3 : decode cL_running 3 = .ok (.iload_n 1, 1) := by decide +kernel
theorem dL_running_4 : decode cL_running 4 = .ok (.iload_n 2, 1) := by decide +kernel
theorem dL_running_5 : decode cL_running 5 = .ok (.invokevirtual 67, 3) := by decide +kernel
theorem dL_running_8 : decode cL_running 8 = .ok (.i2l, 1) := by decide +kernel
theorem dL_running_9 : decode cL_running 9 = .ok (.lastore, 1) := by decide +kernel
theorem dL_running_10 : decode cL_running 10 = .ok (.goto 7, 3) := by decide +kernel
theorem dL_running_13 : decode cL_running 13 = .ok (.astore 4, 2) := by decide +kernel
theorem dL_running_15 : decode cL_running 15 = .ok (.iconst 1, 1) := by decide +kernel
theorem dL_running_16 : decode cL_running 16 = .ok (.ireturn, 1) := by decide +kernel
theorem dL_running_17 : decode cL_running 17 = .ok (.iconst 0, 1) := by decide +kernel
theorem dL_running_18 : decode cL_running 18 = .ok (.ireturn, 1) := by decide +kernel
theorem dL_share_0 : decode cL_share 0 = .ok (.aload_n 3, 1) := by decide +kernel
theorem dL_share_1 : decode cL_share 1 = .ok (.iconst 0, 1) := by decide +kernel
theorem dL_share_2 : decode cL_share 2 = .ok (.aload_n 0, 1) := by decide +kernel
theorem dL_share_3 : decode cL_share 3 = .ok (.iload_n 1, 1) := by decide +kernel
theorem dL_share_4 : decode cL_share 4 = .ok (.iload_n 2, 1) := by decide +kernel
theorem dL_share_5 : decode cL_share 5 = .ok (.invokevirtual 70, 3) := by decide +kernel
theorem dL_share_8 : decode cL_share 8 = .ok (.i2l, 1) := by decide +kernel
theorem dL_share_9 : decode cL_share 9 = .ok (.lastore, 1) := by decide +kernel
theorem dL_share_10 : decode cL_share 10 = .ok (.goto 7, 3) := by decide +kernel
theorem dL_share_13 : decode cL_share 13 = .ok (.astore 4, 2) := by decide +kernel
theorem dL_share_15 : decode cL_share 15 = .ok (.iconst 1, 1) := by decide +kernel
theorem dL_share_16 : decode cL_share 16 = .ok (.ireturn, 1) := by decide +kernel
theorem dL_share_17 : decode cL_share 17 = .ok (.iconst 0, 1) := by decide +kernel
theorem dL_share_18 : decode cL_share 18 = .ok (.ireturn, 1) := by decide +kernel
theorem dL_fewest_0 : decode cL_fewest 0 = .ok (.aload_n 3, 1) := by decide +kernel
theorem dL_fewest_1 : decode cL_fewest 1 = .ok (.iconst 0, 1) := by decide +kernel
theorem dL_fewest_2 : decode cL_fewest 2 = .ok (.aload_n 0, 1) := by decide +kernel
theorem dL_fewest_3 : decode cL_fewest 3 = .ok (.iload_n 1, 1) := by decide +kernel
theorem dL_fewest_4 : decode cL_fewest 4 = .ok (.iload_n 2, 1) := by decide +kernel
theorem dL_fewest_5 : decode cL_fewest 5 = .ok (.invokevirtual 73, 3) := by decide +kernel
theorem dL_fewest_8 : decode cL_fewest 8 = .ok (.i2l, 1) := by decide +kernel
theorem dL_fewest_9 : decode cL_fewest 9 = .ok (.lastore, 1) := by decide +kernel
theorem dL_fewest_10 : decode cL_fewest 10 = .ok (.goto 11, 3) := by decide +kernel
theorem dL_fewest_13 : decode cL_fewest 13 = .ok (.astore 4, 2) := by decide +kernel
theorem dL_fewest_15 : decode cL_fewest 15 = .ok (.iconst 1, 1) := by decide +kernel
theorem dL_fewest_16 : decode cL_fewest 16 = .ok (.ireturn, 1) := by decide +kernel
theorem dL_fewest_17 : decode cL_fewest 17 = .ok (.astore 4, 2) := by decide +kernel
theorem dL_fewest_19 : decode cL_fewest 19 = .ok (.iconst 2, 1) := by decide +kernel
theorem dL_fewest_20 : decode cL_fewest 20 = .ok (.ireturn, 1) := by decide +kernel
theorem dL_fewest_21 : decode cL_fewest 21 = .ok (.iconst 0, 1) := by decide +kernel
theorem dL_fewest_22 : decode cL_fewest 22 = .ok (.ireturn, 1) := by decide +kernel
theorem dL_drill_0 : decode cL_drill 0 = .ok (.aload_n 2, 1) := by decide +kernel
theorem dL_drill_1 : decode cL_drill 1 = .ok (.iconst 0, 1) := by decide +kernel
theorem dL_drill_2 : decode cL_drill 2 = .ok (.aload_n 0, 1) := by decide +kernel
theorem dL_drill_3 : decode cL_drill 3 = .ok (.iload_n 1, 1) := by decide +kernel
theorem dL_drill_4 : decode cL_drill 4 = .ok (.invokevirtual 76, 3) := by decide +kernel
theorem dL_drill_7 : decode cL_drill 7 = .ok (.i2l, 1) := by decide +kernel
theorem dL_drill_8 : decode cL_drill 8 = .ok (.lastore, 1) := by decide +kernel
theorem dL_drill_9 : decode cL_drill 9 = .ok (.goto 6, 3) := by decide +kernel
theorem dL_drill_12 : decode cL_drill 12 = .ok (.astore_n 3, 1) := by decide +kernel
theorem dL_drill_13 : decode cL_drill 13 = .ok (.iconst 1, 1) := by decide +kernel
theorem dL_drill_14 : decode cL_drill 14 = .ok (.ireturn, 1) := by decide +kernel
theorem dL_drill_15 : decode cL_drill 15 = .ok (.iconst 0, 1) := by decide +kernel
theorem dL_drill_16 : decode cL_drill 16 = .ok (.ireturn, 1) := by decide +kernel
theorem dL_setAxes_0 : decode cL_setAxes 0 = .ok (.aload 5, 2) := by decide +kernel
theorem dL_setAxes_2 : decode cL_setAxes 2 = .ok (.iconst 0, 1) := by decide +kernel
theorem dL_setAxes_3 : decode cL_setAxes 3 = .ok (.aload_n 0, 1) := by decide +kernel
theorem dL_setAxes_4 : decode cL_setAxes 4 = .ok (.iload_n 1, 1) := by decide +kernel
theorem dL_setAxes_5 : decode cL_setAxes 5 = .ok (.iload_n 2, 1) := by decide +kernel
theorem dL_setAxes_6 : decode cL_setAxes 6 = .ok (.iload_n 3, 1) := by decide +kernel
theorem dL_setAxes_7 : decode cL_setAxes 7 = .ok (.iload 4, 2) := by decide +kernel
theorem dL_setAxes_9 : decode cL_setAxes 9 = .ok (.invokevirtual 79, 3) := by decide +kernel
theorem dL_setAxes_12 : decode cL_setAxes 12 = .ok (.i2l, 1) := by decide +kernel
theorem dL_setAxes_13 : decode cL_setAxes 13 = .ok (.lastore, 1) := by decide +kernel
theorem dL_setAxes_14 : decode cL_setAxes 14 = .ok (.goto 11, 3) := by decide +kernel
theorem dL_setAxes_17 : decode cL_setAxes 17 = .ok (.astore 6, 2) := by decide +kernel
theorem dL_setAxes_19 : decode cL_setAxes 19 = .ok (.iconst 1, 1) := by decide +kernel
theorem dL_setAxes_20 : decode cL_setAxes 20 = .ok (.ireturn, 1) := by decide +kernel
theorem dL_setAxes_21 : decode cL_setAxes 21 = .ok (.astore 6, 2) := by decide +kernel
theorem dL_setAxes_23 : decode cL_setAxes 23 = .ok (.iconst 2, 1) := by decide +kernel
theorem dL_setAxes_24 : decode cL_setAxes 24 = .ok (.ireturn, 1) := by decide +kernel
theorem dL_setAxes_25 : decode cL_setAxes 25 = .ok (.iconst 0, 1) := by decide +kernel
theorem dL_setAxes_26 : decode cL_setAxes 26 = .ok (.ireturn, 1) := by decide +kernel
theorem dL_rows_0 : decode cL_rows 0 = .ok (.aload_n 1, 1) := by decide +kernel
theorem dL_rows_1 : decode cL_rows 1 = .ok (.iconst 0, 1) := by decide +kernel
theorem dL_rows_2 : decode cL_rows 2 = .ok (.aload_n 0, 1) := by decide +kernel
theorem dL_rows_3 : decode cL_rows 3 = .ok (.invokevirtual 83, 3) := by decide +kernel
theorem dL_rows_6 : decode cL_rows 6 = .ok (.i2l, 1) := by decide +kernel
theorem dL_rows_7 : decode cL_rows 7 = .ok (.lastore, 1) := by decide +kernel
theorem dL_rows_8 : decode cL_rows 8 = .ok (.goto 6, 3) := by decide +kernel
theorem dL_rows_11 : decode cL_rows 11 = .ok (.astore_n 2, 1) := by decide +kernel
theorem dL_rows_12 : decode cL_rows 12 = .ok (.iconst 1, 1) := by decide +kernel
theorem dL_rows_13 : decode cL_rows 13 = .ok (.ireturn, 1) := by decide +kernel
theorem dL_rows_14 : decode cL_rows 14 = .ok (.iconst 0, 1) := by decide +kernel
theorem dL_rows_15 : decode cL_rows 15 = .ok (.ireturn, 1) := by decide +kernel
theorem dL_columns_0 : decode cL_columns 0 = .ok (.aload_n 1, 1) := by decide +kernel
theorem dL_columns_1 : decode cL_columns 1 = .ok (.iconst 0, 1) := by decide +kernel
theorem dL_columns_2 : decode cL_columns 2 = .ok (.aload_n 0, 1) := by decide +kernel
theorem dL_columns_3 : decode cL_columns 3 = .ok (.invokevirtual 87, 3) := by decide +kernel
theorem dL_columns_6 : decode cL_columns 6 = .ok (.i2l, 1) := by decide +kernel
theorem dL_columns_7 : decode cL_columns 7 = .ok (.lastore, 1) := by decide +kernel
theorem dL_columns_8 : decode cL_columns 8 = .ok (.goto 6, 3) := by decide +kernel
theorem dL_columns_11 : decode cL_columns 11 = .ok (.astore_n 2, 1) := by decide +kernel
theorem dL_columns_12 : decode cL_columns 12 = .ok (.iconst 1, 1) := by decide +kernel
theorem dL_columns_13 : decode cL_columns 13 = .ok (.ireturn, 1) := by decide +kernel
theorem dL_columns_14 : decode cL_columns 14 = .ok (.iconst 0, 1) := by decide +kernel
theorem dL_columns_15 : decode cL_columns 15 = .ok (.ireturn, 1) := by decide +kernel
theorem dL_rowMember_0 : decode cL_rowMember 0 = .ok (.aload_n 2, 1) := by decide +kernel
theorem dL_rowMember_1 : decode cL_rowMember 1 = .ok (.iconst 0, 1) := by decide +kernel
theorem dL_rowMember_2 : decode cL_rowMember 2 = .ok (.aload_n 0, 1) := by decide +kernel
theorem dL_rowMember_3 : decode cL_rowMember 3 = .ok (.iload_n 1, 1) := by decide +kernel
theorem dL_rowMember_4 : decode cL_rowMember 4 = .ok (.invokevirtual 90, 3) := by decide +kernel
theorem dL_rowMember_7 : decode cL_rowMember 7 = .ok (.i2l, 1) := by decide +kernel
theorem dL_rowMember_8 : decode cL_rowMember 8 = .ok (.lastore, 1) := by decide +kernel
theorem dL_rowMember_9 : decode cL_rowMember 9 = .ok (.goto 9, 3) := by decide +kernel
theorem dL_rowMember_12 : decode cL_rowMember 12 = .ok (.astore_n 3, 1) := by decide +kernel
theorem dL_rowMember_13 : decode cL_rowMember 13 = .ok (.iconst 1, 1) := by decide +kernel
theorem dL_rowMember_14 : decode cL_rowMember 14 = .ok (.ireturn, 1) := by decide +kernel
theorem dL_rowMember_15 : decode cL_rowMember 15 = .ok (.astore_n 3, 1) := by decide +kernel
theorem dL_rowMember_16 : decode cL_rowMember 16 = .ok (.iconst 2, 1) := by decide +kernel
theorem dL_rowMember_17 : decode cL_rowMember 17 = .ok (.ireturn, 1) := by decide +kernel
theorem dL_rowMember_18 : decode cL_rowMember 18 = .ok (.iconst 0, 1) := by decide +kernel
theorem dL_rowMember_19 : decode cL_rowMember 19 = .ok (.ireturn, 1) := by decide +kernel
theorem dL_columnMember_0 : decode cL_columnMember 0 = .ok (.aload_n 2, 1) := by decide +kernel
theorem dL_columnMember_1 : decode cL_columnMember 1 = .ok (.iconst 0, 1) := by decide +kernel
theorem dL_columnMember_2 : decode cL_columnMember 2 = .ok (.aload_n 0, 1) := by decide +kernel
theorem dL_columnMember_3 : decode cL_columnMember 3 = .ok (.iload_n 1, 1) := by decide +kernel
theorem dL_columnMember_4 : decode cL_columnMember 4 = .ok (.invokevirtual 93, 3) := by decide +kernel
theorem dL_columnMember_7 : decode cL_columnMember 7 = .ok (.i2l, 1) := by decide +kernel
theorem dL_columnMember_8 : decode cL_columnMember 8 = .ok (.lastore, 1) := by decide +kernel
theorem dL_columnMember_9 : decode cL_columnMember 9 = .ok (.goto 9, 3) := by decide +kernel
theorem dL_columnMember_12 : decode cL_columnMember 12 = .ok (.astore_n 3, 1) := by decide +kernel
theorem dL_columnMember_13 : decode cL_columnMember 13 = .ok (.iconst 1, 1) := by decide +kernel
theorem dL_columnMember_14 : decode cL_columnMember 14 = .ok (.ireturn, 1) := by decide +kernel
theorem dL_columnMember_15 : decode cL_columnMember 15 = .ok (.astore_n 3, 1) := by decide +kernel
theorem dL_columnMember_16 : decode cL_columnMember 16 = .ok (.iconst 2, 1) := by decide +kernel
theorem dL_columnMember_17 : decode cL_columnMember 17 = .ok (.ireturn, 1) := by decide +kernel
theorem dL_columnMember_18 : decode cL_columnMember 18 = .ok (.iconst 0, 1) := by decide +kernel
theorem dL_columnMember_19 : decode cL_columnMember 19 = .ok (.ireturn, 1) := by decide +kernel
theorem dL_cell_0 : decode cL_cell 0 = .ok (.aload_n 3, 1) := by decide +kernel
theorem dL_cell_1 : decode cL_cell 1 = .ok (.iconst 0, 1) := by decide +kernel
theorem dL_cell_2 : decode cL_cell 2 = .ok (.aload_n 0, 1) := by decide +kernel
theorem dL_cell_3 : decode cL_cell 3 = .ok (.iload_n 1, 1) := by decide +kernel
theorem dL_cell_4 : decode cL_cell 4 = .ok (.iload_n 2, 1) := by decide +kernel
theorem dL_cell_5 : decode cL_cell 5 = .ok (.invokevirtual 96, 3) := by decide +kernel
theorem dL_cell_8 : decode cL_cell 8 = .ok (.i2l, 1) := by decide +kernel
theorem dL_cell_9 : decode cL_cell 9 = .ok (.lastore, 1) := by decide +kernel
theorem dL_cell_10 : decode cL_cell 10 = .ok (.goto 11, 3) := by decide +kernel
theorem dL_cell_13 : decode cL_cell 13 = .ok (.astore 4, 2) := by decide +kernel
theorem dL_cell_15 : decode cL_cell 15 = .ok (.iconst 1, 1) := by decide +kernel
theorem dL_cell_16 : decode cL_cell 16 = .ok (.ireturn, 1) := by decide +kernel
theorem dL_cell_17 : decode cL_cell 17 = .ok (.astore 4, 2) := by decide +kernel
theorem dL_cell_19 : decode cL_cell 19 = .ok (.iconst 2, 1) := by decide +kernel
theorem dL_cell_20 : decode cL_cell 20 = .ok (.ireturn, 1) := by decide +kernel
theorem dL_cell_21 : decode cL_cell 21 = .ok (.iconst 0, 1) := by decide +kernel
theorem dL_cell_22 : decode cL_cell 22 = .ok (.ireturn, 1) := by decide +kernel
theorem dL_peak_0 : decode cL_peak 0 = .ok (.aload_n 2, 1) := by decide +kernel
theorem dL_peak_1 : decode cL_peak 1 = .ok (.iconst 0, 1) := by decide +kernel
theorem dL_peak_2 : decode cL_peak 2 = .ok (.aload_n 0, 1) := by decide +kernel
theorem dL_peak_3 : decode cL_peak 3 = .ok (.iload_n 1, 1) := by decide +kernel
theorem dL_peak_4 : decode cL_peak 4 = .ok (.invokevirtual 99, 3) := by decide +kernel
theorem dL_peak_7 : decode cL_peak 7 = .ok (.i2l, 1) := by decide +kernel
theorem dL_peak_8 : decode cL_peak 8 = .ok (.lastore, 1) := by decide +kernel
theorem dL_peak_9 : decode cL_peak 9 = .ok (.goto 9, 3) := by decide +kernel
theorem dL_peak_12 : decode cL_peak 12 = .ok (.astore_n 3, 1) := by decide +kernel
theorem dL_peak_13 : decode cL_peak 13 = .ok (.iconst 1, 1) := by decide +kernel
theorem dL_peak_14 : decode cL_peak 14 = .ok (.ireturn, 1) := by decide +kernel
theorem dL_peak_15 : decode cL_peak 15 = .ok (.astore_n 3, 1) := by decide +kernel
theorem dL_peak_16 : decode cL_peak 16 = .ok (.iconst 2, 1) := by decide +kernel
theorem dL_peak_17 : decode cL_peak 17 = .ok (.ireturn, 1) := by decide +kernel
theorem dL_peak_18 : decode cL_peak 18 = .ok (.iconst 0, 1) := by decide +kernel
theorem dL_peak_19 : decode cL_peak 19 = .ok (.ireturn, 1) := by decide +kernel
theorem dL_setLevel_0 : decode cL_setLevel 0 = .ok (.aload_n 3, 1) := by decide +kernel
theorem dL_setLevel_1 : decode cL_setLevel 1 = .ok (.iconst 0, 1) := by decide +kernel
theorem dL_setLevel_2 : decode cL_setLevel 2 = .ok (.aload_n 0, 1) := by decide +kernel
theorem dL_setLevel_3 : decode cL_setLevel 3 = .ok (.iload_n 1, 1) := by decide +kernel
theorem dL_setLevel_4 : decode cL_setLevel 4 = .ok (.iload_n 2, 1) := by decide +kernel
theorem dL_setLevel_5 : decode cL_setLevel 5 = .ok (.invokevirtual 102, 3) := by decide +kernel
theorem dL_setLevel_8 : decode cL_setLevel 8 = .ok (.i2l, 1) := by decide +kernel
theorem dL_setLevel_9 : decode cL_setLevel 9 = .ok (.lastore, 1) := by decide +kernel
theorem dL_setLevel_10 : decode cL_setLevel 10 = .ok (.goto 7, 3) := by decide +kernel
theorem dL_setLevel_13 : decode cL_setLevel 13 = .ok (.astore 4, 2) := by decide +kernel
theorem dL_setLevel_15 : decode cL_setLevel 15 = .ok (.iconst 1, 1) := by decide +kernel
theorem dL_setLevel_16 : decode cL_setLevel 16 = .ok (.ireturn, 1) := by decide +kernel
theorem dL_setLevel_17 : decode cL_setLevel 17 = .ok (.iconst 0, 1) := by decide +kernel
theorem dL_setLevel_18 : decode cL_setLevel 18 = .ok (.ireturn, 1) := by decide +kernel
theorem dL_keep_0 : decode cL_keep 0 = .ok (.aload_n 1, 1) := by decide +kernel
theorem dL_keep_1 : decode cL_keep 1 = .ok (.iconst 0, 1) := by decide +kernel
theorem dL_keep_2 : decode cL_keep 2 = .ok (.aload_n 0, 1) := by decide +kernel
theorem dL_keep_3 : decode cL_keep 3 = .ok (.invokevirtual 105, 3) := by decide +kernel
theorem dL_keep_6 : decode cL_keep 6 = .ok (.i2l, 1) := by decide +kernel
theorem dL_keep_7 : decode cL_keep 7 = .ok (.lastore, 1) := by decide +kernel
theorem dL_keep_8 : decode cL_keep 8 = .ok (.goto 6, 3) := by decide +kernel
theorem dL_keep_11 : decode cL_keep 11 = .ok (.astore_n 2, 1) := by decide +kernel
theorem dL_keep_12 : decode cL_keep 12 = .ok (.iconst 1, 1) := by decide +kernel
theorem dL_keep_13 : decode cL_keep 13 = .ok (.ireturn, 1) := by decide +kernel
theorem dL_keep_14 : decode cL_keep 14 = .ok (.iconst 0, 1) := by decide +kernel
theorem dL_keep_15 : decode cL_keep 15 = .ok (.ireturn, 1) := by decide +kernel
theorem dL_dropView_0 : decode cL_dropView 0 = .ok (.aload_n 2, 1) := by decide +kernel
theorem dL_dropView_1 : decode cL_dropView 1 = .ok (.iconst 0, 1) := by decide +kernel
theorem dL_dropView_2 : decode cL_dropView 2 = .ok (.aload_n 0, 1) := by decide +kernel
theorem dL_dropView_3 : decode cL_dropView 3 = .ok (.iload_n 1, 1) := by decide +kernel
theorem dL_dropView_4 : decode cL_dropView 4 = .ok (.invokevirtual 108, 3) := by decide +kernel
theorem dL_dropView_7 : decode cL_dropView 7 = .ok (.i2l, 1) := by decide +kernel
theorem dL_dropView_8 : decode cL_dropView 8 = .ok (.lastore, 1) := by decide +kernel
theorem dL_dropView_9 : decode cL_dropView 9 = .ok (.goto 6, 3) := by decide +kernel
theorem dL_dropView_12 : decode cL_dropView 12 = .ok (.astore_n 3, 1) := by decide +kernel
theorem dL_dropView_13 : decode cL_dropView 13 = .ok (.iconst 1, 1) := by decide +kernel
theorem dL_dropView_14 : decode cL_dropView 14 = .ok (.ireturn, 1) := by decide +kernel
theorem dL_dropView_15 : decode cL_dropView 15 = .ok (.iconst 0, 1) := by decide +kernel
theorem dL_dropView_16 : decode cL_dropView 16 = .ok (.ireturn, 1) := by decide +kernel
theorem dL_refresh_0 : decode cL_refresh 0 = .ok (.aload_n 2, 1) := by decide +kernel
theorem dL_refresh_1 : decode cL_refresh 1 = .ok (.iconst 0, 1) := by decide +kernel
theorem dL_refresh_2 : decode cL_refresh 2 = .ok (.aload_n 0, 1) := by decide +kernel
theorem dL_refresh_3 : decode cL_refresh 3 = .ok (.iload_n 1, 1) := by decide +kernel
theorem dL_refresh_4 : decode cL_refresh 4 = .ok (.invokevirtual 111, 3) := by decide +kernel
theorem dL_refresh_7 : decode cL_refresh 7 = .ok (.i2l, 1) := by decide +kernel
theorem dL_refresh_8 : decode cL_refresh 8 = .ok (.lastore, 1) := by decide +kernel
theorem dL_refresh_9 : decode cL_refresh 9 = .ok (.goto 6, 3) := by decide +kernel
theorem dL_refresh_12 : decode cL_refresh 12 = .ok (.astore_n 3, 1) := by decide +kernel
theorem dL_refresh_13 : decode cL_refresh 13 = .ok (.iconst 1, 1) := by decide +kernel
theorem dL_refresh_14 : decode cL_refresh 14 = .ok (.ireturn, 1) := by decide +kernel
theorem dL_refresh_15 : decode cL_refresh 15 = .ok (.iconst 0, 1) := by decide +kernel
theorem dL_refresh_16 : decode cL_refresh 16 = .ok (.ireturn, 1) := by decide +kernel
theorem dL_rowsOf_0 : decode cL_rowsOf 0 = .ok (.aload_n 2, 1) := by decide +kernel
theorem dL_rowsOf_1 : decode cL_rowsOf 1 = .ok (.iconst 0, 1) := by decide +kernel
theorem dL_rowsOf_2 : decode cL_rowsOf 2 = .ok (.aload_n 0, 1) := by decide +kernel
theorem dL_rowsOf_3 : decode cL_rowsOf 3 = .ok (.iload_n 1, 1) := by decide +kernel
theorem dL_rowsOf_4 : decode cL_rowsOf 4 = .ok (.invokevirtual 114, 3) := by decide +kernel
theorem dL_rowsOf_7 : decode cL_rowsOf 7 = .ok (.i2l, 1) := by decide +kernel
theorem dL_rowsOf_8 : decode cL_rowsOf 8 = .ok (.lastore, 1) := by decide +kernel
theorem dL_rowsOf_9 : decode cL_rowsOf 9 = .ok (.goto 6, 3) := by decide +kernel
theorem dL_rowsOf_12 : decode cL_rowsOf 12 = .ok (.astore_n 3, 1) := by decide +kernel
theorem dL_rowsOf_13 : decode cL_rowsOf 13 = .ok (.iconst 1, 1) := by decide +kernel
theorem dL_rowsOf_14 : decode cL_rowsOf 14 = .ok (.ireturn, 1) := by decide +kernel
theorem dL_rowsOf_15 : decode cL_rowsOf 15 = .ok (.iconst 0, 1) := by decide +kernel
theorem dL_rowsOf_16 : decode cL_rowsOf 16 = .ok (.ireturn, 1) := by decide +kernel
theorem dL_isStale_0 : decode cL_isStale 0 = .ok (.aload_n 2, 1) := by decide +kernel
theorem dL_isStale_1 : decode cL_isStale 1 = .ok (.iconst 0, 1) := by decide +kernel
theorem dL_isStale_2 : decode cL_isStale 2 = .ok (.aload_n 0, 1) := by decide +kernel
theorem dL_isStale_3 : decode cL_isStale 3 = .ok (.iload_n 1, 1) := by decide +kernel
theorem dL_isStale_4 : decode cL_isStale 4 = .ok (.invokevirtual 117, 3) := by decide +kernel
theorem dL_isStale_7 : decode cL_isStale 7 = .ok (.ifCond .eq 7, 3) := by decide +kernel
theorem dL_isStale_10 : decode cL_isStale 10 = .ok (.lconst 1, 1) := by decide +kernel
theorem dL_isStale_11 : decode cL_isStale 11 = .ok (.goto 4, 3) := by decide +kernel
theorem dL_isStale_14 : decode cL_isStale 14 = .ok (.lconst 0, 1) := by decide +kernel
theorem dL_isStale_15 : decode cL_isStale 15 = .ok (.lastore, 1) := by decide +kernel
theorem dL_isStale_16 : decode cL_isStale 16 = .ok (.goto 6, 3) := by decide +kernel
theorem dL_isStale_19 : decode cL_isStale 19 = .ok (.astore_n 3, 1) := by decide +kernel
theorem dL_isStale_20 : decode cL_isStale 20 = .ok (.iconst 1, 1) := by decide +kernel
theorem dL_isStale_21 : decode cL_isStale 21 = .ok (.ireturn, 1) := by decide +kernel
theorem dL_isStale_22 : decode cL_isStale 22 = .ok (.iconst 0, 1) := by decide +kernel
theorem dL_isStale_23 : decode cL_isStale 23 = .ok (.ireturn, 1) := by decide +kernel
theorem up_same {cys : Nat → ClassId} {g : Nat → va_E} {ao : Nat} {v0 : Int64} (h : g ao = OUT cys v0) : va_up g ao (OUT cys v0) = g := by
  funext a
  by_cases e : a = ao
  · subst e; rw [va_up_self, h]
  · rw [va_up_ne _ _ e]
def WP_addDimension (S Z Z' : ZT) (lv : Int) (k : Int) (v9 : Int64) : Prop := (k = 0 ∧ ∃ r : Int, ((1 ≤ lv ∧ lv ≤ 3) ∧ S 0 0 5 < 4 ∧ r = S 0 0 5 ∧ M_addDimension S lv Z') ∧ v9 = (iI r).toInt64) ∨ (k = 1 ∧ (¬ (1 ≤ lv ∧ lv ≤ 3)) ∧ Z' = Z) ∨ (k = 2 ∧ ((1 ≤ lv ∧ lv ≤ 3) ∧ ¬ S 0 0 5 < 4) ∧ Z' = Z)
set_option maxRecDepth 100000 in
set_option maxHeartbeats 8000000 in
theorem cw_addDimension {l : Launch} {D : va_G} {cys : Nat → ClassId} {ad : Nat → Int → Nat} {L : List Nat} {g : Nat → va_E} {X : Int64} {Z : ZT} (hi : injA ad) (hst : l.stackTraces = false) {S : ZT} {lv : Int} (hS : SP S Z) (hW : WF S) (hlv : inR lv) {ao : Nat} {v0 : Int64} (hao : ao ∈ L) (hns : ¬ isS ad ao) (hgo : g ao = OUT cys v0) : CW l D cys ad yL_addDimension cL_addDimension 4 (some .int) [(0, 9, 12, 13), (0, 9, 15, 15)] 7 112 1 6 [.ref (ad 0 0), .int (iI lv), .ref ao] L g X Z (PGI L g X Z (fun k L9 g9 X9 Z9 => L9 = L ∧ X9 = X ∧ ∃ v9 : Int64, g9 = va_up g ao (OUT cys v9) ∧ WP_addDimension S Z Z9 lv k v9)) := by
  refine cw_start hi (by decide +kernel) (Nat.le_of_ble_eq_true rfl) ?_
  intro p_ e_ s_ m_ args_ below_ meth_ c_ A_ Q_ hQ G hr hN hT
  have eg := up_same hgo
  refine j_aload_n G dL_addDimension_0 rfl ?_
  refine j_iconst G dL_addDimension_1 ?_
  refine j_aload_n G dL_addDimension_2 rfl ?_
  refine j_iload_n G dL_addDimension_3 rfl ?_
  refine j_c2 G hN (PP := (fun r Z' => (1 ≤ lv ∧ lv ≤ 3) ∧ S 0 0 5 < 4 ∧ r = S 0 0 5 ∧ M_addDimension S lv Z')) (x1 := ({ startPc := 0, endPc := 9, handlerPc := 12, catchType := 13 } : ExceptionTableEntry)) (x2 := ({ startPc := 0, endPc := 9, handlerPc := 15, catchType := 15 } : ExceptionTableEntry)) (n1 := exA) (n2 := exS) hT (by decide) (by decide) (TW_of 517 (by decide +kernel) (by decide +kernel)) (List.mem_of_getElem? (i := 0) rfl) (by decide) (by decide) (TW_of 518 (by decide +kernel) (by decide +kernel)) (List.mem_of_getElem? (i := 1) rfl) (List.mem_of_getElem? (i := 0) rfl) cvX6_addDimension mlL_7 (c_X6_addDimension hi hst (by assumption) (by assumption) (by assumption)) dL_addDimension_4 ⟨by decide, by decide⟩ ⟨by decide, by decide⟩ rfl rfl (Nat.le_of_ble_eq_true rfl) (by decide) rfl rfl rfl (fun E Z1 h => h.1.elim (fun z => Or.inl z.1) (fun z => Or.inr z.1)) (fun _ _ _ _ _ h => h) (fun Z1 q h => ?_) (fun Z1 q h => ?_) (fun r Z1 h => ?_)
  · refine j_astore_n G dL_addDimension_12 (by decide) rfl ?_
    refine j_iconst G dL_addDimension_13 ?_
    refine jr_GI G hQ hr dL_addDimension_14 (by decide) (by decide) ?_
    exact ⟨rfl, rfl, v0, eg.symm, Or.inr (Or.inl ⟨rfl, ⟨h.1.elim (fun z => z.2) (fun z => absurd z.1 (by decide +kernel)), h.2⟩⟩)⟩
  · refine j_astore_n G dL_addDimension_15 (by decide) rfl ?_
    refine j_iconst G dL_addDimension_16 ?_
    refine jr_GI G hQ hr dL_addDimension_17 (by decide) (by decide) ?_
    exact ⟨rfl, rfl, v0, eg.symm, Or.inr (Or.inr ⟨rfl, ⟨h.1.elim (fun z => absurd z.1 (by decide +kernel)) (fun z => z.2), h.2⟩⟩)⟩
  · refine j_i2l G dL_addDimension_7 ?_
    refine j_lastO G dL_addDimension_8 hao hns hgo ?_
    refine j_goto G 18 dL_addDimension_9 (by decide) ?_
    refine j_iconst G dL_addDimension_18 ?_
    refine jr_GI G hQ hr dL_addDimension_19 (by decide) (by decide) ?_
    exact ⟨rfl, rfl, _, rfl, Or.inl ⟨rfl, r, h, rfl⟩⟩
def WP_addMember (S Z Z' : ZT) (d q : Int) (k : Int) (v9 : Int64) : Prop := (k = 0 ∧ ∃ r : Int, ((0 ≤ d ∧ d < S 0 0 5 ∧ 0 ≤ q ∧ q < S 2 d 4) ∧ (S 4 d q ≠ S 2 d 3 ∧ S 2 d 4 < 24) ∧ r = S 2 d 4 ∧ M_addMember S d q Z') ∧ v9 = (iI r).toInt64) ∨ (k = 1 ∧ (¬ (0 ≤ d ∧ d < S 0 0 5 ∧ 0 ≤ q ∧ q < S 2 d 4)) ∧ Z' = Z) ∨ (k = 2 ∧ ((0 ≤ d ∧ d < S 0 0 5 ∧ 0 ≤ q ∧ q < S 2 d 4) ∧ ¬ (S 4 d q ≠ S 2 d 3 ∧ S 2 d 4 < 24)) ∧ Z' = Z)
set_option maxRecDepth 100000 in
set_option maxHeartbeats 8000000 in
theorem cw_addMember {l : Launch} {D : va_G} {cys : Nat → ClassId} {ad : Nat → Int → Nat} {L : List Nat} {g : Nat → va_E} {X : Int64} {Z : ZT} (hi : injA ad) (hst : l.stackTraces = false) {S : ZT} {d q : Int} (hS : SP S Z) (hW : WF S) (hd : inR d) (hq : inR q) {ao : Nat} {v0 : Int64} (hao : ao ∈ L) (hns : ¬ isS ad ao) (hgo : g ao = OUT cys v0) : CW l D cys ad yL_addMember cL_addMember 5 (some .int) [(0, 10, 13, 21), (0, 10, 17, 15)] 9 157 3 18 [.ref (ad 0 0), .int (iI d), .int (iI q), .ref ao] L g X Z (PGI L g X Z (fun k L9 g9 X9 Z9 => L9 = L ∧ X9 = X ∧ ∃ v9 : Int64, g9 = va_up g ao (OUT cys v9) ∧ WP_addMember S Z Z9 d q k v9)) := by
  refine cw_start hi (by decide +kernel) (Nat.le_of_ble_eq_true rfl) ?_
  intro p_ e_ s_ m_ args_ below_ meth_ c_ A_ Q_ hQ G hr hN hT
  have eg := up_same hgo
  refine j_aload_n G dL_addMember_0 rfl ?_
  refine j_iconst G dL_addMember_1 ?_
  refine j_aload_n G dL_addMember_2 rfl ?_
  refine j_iload_n G dL_addMember_3 rfl ?_
  refine j_iload_n G dL_addMember_4 rfl ?_
  refine j_c2 G hN (PP := (fun r Z' => (0 ≤ d ∧ d < S 0 0 5 ∧ 0 ≤ q ∧ q < S 2 d 4) ∧ (S 4 d q ≠ S 2 d 3 ∧ S 2 d 4 < 24) ∧ r = S 2 d 4 ∧ M_addMember S d q Z')) (x1 := ({ startPc := 0, endPc := 10, handlerPc := 13, catchType := 21 } : ExceptionTableEntry)) (x2 := ({ startPc := 0, endPc := 10, handlerPc := 17, catchType := 15 } : ExceptionTableEntry)) (n1 := exI) (n2 := exS) hT (by decide) (by decide) (TW_of 622 (by decide +kernel) (by decide +kernel)) (List.mem_of_getElem? (i := 2) rfl) (by decide) (by decide) (TW_of 518 (by decide +kernel) (by decide +kernel)) (List.mem_of_getElem? (i := 1) rfl) (List.mem_of_getElem? (i := 5) rfl) cvX6_addMember mlL_17 (c_X6_addMember hi hst (by assumption) (by assumption) (by assumption) (by assumption)) dL_addMember_5 ⟨by decide, by decide⟩ ⟨by decide, by decide⟩ rfl rfl (Nat.le_of_ble_eq_true rfl) (by decide) rfl rfl rfl (fun E Z1 h => h.1.elim (fun z => Or.inl z.1) (fun z => Or.inr z.1)) (fun _ _ _ _ _ h => h) (fun Z1 q h => ?_) (fun Z1 q h => ?_) (fun r Z1 h => ?_)
  · refine j_astore G dL_addMember_13 (by decide) rfl ?_
    refine j_iconst G dL_addMember_15 ?_
    refine jr_GI G hQ hr dL_addMember_16 (by decide) (by decide) ?_
    exact ⟨rfl, rfl, v0, eg.symm, Or.inr (Or.inl ⟨rfl, ⟨h.1.elim (fun z => z.2) (fun z => absurd z.1 (by decide +kernel)), h.2⟩⟩)⟩
  · refine j_astore G dL_addMember_17 (by decide) rfl ?_
    refine j_iconst G dL_addMember_19 ?_
    refine jr_GI G hQ hr dL_addMember_20 (by decide) (by decide) ?_
    exact ⟨rfl, rfl, v0, eg.symm, Or.inr (Or.inr ⟨rfl, ⟨h.1.elim (fun z => absurd z.1 (by decide +kernel)) (fun z => z.2), h.2⟩⟩)⟩
  · refine j_i2l G dL_addMember_8 ?_
    refine j_lastO G dL_addMember_9 hao hns hgo ?_
    refine j_goto G 21 dL_addMember_10 (by decide) ?_
    refine j_iconst G dL_addMember_21 ?_
    refine jr_GI G hQ hr dL_addMember_22 (by decide) (by decide) ?_
    exact ⟨rfl, rfl, _, rfl, Or.inl ⟨rfl, r, h, rfl⟩⟩
def WP_move (S Z Z' : ZT) (d q w : Int) (k : Int) (v9 : Int64) : Prop := (k = 0 ∧ ∃ r : Int, ((0 ≤ d ∧ d < S 0 0 5 ∧ 0 ≤ q ∧ q < S 2 d 4 ∧ 0 ≤ w ∧ w < S 2 d 4) ∧ (q ≠ 0 ∧ S 4 d w = S 4 d q - 1) ∧ r = S 3 d q ∧ M_move S d q w Z') ∧ v9 = (iI r).toInt64) ∨ (k = 1 ∧ (¬ (0 ≤ d ∧ d < S 0 0 5 ∧ 0 ≤ q ∧ q < S 2 d 4 ∧ 0 ≤ w ∧ w < S 2 d 4)) ∧ Z' = Z) ∨ (k = 2 ∧ ((0 ≤ d ∧ d < S 0 0 5 ∧ 0 ≤ q ∧ q < S 2 d 4 ∧ 0 ≤ w ∧ w < S 2 d 4) ∧ ¬ (q ≠ 0 ∧ S 4 d w = S 4 d q - 1)) ∧ Z' = Z)
set_option maxRecDepth 100000 in
set_option maxHeartbeats 8000000 in
theorem cw_move {l : Launch} {D : va_G} {cys : Nat → ClassId} {ad : Nat → Int → Nat} {L : List Nat} {g : Nat → va_E} {X : Int64} {Z : ZT} (hi : injA ad) (hst : l.stackTraces = false) {S : ZT} {d q w : Int} (hS : SP S Z) (hW : WF S) (hd : inR d) (hq : inR q) (hw : inR w) {ao : Nat} {v0 : Int64} (hao : ao ∈ L) (hns : ¬ isS ad ao) (hgo : g ao = OUT cys v0) : CW l D cys ad yL_move cL_move 6 (some .int) [(0, 12, 15, 21), (0, 12, 19, 13)] 9 159 3 18 [.ref (ad 0 0), .int (iI d), .int (iI q), .int (iI w), .ref ao] L g X Z (PGI L g X Z (fun k L9 g9 X9 Z9 => L9 = L ∧ X9 = X ∧ ∃ v9 : Int64, g9 = va_up g ao (OUT cys v9) ∧ WP_move S Z Z9 d q w k v9)) := by
  refine cw_start hi (by decide +kernel) (Nat.le_of_ble_eq_true rfl) ?_
  intro p_ e_ s_ m_ args_ below_ meth_ c_ A_ Q_ hQ G hr hN hT
  have eg := up_same hgo
  refine j_aload G dL_move_0 rfl ?_
  refine j_iconst G dL_move_2 ?_
  refine j_aload_n G dL_move_3 rfl ?_
  refine j_iload_n G dL_move_4 rfl ?_
  refine j_iload_n G dL_move_5 rfl ?_
  refine j_iload_n G dL_move_6 rfl ?_
  refine j_c2 G hN (PP := (fun r Z' => (0 ≤ d ∧ d < S 0 0 5 ∧ 0 ≤ q ∧ q < S 2 d 4 ∧ 0 ≤ w ∧ w < S 2 d 4) ∧ (q ≠ 0 ∧ S 4 d w = S 4 d q - 1) ∧ r = S 3 d q ∧ M_move S d q w Z')) (x1 := ({ startPc := 0, endPc := 12, handlerPc := 15, catchType := 21 } : ExceptionTableEntry)) (x2 := ({ startPc := 0, endPc := 12, handlerPc := 19, catchType := 13 } : ExceptionTableEntry)) (n1 := exI) (n2 := exA) hT (by decide) (by decide) (TW_of 622 (by decide +kernel) (by decide +kernel)) (List.mem_of_getElem? (i := 2) rfl) (by decide) (by decide) (TW_of 517 (by decide +kernel) (by decide +kernel)) (List.mem_of_getElem? (i := 0) rfl) (List.mem_of_getElem? (i := 4) rfl) cvX6_move mlL_23 (c_X6_move hi hst (by assumption) (by assumption) (by assumption) (by assumption) (by assumption)) dL_move_7 ⟨by decide, by decide⟩ ⟨by decide, by decide⟩ rfl rfl (Nat.le_of_ble_eq_true rfl) (by decide) rfl rfl rfl (fun E Z1 h => h.1.elim (fun z => Or.inl z.1) (fun z => Or.inr z.1)) (fun _ _ _ _ _ h => h) (fun Z1 q h => ?_) (fun Z1 q h => ?_) (fun r Z1 h => ?_)
  · refine j_astore G dL_move_15 (by decide) rfl ?_
    refine j_iconst G dL_move_17 ?_
    refine jr_GI G hQ hr dL_move_18 (by decide) (by decide) ?_
    exact ⟨rfl, rfl, v0, eg.symm, Or.inr (Or.inl ⟨rfl, ⟨h.1.elim (fun z => z.2) (fun z => absurd z.1 (by decide +kernel)), h.2⟩⟩)⟩
  · refine j_astore G dL_move_19 (by decide) rfl ?_
    refine j_iconst G dL_move_21 ?_
    refine jr_GI G hQ hr dL_move_22 (by decide) (by decide) ?_
    exact ⟨rfl, rfl, v0, eg.symm, Or.inr (Or.inr ⟨rfl, ⟨h.1.elim (fun z => absurd z.1 (by decide +kernel)) (fun z => z.2), h.2⟩⟩)⟩
  · refine j_i2l G dL_move_10 ?_
    refine j_lastO G dL_move_11 hao hns hgo ?_
    refine j_goto G 23 dL_move_12 (by decide) ?_
    refine j_iconst G dL_move_23 ?_
    refine jr_GI G hQ hr dL_move_24 (by decide) (by decide) ?_
    exact ⟨rfl, rfl, _, rfl, Or.inl ⟨rfl, r, h, rfl⟩⟩
def WP_members (S Z Z' : ZT) (d : Int) (k : Int) (v9 : Int64) : Prop := (k = 0 ∧ ∃ r : Int, (((0 ≤ d ∧ d < S 0 0 5) ∧ r = S 2 d 4) ∧ Z' = Z) ∧ v9 = (iI r).toInt64) ∨ (k = 1 ∧ ¬ (0 ≤ d ∧ d < S 0 0 5) ∧ Z' = Z)
set_option maxRecDepth 100000 in
set_option maxHeartbeats 8000000 in
theorem cw_members {l : Launch} {D : va_G} {cys : Nat → ClassId} {ad : Nat → Int → Nat} {L : List Nat} {g : Nat → va_E} {X : Int64} {Z : ZT} (hi : injA ad) (hst : l.stackTraces = false) {S : ZT} {d : Int} (hS : SP S Z) (hW : WF S) (hd : inR d) {ao : Nat} {v0 : Int64} (hao : ao ∈ L) (hns : ¬ isS ad ao) (hgo : g ao = OUT cys v0) : CW l D cys ad yL_members cL_members 4 (some .int) [(0, 9, 12, 21)] 8 132 1 6 [.ref (ad 0 0), .int (iI d), .ref ao] L g X Z (PGI L g X Z (fun k L9 g9 X9 Z9 => L9 = L ∧ X9 = X ∧ ∃ v9 : Int64, g9 = va_up g ao (OUT cys v9) ∧ WP_members S Z Z9 d k v9)) := by
  refine cw_start hi (by decide +kernel) (Nat.le_of_ble_eq_true rfl) ?_
  intro p_ e_ s_ m_ args_ below_ meth_ c_ A_ Q_ hQ G hr hN hT
  have eg := up_same hgo
  refine j_aload_n G dL_members_0 rfl ?_
  refine j_iconst G dL_members_1 ?_
  refine j_aload_n G dL_members_2 rfl ?_
  refine j_iload_n G dL_members_3 rfl ?_
  refine j_c1 G (PP := (fun r Z' => ((0 ≤ d ∧ d < S 0 0 5) ∧ r = S 2 d 4) ∧ Z' = Z)) (x1 := ({ startPc := 0, endPc := 9, handlerPc := 12, catchType := 21 } : ExceptionTableEntry)) (n1 := exI) hT (by decide) (by decide) (TW_of 622 (by decide +kernel) (by decide +kernel)) (List.mem_of_getElem? (i := 2) rfl) cvX6_members mlL_27 (c_X6_members hi hst (by assumption) (by assumption) (by assumption)) dL_members_4 ⟨by decide, by decide⟩ ⟨by decide, by decide⟩ rfl rfl (Nat.le_of_ble_eq_true rfl) (by decide) rfl rfl rfl (fun E Z1 h => h.1) (fun _ _ _ _ _ h => by obtain ⟨r, e1, e2, e3, e4, e5, e6⟩ := h; exact ⟨r, e1, ⟨e2, e6⟩, e3, e4, e5⟩) (fun Z1 q h => ?_) (fun r Z1 h => ?_)
  · refine j_astore_n G dL_members_12 (by decide) rfl ?_
    refine j_iconst G dL_members_13 ?_
    refine jr_GI G hQ hr dL_members_14 (by decide) (by decide) ?_
    exact ⟨rfl, rfl, v0, eg.symm, Or.inr ⟨rfl, h.2⟩⟩
  · refine j_i2l G dL_members_7 ?_
    refine j_lastO G dL_members_8 hao hns hgo ?_
    refine j_goto G 15 dL_members_9 (by decide) ?_
    refine j_iconst G dL_members_15 ?_
    refine jr_GI G hQ hr dL_members_16 (by decide) (by decide) ?_
    exact ⟨rfl, rfl, _, rfl, Or.inl ⟨rfl, r, h, rfl⟩⟩
def WP_parentOf (S Z Z' : ZT) (d q : Int) (k : Int) (v9 : Int64) : Prop := (k = 0 ∧ ∃ r : Int, (((0 ≤ d ∧ d < S 0 0 5 ∧ 0 ≤ q ∧ q < S 2 d 4) ∧ r = S 3 d q) ∧ Z' = Z) ∧ v9 = (iI r).toInt64) ∨ (k = 1 ∧ ¬ (0 ≤ d ∧ d < S 0 0 5 ∧ 0 ≤ q ∧ q < S 2 d 4) ∧ Z' = Z)
set_option maxRecDepth 100000 in
set_option maxHeartbeats 8000000 in
theorem cw_parentOf {l : Launch} {D : va_G} {cys : Nat → ClassId} {ad : Nat → Int → Nat} {L : List Nat} {g : Nat → va_E} {X : Int64} {Z : ZT} (hi : injA ad) (hst : l.stackTraces = false) {S : ZT} {d q : Int} (hS : SP S Z) (hW : WF S) (hd : inR d) (hq : inR q) {ao : Nat} {v0 : Int64} (hao : ao ∈ L) (hns : ¬ isS ad ao) (hgo : g ao = OUT cys v0) : CW l D cys ad yL_parentOf cL_parentOf 5 (some .int) [(0, 10, 13, 21)] 9 156 2 12 [.ref (ad 0 0), .int (iI d), .int (iI q), .ref ao] L g X Z (PGI L g X Z (fun k L9 g9 X9 Z9 => L9 = L ∧ X9 = X ∧ ∃ v9 : Int64, g9 = va_up g ao (OUT cys v9) ∧ WP_parentOf S Z Z9 d q k v9)) := by
  refine cw_start hi (by decide +kernel) (Nat.le_of_ble_eq_true rfl) ?_
  intro p_ e_ s_ m_ args_ below_ meth_ c_ A_ Q_ hQ G hr hN hT
  have eg := up_same hgo
  refine j_aload_n G dL_parentOf_0 rfl ?_
  refine j_iconst G dL_parentOf_1 ?_
  refine j_aload_n G dL_parentOf_2 rfl ?_
  refine j_iload_n G dL_parentOf_3 rfl ?_
  refine j_iload_n G dL_parentOf_4 rfl ?_
  refine j_c1 G (PP := (fun r Z' => ((0 ≤ d ∧ d < S 0 0 5 ∧ 0 ≤ q ∧ q < S 2 d 4) ∧ r = S 3 d q) ∧ Z' = Z)) (x1 := ({ startPc := 0, endPc := 10, handlerPc := 13, catchType := 21 } : ExceptionTableEntry)) (n1 := exI) hT (by decide) (by decide) (TW_of 622 (by decide +kernel) (by decide +kernel)) (List.mem_of_getElem? (i := 2) rfl) cvX6_parentOf mlL_30 (c_X6_parentOf hi hst (by assumption) (by assumption) (by assumption) (by assumption)) dL_parentOf_5 ⟨by decide, by decide⟩ ⟨by decide, by decide⟩ rfl rfl (Nat.le_of_ble_eq_true rfl) (by decide) rfl rfl rfl (fun E Z1 h => h.1) (fun _ _ _ _ _ h => by obtain ⟨r, e1, e2, e3, e4, e5, e6⟩ := h; exact ⟨r, e1, ⟨e2, e6⟩, e3, e4, e5⟩) (fun Z1 q h => ?_) (fun r Z1 h => ?_)
  · refine j_astore G dL_parentOf_13 (by decide) rfl ?_
    refine j_iconst G dL_parentOf_15 ?_
    refine jr_GI G hQ hr dL_parentOf_16 (by decide) (by decide) ?_
    exact ⟨rfl, rfl, v0, eg.symm, Or.inr ⟨rfl, h.2⟩⟩
  · refine j_i2l G dL_parentOf_8 ?_
    refine j_lastO G dL_parentOf_9 hao hns hgo ?_
    refine j_goto G 17 dL_parentOf_10 (by decide) ?_
    refine j_iconst G dL_parentOf_17 ?_
    refine jr_GI G hQ hr dL_parentOf_18 (by decide) (by decide) ?_
    exact ⟨rfl, rfl, _, rfl, Or.inl ⟨rfl, r, h, rfl⟩⟩
def WP_levelOf (S Z Z' : ZT) (d q : Int) (k : Int) (v9 : Int64) : Prop := (k = 0 ∧ ∃ r : Int, (((0 ≤ d ∧ d < S 0 0 5 ∧ 0 ≤ q ∧ q < S 2 d 4) ∧ r = S 4 d q) ∧ Z' = Z) ∧ v9 = (iI r).toInt64) ∨ (k = 1 ∧ ¬ (0 ≤ d ∧ d < S 0 0 5 ∧ 0 ≤ q ∧ q < S 2 d 4) ∧ Z' = Z)
set_option maxRecDepth 100000 in
set_option maxHeartbeats 8000000 in
theorem cw_levelOf {l : Launch} {D : va_G} {cys : Nat → ClassId} {ad : Nat → Int → Nat} {L : List Nat} {g : Nat → va_E} {X : Int64} {Z : ZT} (hi : injA ad) (hst : l.stackTraces = false) {S : ZT} {d q : Int} (hS : SP S Z) (hW : WF S) (hd : inR d) (hq : inR q) {ao : Nat} {v0 : Int64} (hao : ao ∈ L) (hns : ¬ isS ad ao) (hgo : g ao = OUT cys v0) : CW l D cys ad yL_levelOf cL_levelOf 5 (some .int) [(0, 10, 13, 21)] 9 156 2 12 [.ref (ad 0 0), .int (iI d), .int (iI q), .ref ao] L g X Z (PGI L g X Z (fun k L9 g9 X9 Z9 => L9 = L ∧ X9 = X ∧ ∃ v9 : Int64, g9 = va_up g ao (OUT cys v9) ∧ WP_levelOf S Z Z9 d q k v9)) := by
  refine cw_start hi (by decide +kernel) (Nat.le_of_ble_eq_true rfl) ?_
  intro p_ e_ s_ m_ args_ below_ meth_ c_ A_ Q_ hQ G hr hN hT
  have eg := up_same hgo
  refine j_aload_n G dL_levelOf_0 rfl ?_
  refine j_iconst G dL_levelOf_1 ?_
  refine j_aload_n G dL_levelOf_2 rfl ?_
  refine j_iload_n G dL_levelOf_3 rfl ?_
  refine j_iload_n G dL_levelOf_4 rfl ?_
  refine j_c1 G (PP := (fun r Z' => ((0 ≤ d ∧ d < S 0 0 5 ∧ 0 ≤ q ∧ q < S 2 d 4) ∧ r = S 4 d q) ∧ Z' = Z)) (x1 := ({ startPc := 0, endPc := 10, handlerPc := 13, catchType := 21 } : ExceptionTableEntry)) (n1 := exI) hT (by decide) (by decide) (TW_of 622 (by decide +kernel) (by decide +kernel)) (List.mem_of_getElem? (i := 2) rfl) cvX6_levelOf mlL_33 (c_X6_levelOf hi hst (by assumption) (by assumption) (by assumption) (by assumption)) dL_levelOf_5 ⟨by decide, by decide⟩ ⟨by decide, by decide⟩ rfl rfl (Nat.le_of_ble_eq_true rfl) (by decide) rfl rfl rfl (fun E Z1 h => h.1) (fun _ _ _ _ _ h => by obtain ⟨r, e1, e2, e3, e4, e5, e6⟩ := h; exact ⟨r, e1, ⟨e2, e6⟩, e3, e4, e5⟩) (fun Z1 q h => ?_) (fun r Z1 h => ?_)
  · refine j_astore G dL_levelOf_13 (by decide) rfl ?_
    refine j_iconst G dL_levelOf_15 ?_
    refine jr_GI G hQ hr dL_levelOf_16 (by decide) (by decide) ?_
    exact ⟨rfl, rfl, v0, eg.symm, Or.inr ⟨rfl, h.2⟩⟩
  · refine j_i2l G dL_levelOf_8 ?_
    refine j_lastO G dL_levelOf_9 hao hns hgo ?_
    refine j_goto G 17 dL_levelOf_10 (by decide) ?_
    refine j_iconst G dL_levelOf_17 ?_
    refine jr_GI G hQ hr dL_levelOf_18 (by decide) (by decide) ?_
    exact ⟨rfl, rfl, _, rfl, Or.inl ⟨rfl, r, h, rfl⟩⟩
def WP_memberAt (S Z Z' : ZT) (d q w : Int) (k : Int) (v9 : Int64) : Prop := (k = 0 ∧ ∃ r : Int, ((0 ≤ d ∧ d < S 0 0 5 ∧ 0 ≤ q ∧ q ≤ S 2 d 3 ∧ 0 ≤ w ∧ w < (wk S d 0 q).length) ∧ r = (wk S d 0 q).getD w.toNat 0 ∧ SP S Z') ∧ v9 = (iI r).toInt64) ∨ (k = 1 ∧ ¬ (0 ≤ d ∧ d < S 0 0 5 ∧ 0 ≤ q ∧ q ≤ S 2 d 3 ∧ 0 ≤ w ∧ w < (wk S d 0 q).length) ∧ SP S Z')
set_option maxRecDepth 100000 in
set_option maxHeartbeats 8000000 in
theorem cw_memberAt {l : Launch} {D : va_G} {cys : Nat → ClassId} {ad : Nat → Int → Nat} {L : List Nat} {g : Nat → va_E} {X : Int64} {Z : ZT} (hi : injA ad) (hst : l.stackTraces = false) {S : ZT} {d q w : Int} (hS : SP S Z) (hW : WF S) (hd : inR d) (hq : inR q) (hw : inR w) {ao : Nat} {v0 : Int64} (hao : ao ∈ L) (hns : ¬ isS ad ao) (hgo : g ao = OUT cys v0) : CW l D cys ad yL_memberAt cL_memberAt 6 (some .int) [(0, 12, 15, 21)] 9 158 3 18 [.ref (ad 0 0), .int (iI d), .int (iI q), .int (iI w), .ref ao] L g X Z (PGI L g X Z (fun k L9 g9 X9 Z9 => L9 = L ∧ X9 = X ∧ ∃ v9 : Int64, g9 = va_up g ao (OUT cys v9) ∧ WP_memberAt S Z Z9 d q w k v9)) := by
  refine cw_start hi (by decide +kernel) (Nat.le_of_ble_eq_true rfl) ?_
  intro p_ e_ s_ m_ args_ below_ meth_ c_ A_ Q_ hQ G hr hN hT
  have eg := up_same hgo
  refine j_aload G dL_memberAt_0 rfl ?_
  refine j_iconst G dL_memberAt_2 ?_
  refine j_aload_n G dL_memberAt_3 rfl ?_
  refine j_iload_n G dL_memberAt_4 rfl ?_
  refine j_iload_n G dL_memberAt_5 rfl ?_
  refine j_iload_n G dL_memberAt_6 rfl ?_
  refine j_c1 G (PP := (fun r Z' => (0 ≤ d ∧ d < S 0 0 5 ∧ 0 ≤ q ∧ q ≤ S 2 d 3 ∧ 0 ≤ w ∧ w < (wk S d 0 q).length) ∧ r = (wk S d 0 q).getD w.toNat 0 ∧ SP S Z')) (x1 := ({ startPc := 0, endPc := 12, handlerPc := 15, catchType := 21 } : ExceptionTableEntry)) (n1 := exI) hT (by decide) (by decide) (TW_of 622 (by decide +kernel) (by decide +kernel)) (List.mem_of_getElem? (i := 2) rfl) cvX6_memberAt mlL_36 (c_X6_memberAt hi hst (by assumption) (by assumption) (by assumption) (by assumption) (by assumption)) dL_memberAt_7 ⟨by decide, by decide⟩ ⟨by decide, by decide⟩ rfl rfl (Nat.le_of_ble_eq_true rfl) (by decide) rfl rfl rfl (fun E Z1 h => h.1) (fun _ _ _ _ _ h => h) (fun Z1 q h => ?_) (fun r Z1 h => ?_)
  · refine j_astore G dL_memberAt_15 (by decide) rfl ?_
    refine j_iconst G dL_memberAt_17 ?_
    refine jr_GI G hQ hr dL_memberAt_18 (by decide) (by decide) ?_
    exact ⟨rfl, rfl, v0, eg.symm, Or.inr ⟨rfl, h.2⟩⟩
  · refine j_i2l G dL_memberAt_10 ?_
    refine j_lastO G dL_memberAt_11 hao hns hgo ?_
    refine j_goto G 19 dL_memberAt_12 (by decide) ?_
    refine j_iconst G dL_memberAt_19 ?_
    refine jr_GI G hQ hr dL_memberAt_20 (by decide) (by decide) ?_
    exact ⟨rfl, rfl, _, rfl, Or.inl ⟨rfl, r, h, rfl⟩⟩
def WP_leaveOut (S Z Z' : ZT) (d q b : Int) (k : Int) (v9 : Int64) : Prop := (k = 0 ∧ ∃ r : Int, ((0 ≤ d ∧ d < S 0 0 5 ∧ 0 ≤ q ∧ q < S 2 d 4) ∧ r = S 5 d q ∧ M_leaveOut S d q b Z') ∧ v9 = (if r = 0 then 0 else 1)) ∨ (k = 1 ∧ ¬ (0 ≤ d ∧ d < S 0 0 5 ∧ 0 ≤ q ∧ q < S 2 d 4) ∧ Z' = Z)
set_option maxRecDepth 100000 in
set_option maxHeartbeats 8000000 in
theorem cw_leaveOut {l : Launch} {D : va_G} {cys : Nat → ClassId} {ad : Nat → Int → Nat} {L : List Nat} {g : Nat → va_E} {X : Int64} {Z : ZT} (hi : injA ad) (hst : l.stackTraces = false) {S : ZT} {d q b : Int} (hS : SP S Z) (hW : WF S) (hd : inR d) (hq : inR q) (hb : b = 0 ∨ b = 1) {ao : Nat} {v0 : Int64} (hao : ao ∈ L) (hns : ¬ isS ad ao) (hgo : g ao = OUT cys v0) : CW l D cys ad yL_leaveOut cL_leaveOut 6 (some .int) [(0, 19, 22, 21)] 9 159 2 12 [.ref (ad 0 0), .int (iI d), .int (iI q), .int (iI b), .ref ao] L g X Z (PGI L g X Z (fun k L9 g9 X9 Z9 => L9 = L ∧ X9 = X ∧ ∃ v9 : Int64, g9 = va_up g ao (OUT cys v9) ∧ WP_leaveOut S Z Z9 d q b k v9)) := by
  refine cw_start hi (by decide +kernel) (Nat.le_of_ble_eq_true rfl) ?_
  intro p_ e_ s_ m_ args_ below_ meth_ c_ A_ Q_ hQ G hr hN hT
  have eg := up_same hgo
  refine j_aload G dL_leaveOut_0 rfl ?_
  refine j_iconst G dL_leaveOut_2 ?_
  refine j_aload_n G dL_leaveOut_3 rfl ?_
  refine j_iload_n G dL_leaveOut_4 rfl ?_
  refine j_iload_n G dL_leaveOut_5 rfl ?_
  refine j_iload_n G dL_leaveOut_6 rfl ?_
  refine j_c1 G (PP := (fun r Z' => (0 ≤ d ∧ d < S 0 0 5 ∧ 0 ≤ q ∧ q < S 2 d 4) ∧ r = S 5 d q ∧ M_leaveOut S d q b Z')) (x1 := ({ startPc := 0, endPc := 19, handlerPc := 22, catchType := 21 } : ExceptionTableEntry)) (n1 := exI) hT (by decide) (by decide) (TW_of 622 (by decide +kernel) (by decide +kernel)) (List.mem_of_getElem? (i := 2) rfl) cvX6_leaveOut mlL_39 (c_X6_leaveOut hi hst (by assumption) (by assumption) (by assumption) (by assumption) (by assumption)) dL_leaveOut_7 ⟨by decide, by decide⟩ ⟨by decide, by decide⟩ rfl rfl (Nat.le_of_ble_eq_true rfl) (by decide) rfl rfl rfl (fun E Z1 h => h.1) (fun _ _ _ _ _ h => h) (fun Z1 q h => ?_) (fun r Z1 h => ?_)
  · refine j_astore G dL_leaveOut_22 (by decide) rfl ?_
    refine j_iconst G dL_leaveOut_24 ?_
    refine jr_GI G hQ hr dL_leaveOut_25 (by decide) (by decide) ?_
    exact ⟨rfl, rfl, v0, eg.symm, Or.inr ⟨rfl, h.2⟩⟩
  · have hb01 : r = 0 ∨ r = 1 := by
      rw [h.2.1]; exact (hW.t h.1.1 h.1.2.1).2.2 q h.1.2.2.1 (by have := (hW.t h.1.1 h.1.2.1).1; have := h.1; omega)
    refine j_if_eq G 17 dL_leaveOut_10 (by decide) (by rcases hb01 with z | z <;> rw [z] <;> decide) (fun c0 => ?_) (fun c0 => ?_)
    · refine j_lconst G dL_leaveOut_17 rfl ?_
      refine j_lastO G dL_leaveOut_18 hao hns hgo ?_
      refine j_goto G 26 dL_leaveOut_19 (by decide) ?_
      refine j_iconst G dL_leaveOut_26 ?_
      refine jr_GI G hQ hr dL_leaveOut_27 (by decide) (by decide) ?_
      exact ⟨rfl, rfl, _, rfl, Or.inl ⟨rfl, r, h, by rw [if_pos c0]; rfl⟩⟩
    · refine j_lconst G dL_leaveOut_13 rfl ?_
      refine j_goto G 18 dL_leaveOut_14 (by decide) ?_
      refine j_lastO G dL_leaveOut_18 hao hns hgo ?_
      refine j_goto G 26 dL_leaveOut_19 (by decide) ?_
      refine j_iconst G dL_leaveOut_26 ?_
      refine jr_GI G hQ hr dL_leaveOut_27 (by decide) (by decide) ?_
      exact ⟨rfl, rfl, _, rfl, Or.inl ⟨rfl, r, h, by rw [if_neg c0]; rfl⟩⟩
def WP_goTo (S Z Z' : ZT) (d q : Int) (k : Int) (v9 : Int64) : Prop := (k = 0 ∧ ∃ r : Int, ((0 ≤ d ∧ d < S 0 0 5 ∧ 0 ≤ q ∧ q < S 2 d 4) ∧ r = S 2 d 5 ∧ M_goTo S d q Z') ∧ v9 = (iI r).toInt64) ∨ (k = 1 ∧ ¬ (0 ≤ d ∧ d < S 0 0 5 ∧ 0 ≤ q ∧ q < S 2 d 4) ∧ Z' = Z)
set_option maxRecDepth 100000 in
set_option maxHeartbeats 8000000 in
theorem cw_goTo {l : Launch} {D : va_G} {cys : Nat → ClassId} {ad : Nat → Int → Nat} {L : List Nat} {g : Nat → va_E} {X : Int64} {Z : ZT} (hi : injA ad) (hst : l.stackTraces = false) {S : ZT} {d q : Int} (hS : SP S Z) (hW : WF S) (hd : inR d) (hq : inR q) {ao : Nat} {v0 : Int64} (hao : ao ∈ L) (hns : ¬ isS ad ao) (hgo : g ao = OUT cys v0) : CW l D cys ad yL_goTo cL_goTo 5 (some .int) [(0, 10, 13, 21)] 9 158 2 12 [.ref (ad 0 0), .int (iI d), .int (iI q), .ref ao] L g X Z (PGI L g X Z (fun k L9 g9 X9 Z9 => L9 = L ∧ X9 = X ∧ ∃ v9 : Int64, g9 = va_up g ao (OUT cys v9) ∧ WP_goTo S Z Z9 d q k v9)) := by
  refine cw_start hi (by decide +kernel) (Nat.le_of_ble_eq_true rfl) ?_
  intro p_ e_ s_ m_ args_ below_ meth_ c_ A_ Q_ hQ G hr hN hT
  have eg := up_same hgo
  refine j_aload_n G dL_goTo_0 rfl ?_
  refine j_iconst G dL_goTo_1 ?_
  refine j_aload_n G dL_goTo_2 rfl ?_
  refine j_iload_n G dL_goTo_3 rfl ?_
  refine j_iload_n G dL_goTo_4 rfl ?_
  refine j_c1 G (PP := (fun r Z' => (0 ≤ d ∧ d < S 0 0 5 ∧ 0 ≤ q ∧ q < S 2 d 4) ∧ r = S 2 d 5 ∧ M_goTo S d q Z')) (x1 := ({ startPc := 0, endPc := 10, handlerPc := 13, catchType := 21 } : ExceptionTableEntry)) (n1 := exI) hT (by decide) (by decide) (TW_of 622 (by decide +kernel) (by decide +kernel)) (List.mem_of_getElem? (i := 2) rfl) cvX6_goTo mlL_43 (c_X6_goTo hi hst (by assumption) (by assumption) (by assumption) (by assumption)) dL_goTo_5 ⟨by decide, by decide⟩ ⟨by decide, by decide⟩ rfl rfl (Nat.le_of_ble_eq_true rfl) (by decide) rfl rfl rfl (fun E Z1 h => h.1) (fun _ _ _ _ _ h => h) (fun Z1 q h => ?_) (fun r Z1 h => ?_)
  · refine j_astore G dL_goTo_13 (by decide) rfl ?_
    refine j_iconst G dL_goTo_15 ?_
    refine jr_GI G hQ hr dL_goTo_16 (by decide) (by decide) ?_
    exact ⟨rfl, rfl, v0, eg.symm, Or.inr ⟨rfl, h.2⟩⟩
  · refine j_i2l G dL_goTo_8 ?_
    refine j_lastO G dL_goTo_9 hao hns hgo ?_
    refine j_goto G 17 dL_goTo_10 (by decide) ?_
    refine j_iconst G dL_goTo_17 ?_
    refine jr_GI G hQ hr dL_goTo_18 (by decide) (by decide) ?_
    exact ⟨rfl, rfl, _, rfl, Or.inl ⟨rfl, r, h, rfl⟩⟩
def WP_goUp (S Z Z' : ZT) (d : Int) (k : Int) (v9 : Int64) : Prop := (k = 0 ∧ ∃ r : Int, ((0 ≤ d ∧ d < S 0 0 5) ∧ ((S 2 d 5 = 0 ∧ r = -1 ∧ SP S Z') ∨ (S 2 d 5 ≠ 0 ∧ r = S 3 d (S 2 d 5) ∧ M_goTo S d (S 3 d (S 2 d 5)) Z'))) ∧ v9 = (iI r).toInt64) ∨ (k = 1 ∧ ¬ (0 ≤ d ∧ d < S 0 0 5) ∧ Z' = Z)
set_option maxRecDepth 100000 in
set_option maxHeartbeats 8000000 in
theorem cw_goUp {l : Launch} {D : va_G} {cys : Nat → ClassId} {ad : Nat → Int → Nat} {L : List Nat} {g : Nat → va_E} {X : Int64} {Z : ZT} (hi : injA ad) (hst : l.stackTraces = false) {S : ZT} {d : Int} (hS : SP S Z) (hW : WF S) (hd : inR d) {ao : Nat} {v0 : Int64} (hao : ao ∈ L) (hns : ¬ isS ad ao) (hgo : g ao = OUT cys v0) : CW l D cys ad yL_goUp cL_goUp 4 (some .int) [(0, 9, 12, 21)] 8 133 1 6 [.ref (ad 0 0), .int (iI d), .ref ao] L g X Z (PGI L g X Z (fun k L9 g9 X9 Z9 => L9 = L ∧ X9 = X ∧ ∃ v9 : Int64, g9 = va_up g ao (OUT cys v9) ∧ WP_goUp S Z Z9 d k v9)) := by
  refine cw_start hi (by decide +kernel) (Nat.le_of_ble_eq_true rfl) ?_
  intro p_ e_ s_ m_ args_ below_ meth_ c_ A_ Q_ hQ G hr hN hT
  have eg := up_same hgo
  refine j_aload_n G dL_goUp_0 rfl ?_
  refine j_iconst G dL_goUp_1 ?_
  refine j_aload_n G dL_goUp_2 rfl ?_
  refine j_iload_n G dL_goUp_3 rfl ?_
  refine j_c1 G (PP := (fun r Z' => (0 ≤ d ∧ d < S 0 0 5) ∧ ((S 2 d 5 = 0 ∧ r = -1 ∧ SP S Z') ∨ (S 2 d 5 ≠ 0 ∧ r = S 3 d (S 2 d 5) ∧ M_goTo S d (S 3 d (S 2 d 5)) Z')))) (x1 := ({ startPc := 0, endPc := 9, handlerPc := 12, catchType := 21 } : ExceptionTableEntry)) (n1 := exI) hT (by decide) (by decide) (TW_of 622 (by decide +kernel) (by decide +kernel)) (List.mem_of_getElem? (i := 2) rfl) cvX6_goUp mlL_46 (c_X6_goUp hi hst (by assumption) (by assumption) (by assumption)) dL_goUp_4 ⟨by decide, by decide⟩ ⟨by decide, by decide⟩ rfl rfl (Nat.le_of_ble_eq_true rfl) (by decide) rfl rfl rfl (fun E Z1 h => h.1) (fun _ _ _ _ _ h => h) (fun Z1 q h => ?_) (fun r Z1 h => ?_)
  · refine j_astore_n G dL_goUp_12 (by decide) rfl ?_
    refine j_iconst G dL_goUp_13 ?_
    refine jr_GI G hQ hr dL_goUp_14 (by decide) (by decide) ?_
    exact ⟨rfl, rfl, v0, eg.symm, Or.inr ⟨rfl, h.2⟩⟩
  · refine j_i2l G dL_goUp_7 ?_
    refine j_lastO G dL_goUp_8 hao hns hgo ?_
    refine j_goto G 15 dL_goUp_9 (by decide) ?_
    refine j_iconst G dL_goUp_15 ?_
    refine jr_GI G hQ hr dL_goUp_16 (by decide) (by decide) ?_
    exact ⟨rfl, rfl, _, rfl, Or.inl ⟨rfl, r, h, rfl⟩⟩
def WP_pointOf (S Z Z' : ZT) (d : Int) (k : Int) (v9 : Int64) : Prop := (k = 0 ∧ ∃ r : Int, (((0 ≤ d ∧ d < S 0 0 5) ∧ r = S 2 d 5) ∧ Z' = Z) ∧ v9 = (iI r).toInt64) ∨ (k = 1 ∧ ¬ (0 ≤ d ∧ d < S 0 0 5) ∧ Z' = Z)
set_option maxRecDepth 100000 in
set_option maxHeartbeats 8000000 in
theorem cw_pointOf {l : Launch} {D : va_G} {cys : Nat → ClassId} {ad : Nat → Int → Nat} {L : List Nat} {g : Nat → va_E} {X : Int64} {Z : ZT} (hi : injA ad) (hst : l.stackTraces = false) {S : ZT} {d : Int} (hS : SP S Z) (hW : WF S) (hd : inR d) {ao : Nat} {v0 : Int64} (hao : ao ∈ L) (hns : ¬ isS ad ao) (hgo : g ao = OUT cys v0) : CW l D cys ad yL_pointOf cL_pointOf 4 (some .int) [(0, 9, 12, 21)] 8 132 1 6 [.ref (ad 0 0), .int (iI d), .ref ao] L g X Z (PGI L g X Z (fun k L9 g9 X9 Z9 => L9 = L ∧ X9 = X ∧ ∃ v9 : Int64, g9 = va_up g ao (OUT cys v9) ∧ WP_pointOf S Z Z9 d k v9)) := by
  refine cw_start hi (by decide +kernel) (Nat.le_of_ble_eq_true rfl) ?_
  intro p_ e_ s_ m_ args_ below_ meth_ c_ A_ Q_ hQ G hr hN hT
  have eg := up_same hgo
  refine j_aload_n G dL_pointOf_0 rfl ?_
  refine j_iconst G dL_pointOf_1 ?_
  refine j_aload_n G dL_pointOf_2 rfl ?_
  refine j_iload_n G dL_pointOf_3 rfl ?_
  refine j_c1 G (PP := (fun r Z' => ((0 ≤ d ∧ d < S 0 0 5) ∧ r = S 2 d 5) ∧ Z' = Z)) (x1 := ({ startPc := 0, endPc := 9, handlerPc := 12, catchType := 21 } : ExceptionTableEntry)) (n1 := exI) hT (by decide) (by decide) (TW_of 622 (by decide +kernel) (by decide +kernel)) (List.mem_of_getElem? (i := 2) rfl) cvX6_pointOf mlL_49 (c_X6_pointOf hi hst (by assumption) (by assumption) (by assumption)) dL_pointOf_4 ⟨by decide, by decide⟩ ⟨by decide, by decide⟩ rfl rfl (Nat.le_of_ble_eq_true rfl) (by decide) rfl rfl rfl (fun E Z1 h => h.1) (fun _ _ _ _ _ h => by obtain ⟨r, e1, e2, e3, e4, e5, e6⟩ := h; exact ⟨r, e1, ⟨e2, e6⟩, e3, e4, e5⟩) (fun Z1 q h => ?_) (fun r Z1 h => ?_)
  · refine j_astore_n G dL_pointOf_12 (by decide) rfl ?_
    refine j_iconst G dL_pointOf_13 ?_
    refine jr_GI G hQ hr dL_pointOf_14 (by decide) (by decide) ?_
    exact ⟨rfl, rfl, v0, eg.symm, Or.inr ⟨rfl, h.2⟩⟩
  · refine j_i2l G dL_pointOf_7 ?_
    refine j_lastO G dL_pointOf_8 hao hns hgo ?_
    refine j_goto G 15 dL_pointOf_9 (by decide) ?_
    refine j_iconst G dL_pointOf_15 ?_
    refine jr_GI G hQ hr dL_pointOf_16 (by decide) (by decide) ?_
    exact ⟨rfl, rfl, _, rfl, Or.inl ⟨rfl, r, h, rfl⟩⟩
def WP_add (S Z Z' : ZT) (v : Int) (k : Int) (v9 : Int64) : Prop := (k = 0 ∧ ∃ r : Int, ((-10000 ≤ v ∧ v ≤ 10000) ∧ ((0 < S 0 0 5 ∧ ∀ d, 0 ≤ d → d < S 0 0 5 → S 4 d (S 2 d 5) = S 2 d 3) ∧ S 6 0 3 < 80) ∧ r = S 6 0 3 ∧ M_add S v Z') ∧ v9 = (iI r).toInt64) ∨ (k = 1 ∧ (¬ (-10000 ≤ v ∧ v ≤ 10000)) ∧ Z' = Z) ∨ (k = 2 ∧ ((-10000 ≤ v ∧ v ≤ 10000) ∧ ¬ ((0 < S 0 0 5 ∧ ∀ d, 0 ≤ d → d < S 0 0 5 → S 4 d (S 2 d 5) = S 2 d 3) ∧ S 6 0 3 < 80)) ∧ Z' = Z)
set_option maxRecDepth 100000 in
set_option maxHeartbeats 8000000 in
theorem cw_add {l : Launch} {D : va_G} {cys : Nat → ClassId} {ad : Nat → Int → Nat} {L : List Nat} {g : Nat → va_E} {X : Int64} {Z : ZT} (hi : injA ad) (hst : l.stackTraces = false) {S : ZT} {v : Int} (hS : SP S Z) (hW : WF S) (hv : inR v) {ao : Nat} {v0 : Int64} (hao : ao ∈ L) (hns : ¬ isS ad ao) (hgo : g ao = OUT cys v0) : CW l D cys ad yL_add cL_add 4 (some .int) [(0, 9, 12, 13), (0, 9, 15, 15)] 7 113 1 6 [.ref (ad 0 0), .int (iI v), .ref ao] L g X Z (PGI L g X Z (fun k L9 g9 X9 Z9 => L9 = L ∧ X9 = X ∧ ∃ v9 : Int64, g9 = va_up g ao (OUT cys v9) ∧ WP_add S Z Z9 v k v9)) := by
  refine cw_start hi (by decide +kernel) (Nat.le_of_ble_eq_true rfl) ?_
  intro p_ e_ s_ m_ args_ below_ meth_ c_ A_ Q_ hQ G hr hN hT
  have eg := up_same hgo
  refine j_aload_n G dL_add_0 rfl ?_
  refine j_iconst G dL_add_1 ?_
  refine j_aload_n G dL_add_2 rfl ?_
  refine j_iload_n G dL_add_3 rfl ?_
  refine j_c2 G hN (PP := (fun r Z' => (-10000 ≤ v ∧ v ≤ 10000) ∧ ((0 < S 0 0 5 ∧ ∀ d, 0 ≤ d → d < S 0 0 5 → S 4 d (S 2 d 5) = S 2 d 3) ∧ S 6 0 3 < 80) ∧ r = S 6 0 3 ∧ M_add S v Z')) (x1 := ({ startPc := 0, endPc := 9, handlerPc := 12, catchType := 13 } : ExceptionTableEntry)) (x2 := ({ startPc := 0, endPc := 9, handlerPc := 15, catchType := 15 } : ExceptionTableEntry)) (n1 := exA) (n2 := exS) hT (by decide) (by decide) (TW_of 517 (by decide +kernel) (by decide +kernel)) (List.mem_of_getElem? (i := 0) rfl) (by decide) (by decide) (TW_of 518 (by decide +kernel) (by decide +kernel)) (List.mem_of_getElem? (i := 1) rfl) (List.mem_of_getElem? (i := 0) rfl) cvX6_add mlL_52 (c_X6_add hi hst (by assumption) (by assumption) (by assumption)) dL_add_4 ⟨by decide, by decide⟩ ⟨by decide, by decide⟩ rfl rfl (Nat.le_of_ble_eq_true rfl) (by decide) rfl rfl rfl (fun E Z1 h => h.1.elim (fun z => Or.inl z.1) (fun z => Or.inr z.1)) (fun _ _ _ _ _ h => h) (fun Z1 q h => ?_) (fun Z1 q h => ?_) (fun r Z1 h => ?_)
  · refine j_astore_n G dL_add_12 (by decide) rfl ?_
    refine j_iconst G dL_add_13 ?_
    refine jr_GI G hQ hr dL_add_14 (by decide) (by decide) ?_
    exact ⟨rfl, rfl, v0, eg.symm, Or.inr (Or.inl ⟨rfl, ⟨h.1.elim (fun z => z.2) (fun z => absurd z.1 (by decide +kernel)), h.2⟩⟩)⟩
  · refine j_astore_n G dL_add_15 (by decide) rfl ?_
    refine j_iconst G dL_add_16 ?_
    refine jr_GI G hQ hr dL_add_17 (by decide) (by decide) ?_
    exact ⟨rfl, rfl, v0, eg.symm, Or.inr (Or.inr ⟨rfl, ⟨h.1.elim (fun z => absurd z.1 (by decide +kernel)) (fun z => z.2), h.2⟩⟩)⟩
  · refine j_i2l G dL_add_7 ?_
    refine j_lastO G dL_add_8 hao hns hgo ?_
    refine j_goto G 18 dL_add_9 (by decide) ?_
    refine j_iconst G dL_add_18 ?_
    refine jr_GI G hQ hr dL_add_19 (by decide) (by decide) ?_
    exact ⟨rfl, rfl, _, rfl, Or.inl ⟨rfl, r, h, rfl⟩⟩
def WP_drop (S Z Z' : ZT) (q : Int) (k : Int) (v9 : Int64) : Prop := (k = 0 ∧ ∃ r : Int, ((0 ≤ q ∧ q < S 6 0 3) ∧ r = S 9 0 q ∧ M_drop S q Z') ∧ v9 = (iI r).toInt64) ∨ (k = 1 ∧ ¬ (0 ≤ q ∧ q < S 6 0 3) ∧ Z' = Z)
set_option maxRecDepth 100000 in
set_option maxHeartbeats 8000000 in
theorem cw_drop {l : Launch} {D : va_G} {cys : Nat → ClassId} {ad : Nat → Int → Nat} {L : List Nat} {g : Nat → va_E} {X : Int64} {Z : ZT} (hi : injA ad) (hst : l.stackTraces = false) {S : ZT} {q : Int} (hS : SP S Z) (hW : WF S) (hq : inR q) {ao : Nat} {v0 : Int64} (hao : ao ∈ L) (hns : ¬ isS ad ao) (hgo : g ao = OUT cys v0) : CW l D cys ad yL_drop cL_drop 4 (some .int) [(0, 9, 12, 21)] 7 112 1 6 [.ref (ad 0 0), .int (iI q), .ref ao] L g X Z (PGI L g X Z (fun k L9 g9 X9 Z9 => L9 = L ∧ X9 = X ∧ ∃ v9 : Int64, g9 = va_up g ao (OUT cys v9) ∧ WP_drop S Z Z9 q k v9)) := by
  refine cw_start hi (by decide +kernel) (Nat.le_of_ble_eq_true rfl) ?_
  intro p_ e_ s_ m_ args_ below_ meth_ c_ A_ Q_ hQ G hr hN hT
  have eg := up_same hgo
  refine j_aload_n G dL_drop_0 rfl ?_
  refine j_iconst G dL_drop_1 ?_
  refine j_aload_n G dL_drop_2 rfl ?_
  refine j_iload_n G dL_drop_3 rfl ?_
  refine j_c1 G (PP := (fun r Z' => (0 ≤ q ∧ q < S 6 0 3) ∧ r = S 9 0 q ∧ M_drop S q Z')) (x1 := ({ startPc := 0, endPc := 9, handlerPc := 12, catchType := 21 } : ExceptionTableEntry)) (n1 := exI) hT (by decide) (by decide) (TW_of 622 (by decide +kernel) (by decide +kernel)) (List.mem_of_getElem? (i := 2) rfl) cvX6_drop mlL_55 (c_X6_drop hi hst (by assumption) (by assumption) (by assumption)) dL_drop_4 ⟨by decide, by decide⟩ ⟨by decide, by decide⟩ rfl rfl (Nat.le_of_ble_eq_true rfl) (by decide) rfl rfl rfl (fun E Z1 h => h.1) (fun _ _ _ _ _ h => h) (fun Z1 q h => ?_) (fun r Z1 h => ?_)
  · refine j_astore_n G dL_drop_12 (by decide) rfl ?_
    refine j_iconst G dL_drop_13 ?_
    refine jr_GI G hQ hr dL_drop_14 (by decide) (by decide) ?_
    exact ⟨rfl, rfl, v0, eg.symm, Or.inr ⟨rfl, h.2⟩⟩
  · refine j_i2l G dL_drop_7 ?_
    refine j_lastO G dL_drop_8 hao hns hgo ?_
    refine j_goto G 15 dL_drop_9 (by decide) ?_
    refine j_iconst G dL_drop_15 ?_
    refine jr_GI G hQ hr dL_drop_16 (by decide) (by decide) ?_
    exact ⟨rfl, rfl, _, rfl, Or.inl ⟨rfl, r, h, rfl⟩⟩
def WP_children (S Z Z' : ZT) (d : Int) (k : Int) (v9 : Int64) : Prop := (k = 0 ∧ ∃ r : Int, ((0 ≤ d ∧ d < S 0 0 5) ∧ r = (kids S d).length ∧ SP S Z') ∧ v9 = (iI r).toInt64) ∨ (k = 1 ∧ ¬ (0 ≤ d ∧ d < S 0 0 5) ∧ Z' = Z)
set_option maxRecDepth 100000 in
set_option maxHeartbeats 8000000 in
theorem cw_children {l : Launch} {D : va_G} {cys : Nat → ClassId} {ad : Nat → Int → Nat} {L : List Nat} {g : Nat → va_E} {X : Int64} {Z : ZT} (hi : injA ad) (hst : l.stackTraces = false) {S : ZT} {d : Int} (hS : SP S Z) (hW : WF S) (hd : inR d) {ao : Nat} {v0 : Int64} (hao : ao ∈ L) (hns : ¬ isS ad ao) (hgo : g ao = OUT cys v0) : CW l D cys ad yL_children cL_children 4 (some .int) [(0, 9, 12, 21)] 8 133 1 6 [.ref (ad 0 0), .int (iI d), .ref ao] L g X Z (PGI L g X Z (fun k L9 g9 X9 Z9 => L9 = L ∧ X9 = X ∧ ∃ v9 : Int64, g9 = va_up g ao (OUT cys v9) ∧ WP_children S Z Z9 d k v9)) := by
  refine cw_start hi (by decide +kernel) (Nat.le_of_ble_eq_true rfl) ?_
  intro p_ e_ s_ m_ args_ below_ meth_ c_ A_ Q_ hQ G hr hN hT
  have eg := up_same hgo
  refine j_aload_n G dL_children_0 rfl ?_
  refine j_iconst G dL_children_1 ?_
  refine j_aload_n G dL_children_2 rfl ?_
  refine j_iload_n G dL_children_3 rfl ?_
  refine j_c1 G (PP := (fun r Z' => (0 ≤ d ∧ d < S 0 0 5) ∧ r = (kids S d).length ∧ SP S Z')) (x1 := ({ startPc := 0, endPc := 9, handlerPc := 12, catchType := 21 } : ExceptionTableEntry)) (n1 := exI) hT (by decide) (by decide) (TW_of 622 (by decide +kernel) (by decide +kernel)) (List.mem_of_getElem? (i := 2) rfl) cvX6_children mlL_58 (c_X6_children hi hst (by assumption) (by assumption) (by assumption)) dL_children_4 ⟨by decide, by decide⟩ ⟨by decide, by decide⟩ rfl rfl (Nat.le_of_ble_eq_true rfl) (by decide) rfl rfl rfl (fun E Z1 h => h.1) (fun _ _ _ _ _ h => h) (fun Z1 q h => ?_) (fun r Z1 h => ?_)
  · refine j_astore_n G dL_children_12 (by decide) rfl ?_
    refine j_iconst G dL_children_13 ?_
    refine jr_GI G hQ hr dL_children_14 (by decide) (by decide) ?_
    exact ⟨rfl, rfl, v0, eg.symm, Or.inr ⟨rfl, h.2⟩⟩
  · refine j_i2l G dL_children_7 ?_
    refine j_lastO G dL_children_8 hao hns hgo ?_
    refine j_goto G 15 dL_children_9 (by decide) ?_
    refine j_iconst G dL_children_15 ?_
    refine jr_GI G hQ hr dL_children_16 (by decide) (by decide) ?_
    exact ⟨rfl, rfl, _, rfl, Or.inl ⟨rfl, r, h, rfl⟩⟩
def WP_sumOf (S Z Z' : ZT) (d q : Int) (k : Int) (v9 : Int64) : Prop := (k = 0 ∧ ∃ r : Int, ((0 ≤ d ∧ d < S 0 0 5) ∧ (0 ≤ q ∧ q < (kids S d).length) ∧ r = lsum S d q ∧ SP S Z') ∧ v9 = (iI r).toInt64) ∨ (k = 1 ∧ ¬ (0 ≤ d ∧ d < S 0 0 5 ∧ 0 ≤ q ∧ q < (kids S d).length) ∧ SP S Z')
set_option maxRecDepth 100000 in
set_option maxHeartbeats 8000000 in
theorem cw_sumOf {l : Launch} {D : va_G} {cys : Nat → ClassId} {ad : Nat → Int → Nat} {L : List Nat} {g : Nat → va_E} {X : Int64} {Z : ZT} (hi : injA ad) (hst : l.stackTraces = false) {S : ZT} {d q : Int} (hS : SP S Z) (hW : WF S) (hd : inR d) (hq : inR q) {ao : Nat} {v0 : Int64} (hao : ao ∈ L) (hns : ¬ isS ad ao) (hgo : g ao = OUT cys v0) : CW l D cys ad yL_sumOf cL_sumOf 5 (some .int) [(0, 10, 13, 21)] 9 155 2 12 [.ref (ad 0 0), .int (iI d), .int (iI q), .ref ao] L g X Z (PGI L g X Z (fun k L9 g9 X9 Z9 => L9 = L ∧ X9 = X ∧ ∃ v9 : Int64, g9 = va_up g ao (OUT cys v9) ∧ WP_sumOf S Z Z9 d q k v9)) := by
  refine cw_start hi (by decide +kernel) (Nat.le_of_ble_eq_true rfl) ?_
  intro p_ e_ s_ m_ args_ below_ meth_ c_ A_ Q_ hQ G hr hN hT
  have eg := up_same hgo
  refine j_aload_n G dL_sumOf_0 rfl ?_
  refine j_iconst G dL_sumOf_1 ?_
  refine j_aload_n G dL_sumOf_2 rfl ?_
  refine j_iload_n G dL_sumOf_3 rfl ?_
  refine j_iload_n G dL_sumOf_4 rfl ?_
  refine j_c1 G (PP := (fun r Z' => (0 ≤ d ∧ d < S 0 0 5) ∧ (0 ≤ q ∧ q < (kids S d).length) ∧ r = lsum S d q ∧ SP S Z')) (x1 := ({ startPc := 0, endPc := 10, handlerPc := 13, catchType := 21 } : ExceptionTableEntry)) (n1 := exI) hT (by decide) (by decide) (TW_of 622 (by decide +kernel) (by decide +kernel)) (List.mem_of_getElem? (i := 2) rfl) cvX6_sumOf mlL_61 (c_X6_sumOf hi hst (by assumption) (by assumption) (by assumption) (by assumption)) dL_sumOf_5 ⟨by decide, by decide⟩ ⟨by decide, by decide⟩ rfl rfl (Nat.le_of_ble_eq_true rfl) (by decide) rfl rfl rfl (fun E Z1 h => h.1) (fun _ _ _ _ _ h => h) (fun Z1 q h => ?_) (fun r Z1 h => ?_)
  · refine j_astore G dL_sumOf_13 (by decide) rfl ?_
    refine j_iconst G dL_sumOf_15 ?_
    refine jr_GI G hQ hr dL_sumOf_16 (by decide) (by decide) ?_
    exact ⟨rfl, rfl, v0, eg.symm, Or.inr ⟨rfl, h.2⟩⟩
  · refine j_i2l G dL_sumOf_8 ?_
    refine j_lastO G dL_sumOf_9 hao hns hgo ?_
    refine j_goto G 17 dL_sumOf_10 (by decide) ?_
    refine j_iconst G dL_sumOf_17 ?_
    refine jr_GI G hQ hr dL_sumOf_18 (by decide) (by decide) ?_
    exact ⟨rfl, rfl, _, rfl, Or.inl ⟨rfl, r, h, rfl⟩⟩
def WP_ranked (S Z Z' : ZT) (d q : Int) (k : Int) (v9 : Int64) : Prop := (k = 0 ∧ ∃ r : Int, ((0 ≤ d ∧ d < S 0 0 5) ∧ (0 ≤ q ∧ q < (kids S d).length) ∧ r = rkF (lsum S d) (kids S d).length q ∧ SP S Z') ∧ v9 = (iI r).toInt64) ∨ (k = 1 ∧ ¬ (0 ≤ d ∧ d < S 0 0 5 ∧ 0 ≤ q ∧ q < (kids S d).length) ∧ SP S Z')
set_option maxRecDepth 100000 in
set_option maxHeartbeats 8000000 in
theorem cw_ranked {l : Launch} {D : va_G} {cys : Nat → ClassId} {ad : Nat → Int → Nat} {L : List Nat} {g : Nat → va_E} {X : Int64} {Z : ZT} (hi : injA ad) (hst : l.stackTraces = false) {S : ZT} {d q : Int} (hS : SP S Z) (hW : WF S) (hd : inR d) (hq : inR q) {ao : Nat} {v0 : Int64} (hao : ao ∈ L) (hns : ¬ isS ad ao) (hgo : g ao = OUT cys v0) : CW l D cys ad yL_ranked cL_ranked 5 (some .int) [(0, 10, 13, 21)] 9 155 2 12 [.ref (ad 0 0), .int (iI d), .int (iI q), .ref ao] L g X Z (PGI L g X Z (fun k L9 g9 X9 Z9 => L9 = L ∧ X9 = X ∧ ∃ v9 : Int64, g9 = va_up g ao (OUT cys v9) ∧ WP_ranked S Z Z9 d q k v9)) := by
  refine cw_start hi (by decide +kernel) (Nat.le_of_ble_eq_true rfl) ?_
  intro p_ e_ s_ m_ args_ below_ meth_ c_ A_ Q_ hQ G hr hN hT
  have eg := up_same hgo
  refine j_aload_n G dL_ranked_0 rfl ?_
  refine j_iconst G dL_ranked_1 ?_
  refine j_aload_n G dL_ranked_2 rfl ?_
  refine j_iload_n G dL_ranked_3 rfl ?_
  refine j_iload_n G dL_ranked_4 rfl ?_
  refine j_c1 G (PP := (fun r Z' => (0 ≤ d ∧ d < S 0 0 5) ∧ (0 ≤ q ∧ q < (kids S d).length) ∧ r = rkF (lsum S d) (kids S d).length q ∧ SP S Z')) (x1 := ({ startPc := 0, endPc := 10, handlerPc := 13, catchType := 21 } : ExceptionTableEntry)) (n1 := exI) hT (by decide) (by decide) (TW_of 622 (by decide +kernel) (by decide +kernel)) (List.mem_of_getElem? (i := 2) rfl) cvX6_ranked mlL_64 (c_X6_ranked hi hst (by assumption) (by assumption) (by assumption) (by assumption)) dL_ranked_5 ⟨by decide, by decide⟩ ⟨by decide, by decide⟩ rfl rfl (Nat.le_of_ble_eq_true rfl) (by decide) rfl rfl rfl (fun E Z1 h => h.1) (fun _ _ _ _ _ h => h) (fun Z1 q h => ?_) (fun r Z1 h => ?_)
  · refine j_astore G dL_ranked_13 (by decide) rfl ?_
    refine j_iconst G dL_ranked_15 ?_
    refine jr_GI G hQ hr dL_ranked_16 (by decide) (by decide) ?_
    exact ⟨rfl, rfl, v0, eg.symm, Or.inr ⟨rfl, h.2⟩⟩
  · refine j_i2l G dL_ranked_8 ?_
    refine j_lastO G dL_ranked_9 hao hns hgo ?_
    refine j_goto G 17 dL_ranked_10 (by decide) ?_
    refine j_iconst G dL_ranked_17 ?_
    refine jr_GI G hQ hr dL_ranked_18 (by decide) (by decide) ?_
    exact ⟨rfl, rfl, _, rfl, Or.inl ⟨rfl, r, h, rfl⟩⟩
def WP_running (S Z Z' : ZT) (d q : Int) (k : Int) (v9 : Int64) : Prop := (k = 0 ∧ ∃ r : Int, ((0 ≤ d ∧ d < S 0 0 5) ∧ (0 ≤ q ∧ q < (kids S d).length) ∧ r = sumTo (lsum S d) (q + 1).toNat ∧ SP S Z') ∧ v9 = (iI r).toInt64) ∨ (k = 1 ∧ ¬ (0 ≤ d ∧ d < S 0 0 5 ∧ 0 ≤ q ∧ q < (kids S d).length) ∧ SP S Z')
set_option maxRecDepth 100000 in
set_option maxHeartbeats 8000000 in
theorem cw_running {l : Launch} {D : va_G} {cys : Nat → ClassId} {ad : Nat → Int → Nat} {L : List Nat} {g : Nat → va_E} {X : Int64} {Z : ZT} (hi : injA ad) (hst : l.stackTraces = false) {S : ZT} {d q : Int} (hS : SP S Z) (hW : WF S) (hd : inR d) (hq : inR q) {ao : Nat} {v0 : Int64} (hao : ao ∈ L) (hns : ¬ isS ad ao) (hgo : g ao = OUT cys v0) : CW l D cys ad yL_running cL_running 5 (some .int) [(0, 10, 13, 21)] 9 157 2 12 [.ref (ad 0 0), .int (iI d), .int (iI q), .ref ao] L g X Z (PGI L g X Z (fun k L9 g9 X9 Z9 => L9 = L ∧ X9 = X ∧ ∃ v9 : Int64, g9 = va_up g ao (OUT cys v9) ∧ WP_running S Z Z9 d q k v9)) := by
  refine cw_start hi (by decide +kernel) (Nat.le_of_ble_eq_true rfl) ?_
  intro p_ e_ s_ m_ args_ below_ meth_ c_ A_ Q_ hQ G hr hN hT
  have eg := up_same hgo
  refine j_aload_n G dL_running_0 rfl ?_
  refine j_iconst G dL_running_1 ?_
  refine j_aload_n G dL_running_2 rfl ?_
  refine j_iload_n G dL_running_3 rfl ?_
  refine j_iload_n G dL_running_4 rfl ?_
  refine j_c1 G (PP := (fun r Z' => (0 ≤ d ∧ d < S 0 0 5) ∧ (0 ≤ q ∧ q < (kids S d).length) ∧ r = sumTo (lsum S d) (q + 1).toNat ∧ SP S Z')) (x1 := ({ startPc := 0, endPc := 10, handlerPc := 13, catchType := 21 } : ExceptionTableEntry)) (n1 := exI) hT (by decide) (by decide) (TW_of 622 (by decide +kernel) (by decide +kernel)) (List.mem_of_getElem? (i := 2) rfl) cvX6_running mlL_67 (c_X6_running hi hst (by assumption) (by assumption) (by assumption) (by assumption)) dL_running_5 ⟨by decide, by decide⟩ ⟨by decide, by decide⟩ rfl rfl (Nat.le_of_ble_eq_true rfl) (by decide) rfl rfl rfl (fun E Z1 h => h.1) (fun _ _ _ _ _ h => h) (fun Z1 q h => ?_) (fun r Z1 h => ?_)
  · refine j_astore G dL_running_13 (by decide) rfl ?_
    refine j_iconst G dL_running_15 ?_
    refine jr_GI G hQ hr dL_running_16 (by decide) (by decide) ?_
    exact ⟨rfl, rfl, v0, eg.symm, Or.inr ⟨rfl, h.2⟩⟩
  · refine j_i2l G dL_running_8 ?_
    refine j_lastO G dL_running_9 hao hns hgo ?_
    refine j_goto G 17 dL_running_10 (by decide) ?_
    refine j_iconst G dL_running_17 ?_
    refine jr_GI G hQ hr dL_running_18 (by decide) (by decide) ?_
    exact ⟨rfl, rfl, _, rfl, Or.inl ⟨rfl, r, h, rfl⟩⟩
def WP_share (S Z Z' : ZT) (d q : Int) (k : Int) (v9 : Int64) : Prop := (k = 0 ∧ ∃ r : Int, ((0 ≤ d ∧ d < S 0 0 5) ∧ (0 ≤ q ∧ q < (kids S d).length) ∧ r = (if SUM S = 0 then 0 else (1000 * lsum S d q).tdiv (SUM S)) ∧ SP S Z') ∧ v9 = (iI r).toInt64) ∨ (k = 1 ∧ ¬ (0 ≤ d ∧ d < S 0 0 5 ∧ 0 ≤ q ∧ q < (kids S d).length) ∧ SP S Z')
set_option maxRecDepth 100000 in
set_option maxHeartbeats 8000000 in
theorem cw_share {l : Launch} {D : va_G} {cys : Nat → ClassId} {ad : Nat → Int → Nat} {L : List Nat} {g : Nat → va_E} {X : Int64} {Z : ZT} (hi : injA ad) (hst : l.stackTraces = false) {S : ZT} {d q : Int} (hS : SP S Z) (hW : WF S) (hd : inR d) (hq : inR q) {ao : Nat} {v0 : Int64} (hao : ao ∈ L) (hns : ¬ isS ad ao) (hgo : g ao = OUT cys v0) : CW l D cys ad yL_share cL_share 5 (some .int) [(0, 10, 13, 21)] 9 156 2 12 [.ref (ad 0 0), .int (iI d), .int (iI q), .ref ao] L g X Z (PGI L g X Z (fun k L9 g9 X9 Z9 => L9 = L ∧ X9 = X ∧ ∃ v9 : Int64, g9 = va_up g ao (OUT cys v9) ∧ WP_share S Z Z9 d q k v9)) := by
  refine cw_start hi (by decide +kernel) (Nat.le_of_ble_eq_true rfl) ?_
  intro p_ e_ s_ m_ args_ below_ meth_ c_ A_ Q_ hQ G hr hN hT
  have eg := up_same hgo
  refine j_aload_n G dL_share_0 rfl ?_
  refine j_iconst G dL_share_1 ?_
  refine j_aload_n G dL_share_2 rfl ?_
  refine j_iload_n G dL_share_3 rfl ?_
  refine j_iload_n G dL_share_4 rfl ?_
  refine j_c1 G (PP := (fun r Z' => (0 ≤ d ∧ d < S 0 0 5) ∧ (0 ≤ q ∧ q < (kids S d).length) ∧ r = (if SUM S = 0 then 0 else (1000 * lsum S d q).tdiv (SUM S)) ∧ SP S Z')) (x1 := ({ startPc := 0, endPc := 10, handlerPc := 13, catchType := 21 } : ExceptionTableEntry)) (n1 := exI) hT (by decide) (by decide) (TW_of 622 (by decide +kernel) (by decide +kernel)) (List.mem_of_getElem? (i := 2) rfl) cvX6_share mlL_70 (c_X6_share hi hst (by assumption) (by assumption) (by assumption) (by assumption)) dL_share_5 ⟨by decide, by decide⟩ ⟨by decide, by decide⟩ rfl rfl (Nat.le_of_ble_eq_true rfl) (by decide) rfl rfl rfl (fun E Z1 h => h.1) (fun _ _ _ _ _ h => h) (fun Z1 q h => ?_) (fun r Z1 h => ?_)
  · refine j_astore G dL_share_13 (by decide) rfl ?_
    refine j_iconst G dL_share_15 ?_
    refine jr_GI G hQ hr dL_share_16 (by decide) (by decide) ?_
    exact ⟨rfl, rfl, v0, eg.symm, Or.inr ⟨rfl, h.2⟩⟩
  · refine j_i2l G dL_share_8 ?_
    refine j_lastO G dL_share_9 hao hns hgo ?_
    refine j_goto G 17 dL_share_10 (by decide) ?_
    refine j_iconst G dL_share_17 ?_
    refine jr_GI G hQ hr dL_share_18 (by decide) (by decide) ?_
    exact ⟨rfl, rfl, _, rfl, Or.inl ⟨rfl, r, h, rfl⟩⟩
def WP_fewest (S Z Z' : ZT) (d q : Int) (k : Int) (v9 : Int64) : Prop := (k = 0 ∧ ∃ r : Int, ((0 ≤ d ∧ d < S 0 0 5) ∧ (1 ≤ q ∧ q ≤ 1000) ∧ fwP (lsum S d) (kids S d).length (q * SUM S) r ∧ SP S Z') ∧ v9 = (iI r).toInt64) ∨ (k = 1 ∧ (¬ (0 ≤ d ∧ d < S 0 0 5)) ∧ Z' = Z) ∨ (k = 2 ∧ ((0 ≤ d ∧ d < S 0 0 5) ∧ ¬ (1 ≤ q ∧ q ≤ 1000)) ∧ Z' = Z)
set_option maxRecDepth 100000 in
set_option maxHeartbeats 8000000 in
theorem cw_fewest {l : Launch} {D : va_G} {cys : Nat → ClassId} {ad : Nat → Int → Nat} {L : List Nat} {g : Nat → va_E} {X : Int64} {Z : ZT} (hi : injA ad) (hst : l.stackTraces = false) {S : ZT} {d q : Int} (hS : SP S Z) (hW : WF S) (hd : inR d) (hq : inR q) {ao : Nat} {v0 : Int64} (hao : ao ∈ L) (hns : ¬ isS ad ao) (hgo : g ao = OUT cys v0) : CW l D cys ad yL_fewest cL_fewest 5 (some .int) [(0, 10, 13, 21), (0, 10, 17, 13)] 8 137 2 12 [.ref (ad 0 0), .int (iI d), .int (iI q), .ref ao] L g X Z (PGI L g X Z (fun k L9 g9 X9 Z9 => L9 = L ∧ X9 = X ∧ ∃ v9 : Int64, g9 = va_up g ao (OUT cys v9) ∧ WP_fewest S Z Z9 d q k v9)) := by
  refine cw_start hi (by decide +kernel) (Nat.le_of_ble_eq_true rfl) ?_
  intro p_ e_ s_ m_ args_ below_ meth_ c_ A_ Q_ hQ G hr hN hT
  have eg := up_same hgo
  refine j_aload_n G dL_fewest_0 rfl ?_
  refine j_iconst G dL_fewest_1 ?_
  refine j_aload_n G dL_fewest_2 rfl ?_
  refine j_iload_n G dL_fewest_3 rfl ?_
  refine j_iload_n G dL_fewest_4 rfl ?_
  refine j_c2 G hN (PP := (fun r Z' => (0 ≤ d ∧ d < S 0 0 5) ∧ (1 ≤ q ∧ q ≤ 1000) ∧ fwP (lsum S d) (kids S d).length (q * SUM S) r ∧ SP S Z')) (x1 := ({ startPc := 0, endPc := 10, handlerPc := 13, catchType := 21 } : ExceptionTableEntry)) (x2 := ({ startPc := 0, endPc := 10, handlerPc := 17, catchType := 13 } : ExceptionTableEntry)) (n1 := exI) (n2 := exA) hT (by decide) (by decide) (TW_of 622 (by decide +kernel) (by decide +kernel)) (List.mem_of_getElem? (i := 2) rfl) (by decide) (by decide) (TW_of 517 (by decide +kernel) (by decide +kernel)) (List.mem_of_getElem? (i := 0) rfl) (List.mem_of_getElem? (i := 4) rfl) cvX6_fewest mlL_73 (c_X6_fewest hi hst (by assumption) (by assumption) (by assumption) (by assumption)) dL_fewest_5 ⟨by decide, by decide⟩ ⟨by decide, by decide⟩ rfl rfl (Nat.le_of_ble_eq_true rfl) (by decide) rfl rfl rfl (fun E Z1 h => h.1.elim (fun z => Or.inl z.1) (fun z => Or.inr z.1)) (fun _ _ _ _ _ h => h) (fun Z1 q h => ?_) (fun Z1 q h => ?_) (fun r Z1 h => ?_)
  · refine j_astore G dL_fewest_13 (by decide) rfl ?_
    refine j_iconst G dL_fewest_15 ?_
    refine jr_GI G hQ hr dL_fewest_16 (by decide) (by decide) ?_
    exact ⟨rfl, rfl, v0, eg.symm, Or.inr (Or.inl ⟨rfl, ⟨h.1.elim (fun z => z.2) (fun z => absurd z.1 (by decide +kernel)), h.2⟩⟩)⟩
  · refine j_astore G dL_fewest_17 (by decide) rfl ?_
    refine j_iconst G dL_fewest_19 ?_
    refine jr_GI G hQ hr dL_fewest_20 (by decide) (by decide) ?_
    exact ⟨rfl, rfl, v0, eg.symm, Or.inr (Or.inr ⟨rfl, ⟨h.1.elim (fun z => absurd z.1 (by decide +kernel)) (fun z => z.2), h.2⟩⟩)⟩
  · refine j_i2l G dL_fewest_8 ?_
    refine j_lastO G dL_fewest_9 hao hns hgo ?_
    refine j_goto G 21 dL_fewest_10 (by decide) ?_
    refine j_iconst G dL_fewest_21 ?_
    refine jr_GI G hQ hr dL_fewest_22 (by decide) (by decide) ?_
    exact ⟨rfl, rfl, _, rfl, Or.inl ⟨rfl, r, h, rfl⟩⟩
def WP_drill (S Z Z' : ZT) (d : Int) (k : Int) (v9 : Int64) : Prop := (k = 0 ∧ ∃ r : Int, ((0 ≤ d ∧ d < S 0 0 5) ∧ r = drF d 3 S 2 d 5 ∧ SP (drF d 3 S) Z') ∧ v9 = (iI r).toInt64) ∨ (k = 1 ∧ ¬ (0 ≤ d ∧ d < S 0 0 5) ∧ Z' = Z)
set_option maxRecDepth 100000 in
set_option maxHeartbeats 8000000 in
theorem cw_drill {l : Launch} {D : va_G} {cys : Nat → ClassId} {ad : Nat → Int → Nat} {L : List Nat} {g : Nat → va_E} {X : Int64} {Z : ZT} (hi : injA ad) (hst : l.stackTraces = false) {S : ZT} {d : Int} (hS : SP S Z) (hW : WF S) (hd : inR d) {ao : Nat} {v0 : Int64} (hao : ao ∈ L) (hns : ¬ isS ad ao) (hgo : g ao = OUT cys v0) : CW l D cys ad yL_drill cL_drill 4 (some .int) [(0, 9, 12, 21)] 8 135 1 6 [.ref (ad 0 0), .int (iI d), .ref ao] L g X Z (PGI L g X Z (fun k L9 g9 X9 Z9 => L9 = L ∧ X9 = X ∧ ∃ v9 : Int64, g9 = va_up g ao (OUT cys v9) ∧ WP_drill S Z Z9 d k v9)) := by
  refine cw_start hi (by decide +kernel) (Nat.le_of_ble_eq_true rfl) ?_
  intro p_ e_ s_ m_ args_ below_ meth_ c_ A_ Q_ hQ G hr hN hT
  have eg := up_same hgo
  refine j_aload_n G dL_drill_0 rfl ?_
  refine j_iconst G dL_drill_1 ?_
  refine j_aload_n G dL_drill_2 rfl ?_
  refine j_iload_n G dL_drill_3 rfl ?_
  refine j_c1 G (PP := (fun r Z' => (0 ≤ d ∧ d < S 0 0 5) ∧ r = drF d 3 S 2 d 5 ∧ SP (drF d 3 S) Z')) (x1 := ({ startPc := 0, endPc := 9, handlerPc := 12, catchType := 21 } : ExceptionTableEntry)) (n1 := exI) hT (by decide) (by decide) (TW_of 622 (by decide +kernel) (by decide +kernel)) (List.mem_of_getElem? (i := 2) rfl) cvX6_drill mlL_76 (c_X6_drill hi hst (by assumption) (by assumption) (by assumption)) dL_drill_4 ⟨by decide, by decide⟩ ⟨by decide, by decide⟩ rfl rfl (Nat.le_of_ble_eq_true rfl) (by decide) rfl rfl rfl (fun E Z1 h => h.1) (fun _ _ _ _ _ h => h) (fun Z1 q h => ?_) (fun r Z1 h => ?_)
  · refine j_astore_n G dL_drill_12 (by decide) rfl ?_
    refine j_iconst G dL_drill_13 ?_
    refine jr_GI G hQ hr dL_drill_14 (by decide) (by decide) ?_
    exact ⟨rfl, rfl, v0, eg.symm, Or.inr ⟨rfl, h.2⟩⟩
  · refine j_i2l G dL_drill_7 ?_
    refine j_lastO G dL_drill_8 hao hns hgo ?_
    refine j_goto G 15 dL_drill_9 (by decide) ?_
    refine j_iconst G dL_drill_15 ?_
    refine jr_GI G hQ hr dL_drill_16 (by decide) (by decide) ?_
    exact ⟨rfl, rfl, _, rfl, Or.inl ⟨rfl, r, h, rfl⟩⟩
def WP_setAxes (S Z Z' : ZT) (q ql w wl : Int) (k : Int) (v9 : Int64) : Prop := (k = 0 ∧ ∃ r : Int, ((0 ≤ q ∧ q < S 0 0 5 ∧ 0 ≤ ql ∧ ql ≤ S 2 q 3) ∧ (0 ≤ w ∧ w < S 0 0 5 ∧ 0 ≤ wl ∧ wl ≤ S 2 w 3) ∧ q ≠ w ∧ r = (LN (axSt S q ql w wl) 0).length ∧ SP (axSt S q ql w wl) Z') ∧ v9 = (iI r).toInt64) ∨ (k = 1 ∧ ((¬ (0 ≤ q ∧ q < S 0 0 5 ∧ 0 ≤ ql ∧ ql ≤ S 2 q 3)) ∨ ((0 ≤ q ∧ q < S 0 0 5 ∧ 0 ≤ ql ∧ ql ≤ S 2 q 3) ∧ ¬ (0 ≤ w ∧ w < S 0 0 5 ∧ 0 ≤ wl ∧ wl ≤ S 2 w 3))) ∧ Z' = Z) ∨ (k = 2 ∧ ((0 ≤ q ∧ q < S 0 0 5 ∧ 0 ≤ ql ∧ ql ≤ S 2 q 3) ∧ (0 ≤ w ∧ w < S 0 0 5 ∧ 0 ≤ wl ∧ wl ≤ S 2 w 3) ∧ q = w) ∧ Z' = Z)
set_option maxRecDepth 100000 in
set_option maxHeartbeats 8000000 in
theorem cw_setAxes {l : Launch} {D : va_G} {cys : Nat → ClassId} {ad : Nat → Int → Nat} {L : List Nat} {g : Nat → va_E} {X : Int64} {Z : ZT} (hi : injA ad) (hst : l.stackTraces = false) {S : ZT} {q ql w wl : Int} (hS : SP S Z) (hW : WF S) (hq : inR q) (hql : inR ql) (hw : inR w) (hwl : inR wl) {ao : Nat} {v0 : Int64} (hao : ao ∈ L) (hns : ¬ isS ad ao) (hgo : g ao = OUT cys v0) : CW l D cys ad yL_setAxes cL_setAxes 7 (some .int) [(0, 14, 17, 21), (0, 14, 21, 13)] 10 180 5 30 [.ref (ad 0 0), .int (iI q), .int (iI ql), .int (iI w), .int (iI wl), .ref ao] L g X Z (PGI L g X Z (fun k L9 g9 X9 Z9 => L9 = L ∧ X9 = X ∧ ∃ v9 : Int64, g9 = va_up g ao (OUT cys v9) ∧ WP_setAxes S Z Z9 q ql w wl k v9)) := by
  refine cw_start hi (by decide +kernel) (Nat.le_of_ble_eq_true rfl) ?_
  intro p_ e_ s_ m_ args_ below_ meth_ c_ A_ Q_ hQ G hr hN hT
  have eg := up_same hgo
  refine j_aload G dL_setAxes_0 rfl ?_
  refine j_iconst G dL_setAxes_2 ?_
  refine j_aload_n G dL_setAxes_3 rfl ?_
  refine j_iload_n G dL_setAxes_4 rfl ?_
  refine j_iload_n G dL_setAxes_5 rfl ?_
  refine j_iload_n G dL_setAxes_6 rfl ?_
  refine j_iload G dL_setAxes_7 rfl ?_
  refine j_c2 G hN (PP := (fun r Z' => (0 ≤ q ∧ q < S 0 0 5 ∧ 0 ≤ ql ∧ ql ≤ S 2 q 3) ∧ (0 ≤ w ∧ w < S 0 0 5 ∧ 0 ≤ wl ∧ wl ≤ S 2 w 3) ∧ q ≠ w ∧ r = (LN (axSt S q ql w wl) 0).length ∧ SP (axSt S q ql w wl) Z')) (x1 := ({ startPc := 0, endPc := 14, handlerPc := 17, catchType := 21 } : ExceptionTableEntry)) (x2 := ({ startPc := 0, endPc := 14, handlerPc := 21, catchType := 13 } : ExceptionTableEntry)) (n1 := exI) (n2 := exA) hT (by decide) (by decide) (TW_of 622 (by decide +kernel) (by decide +kernel)) (List.mem_of_getElem? (i := 2) rfl) (by decide) (by decide) (TW_of 517 (by decide +kernel) (by decide +kernel)) (List.mem_of_getElem? (i := 0) rfl) (List.mem_of_getElem? (i := 4) rfl) cvX6_setAxes mlL_79 (c_X6_setAxes hi hst (by assumption) (by assumption) (by assumption) (by assumption) (by assumption) (by assumption)) dL_setAxes_9 ⟨by decide, by decide⟩ ⟨by decide, by decide⟩ rfl rfl (Nat.le_of_ble_eq_true rfl) (by decide) rfl rfl rfl (fun E Z1 h => h.1.elim (fun z => Or.inl z.1) (fun z => z.elim (fun z => Or.inl z.1) (fun z => Or.inr z.1))) (fun _ _ _ _ _ h => h) (fun Z1 q h => ?_) (fun Z1 q h => ?_) (fun r Z1 h => ?_)
  · refine j_astore G dL_setAxes_17 (by decide) rfl ?_
    refine j_iconst G dL_setAxes_19 ?_
    refine jr_GI G hQ hr dL_setAxes_20 (by decide) (by decide) ?_
    exact ⟨rfl, rfl, v0, eg.symm, Or.inr (Or.inl ⟨rfl, ⟨h.1.elim (fun z => Or.inl z.2) (fun z => z.elim (fun z => Or.inr z.2) (fun z => absurd z.1 (by decide +kernel))), h.2⟩⟩)⟩
  · refine j_astore G dL_setAxes_21 (by decide) rfl ?_
    refine j_iconst G dL_setAxes_23 ?_
    refine jr_GI G hQ hr dL_setAxes_24 (by decide) (by decide) ?_
    exact ⟨rfl, rfl, v0, eg.symm, Or.inr (Or.inr ⟨rfl, ⟨h.1.elim (fun z => absurd z.1 (by decide +kernel)) (fun z => z.elim (fun z => absurd z.1 (by decide +kernel)) (fun z => z.2)), h.2⟩⟩)⟩
  · refine j_i2l G dL_setAxes_12 ?_
    refine j_lastO G dL_setAxes_13 hao hns hgo ?_
    refine j_goto G 25 dL_setAxes_14 (by decide) ?_
    refine j_iconst G dL_setAxes_25 ?_
    refine jr_GI G hQ hr dL_setAxes_26 (by decide) (by decide) ?_
    exact ⟨rfl, rfl, _, rfl, Or.inl ⟨rfl, r, h, rfl⟩⟩
def WP_rows (S Z Z' : ZT) (k : Int) (v9 : Int64) : Prop := (k = 0 ∧ ∃ r : Int, (S 0 0 7 = 1 ∧ r = (LN S 0).length ∧ SP S Z') ∧ v9 = (iI r).toInt64) ∨ (k = 1 ∧ S 0 0 7 ≠ 1 ∧ Z' = Z)
set_option maxRecDepth 100000 in
set_option maxHeartbeats 8000000 in
theorem cw_rows {l : Launch} {D : va_G} {cys : Nat → ClassId} {ad : Nat → Int → Nat} {L : List Nat} {g : Nat → va_E} {X : Int64} {Z : ZT} (hi : injA ad) (hst : l.stackTraces = false) {S : ZT} (hS : SP S Z) (hW : WF S) {ao : Nat} {v0 : Int64} (hao : ao ∈ L) (hns : ¬ isS ad ao) (hgo : g ao = OUT cys v0) : CW l D cys ad yL_rows cL_rows 3 (some .int) [(0, 8, 11, 15)] 8 156 1 6 [.ref (ad 0 0), .ref ao] L g X Z (PGI L g X Z (fun k L9 g9 X9 Z9 => L9 = L ∧ X9 = X ∧ ∃ v9 : Int64, g9 = va_up g ao (OUT cys v9) ∧ WP_rows S Z Z9 k v9)) := by
  refine cw_start hi (by decide +kernel) (Nat.le_of_ble_eq_true rfl) ?_
  intro p_ e_ s_ m_ args_ below_ meth_ c_ A_ Q_ hQ G hr hN hT
  have eg := up_same hgo
  refine j_aload_n G dL_rows_0 rfl ?_
  refine j_iconst G dL_rows_1 ?_
  refine j_aload_n G dL_rows_2 rfl ?_
  refine j_c1 G (PP := (fun r Z' => S 0 0 7 = 1 ∧ r = (LN S 0).length ∧ SP S Z')) (x1 := ({ startPc := 0, endPc := 8, handlerPc := 11, catchType := 15 } : ExceptionTableEntry)) (n1 := exS) hT (by decide) (by decide) (TW_of 518 (by decide +kernel) (by decide +kernel)) (List.mem_of_getElem? (i := 1) rfl) cvX6_rows mlL_83 (c_X6_rows hi hst (by assumption) (by assumption)) dL_rows_3 ⟨by decide, by decide⟩ ⟨by decide, by decide⟩ rfl rfl (Nat.le_of_ble_eq_true rfl) (by decide) rfl rfl rfl (fun E Z1 h => h.1) (fun _ _ _ _ _ h => h) (fun Z1 q h => ?_) (fun r Z1 h => ?_)
  · refine j_astore_n G dL_rows_11 (by decide) rfl ?_
    refine j_iconst G dL_rows_12 ?_
    refine jr_GI G hQ hr dL_rows_13 (by decide) (by decide) ?_
    exact ⟨rfl, rfl, v0, eg.symm, Or.inr ⟨rfl, h.2⟩⟩
  · refine j_i2l G dL_rows_6 ?_
    refine j_lastO G dL_rows_7 hao hns hgo ?_
    refine j_goto G 14 dL_rows_8 (by decide) ?_
    refine j_iconst G dL_rows_14 ?_
    refine jr_GI G hQ hr dL_rows_15 (by decide) (by decide) ?_
    exact ⟨rfl, rfl, _, rfl, Or.inl ⟨rfl, r, h, rfl⟩⟩
def WP_columns (S Z Z' : ZT) (k : Int) (v9 : Int64) : Prop := (k = 0 ∧ ∃ r : Int, (S 0 0 7 = 1 ∧ r = (LN S 1).length ∧ SP S Z') ∧ v9 = (iI r).toInt64) ∨ (k = 1 ∧ S 0 0 7 ≠ 1 ∧ Z' = Z)
set_option maxRecDepth 100000 in
set_option maxHeartbeats 8000000 in
theorem cw_columns {l : Launch} {D : va_G} {cys : Nat → ClassId} {ad : Nat → Int → Nat} {L : List Nat} {g : Nat → va_E} {X : Int64} {Z : ZT} (hi : injA ad) (hst : l.stackTraces = false) {S : ZT} (hS : SP S Z) (hW : WF S) {ao : Nat} {v0 : Int64} (hao : ao ∈ L) (hns : ¬ isS ad ao) (hgo : g ao = OUT cys v0) : CW l D cys ad yL_columns cL_columns 3 (some .int) [(0, 8, 11, 15)] 8 156 1 6 [.ref (ad 0 0), .ref ao] L g X Z (PGI L g X Z (fun k L9 g9 X9 Z9 => L9 = L ∧ X9 = X ∧ ∃ v9 : Int64, g9 = va_up g ao (OUT cys v9) ∧ WP_columns S Z Z9 k v9)) := by
  refine cw_start hi (by decide +kernel) (Nat.le_of_ble_eq_true rfl) ?_
  intro p_ e_ s_ m_ args_ below_ meth_ c_ A_ Q_ hQ G hr hN hT
  have eg := up_same hgo
  refine j_aload_n G dL_columns_0 rfl ?_
  refine j_iconst G dL_columns_1 ?_
  refine j_aload_n G dL_columns_2 rfl ?_
  refine j_c1 G (PP := (fun r Z' => S 0 0 7 = 1 ∧ r = (LN S 1).length ∧ SP S Z')) (x1 := ({ startPc := 0, endPc := 8, handlerPc := 11, catchType := 15 } : ExceptionTableEntry)) (n1 := exS) hT (by decide) (by decide) (TW_of 518 (by decide +kernel) (by decide +kernel)) (List.mem_of_getElem? (i := 1) rfl) cvX6_columns mlL_87 (c_X6_columns hi hst (by assumption) (by assumption)) dL_columns_3 ⟨by decide, by decide⟩ ⟨by decide, by decide⟩ rfl rfl (Nat.le_of_ble_eq_true rfl) (by decide) rfl rfl rfl (fun E Z1 h => h.1) (fun _ _ _ _ _ h => h) (fun Z1 q h => ?_) (fun r Z1 h => ?_)
  · refine j_astore_n G dL_columns_11 (by decide) rfl ?_
    refine j_iconst G dL_columns_12 ?_
    refine jr_GI G hQ hr dL_columns_13 (by decide) (by decide) ?_
    exact ⟨rfl, rfl, v0, eg.symm, Or.inr ⟨rfl, h.2⟩⟩
  · refine j_i2l G dL_columns_6 ?_
    refine j_lastO G dL_columns_7 hao hns hgo ?_
    refine j_goto G 14 dL_columns_8 (by decide) ?_
    refine j_iconst G dL_columns_14 ?_
    refine jr_GI G hQ hr dL_columns_15 (by decide) (by decide) ?_
    exact ⟨rfl, rfl, _, rfl, Or.inl ⟨rfl, r, h, rfl⟩⟩
def WP_rowMember (S Z Z' : ZT) (q : Int) (k : Int) (v9 : Int64) : Prop := (k = 0 ∧ ∃ r : Int, (S 0 0 7 = 1 ∧ (0 ≤ q ∧ q < (LN S 0).length) ∧ r = (LN S 0).getD q.toNat 0 ∧ SP S Z') ∧ v9 = (iI r).toInt64) ∨ (k = 1 ∧ (S 0 0 7 ≠ 1) ∧ SP S Z') ∨ (k = 2 ∧ (S 0 0 7 = 1 ∧ ¬ (0 ≤ q ∧ q < (LN S 0).length)) ∧ SP S Z')
set_option maxRecDepth 100000 in
set_option maxHeartbeats 8000000 in
theorem cw_rowMember {l : Launch} {D : va_G} {cys : Nat → ClassId} {ad : Nat → Int → Nat} {L : List Nat} {g : Nat → va_E} {X : Int64} {Z : ZT} (hi : injA ad) (hst : l.stackTraces = false) {S : ZT} {q : Int} (hS : SP S Z) (hW : WF S) (hq : inR q) {ao : Nat} {v0 : Int64} (hao : ao ∈ L) (hns : ¬ isS ad ao) (hgo : g ao = OUT cys v0) : CW l D cys ad yL_rowMember cL_rowMember 4 (some .int) [(0, 9, 12, 15), (0, 9, 15, 21)] 8 157 2 12 [.ref (ad 0 0), .int (iI q), .ref ao] L g X Z (PGI L g X Z (fun k L9 g9 X9 Z9 => L9 = L ∧ X9 = X ∧ ∃ v9 : Int64, g9 = va_up g ao (OUT cys v9) ∧ WP_rowMember S Z Z9 q k v9)) := by
  refine cw_start hi (by decide +kernel) (Nat.le_of_ble_eq_true rfl) ?_
  intro p_ e_ s_ m_ args_ below_ meth_ c_ A_ Q_ hQ G hr hN hT
  have eg := up_same hgo
  refine j_aload_n G dL_rowMember_0 rfl ?_
  refine j_iconst G dL_rowMember_1 ?_
  refine j_aload_n G dL_rowMember_2 rfl ?_
  refine j_iload_n G dL_rowMember_3 rfl ?_
  refine j_c2 G hN (PP := (fun r Z' => S 0 0 7 = 1 ∧ (0 ≤ q ∧ q < (LN S 0).length) ∧ r = (LN S 0).getD q.toNat 0 ∧ SP S Z')) (x1 := ({ startPc := 0, endPc := 9, handlerPc := 12, catchType := 15 } : ExceptionTableEntry)) (x2 := ({ startPc := 0, endPc := 9, handlerPc := 15, catchType := 21 } : ExceptionTableEntry)) (n1 := exS) (n2 := exI) hT (by decide) (by decide) (TW_of 518 (by decide +kernel) (by decide +kernel)) (List.mem_of_getElem? (i := 1) rfl) (by decide) (by decide) (TW_of 622 (by decide +kernel) (by decide +kernel)) (List.mem_of_getElem? (i := 2) rfl) (List.mem_of_getElem? (i := 3) rfl) cvX6_rowMember mlL_90 (c_X6_rowMember hi hst (by assumption) (by assumption) (by assumption)) dL_rowMember_4 ⟨by decide, by decide⟩ ⟨by decide, by decide⟩ rfl rfl (Nat.le_of_ble_eq_true rfl) (by decide) rfl rfl rfl (fun E Z1 h => h.1.elim (fun z => Or.inl z.1) (fun z => Or.inr z.1)) (fun _ _ _ _ _ h => h) (fun Z1 q h => ?_) (fun Z1 q h => ?_) (fun r Z1 h => ?_)
  · refine j_astore_n G dL_rowMember_12 (by decide) rfl ?_
    refine j_iconst G dL_rowMember_13 ?_
    refine jr_GI G hQ hr dL_rowMember_14 (by decide) (by decide) ?_
    exact ⟨rfl, rfl, v0, eg.symm, Or.inr (Or.inl ⟨rfl, ⟨h.1.elim (fun z => z.2) (fun z => absurd z.1 (by decide +kernel)), h.2⟩⟩)⟩
  · refine j_astore_n G dL_rowMember_15 (by decide) rfl ?_
    refine j_iconst G dL_rowMember_16 ?_
    refine jr_GI G hQ hr dL_rowMember_17 (by decide) (by decide) ?_
    exact ⟨rfl, rfl, v0, eg.symm, Or.inr (Or.inr ⟨rfl, ⟨h.1.elim (fun z => absurd z.1 (by decide +kernel)) (fun z => z.2), h.2⟩⟩)⟩
  · refine j_i2l G dL_rowMember_7 ?_
    refine j_lastO G dL_rowMember_8 hao hns hgo ?_
    refine j_goto G 18 dL_rowMember_9 (by decide) ?_
    refine j_iconst G dL_rowMember_18 ?_
    refine jr_GI G hQ hr dL_rowMember_19 (by decide) (by decide) ?_
    exact ⟨rfl, rfl, _, rfl, Or.inl ⟨rfl, r, h, rfl⟩⟩
def WP_columnMember (S Z Z' : ZT) (q : Int) (k : Int) (v9 : Int64) : Prop := (k = 0 ∧ ∃ r : Int, (S 0 0 7 = 1 ∧ (0 ≤ q ∧ q < (LN S 1).length) ∧ r = (LN S 1).getD q.toNat 0 ∧ SP S Z') ∧ v9 = (iI r).toInt64) ∨ (k = 1 ∧ (S 0 0 7 ≠ 1) ∧ SP S Z') ∨ (k = 2 ∧ (S 0 0 7 = 1 ∧ ¬ (0 ≤ q ∧ q < (LN S 1).length)) ∧ SP S Z')
set_option maxRecDepth 100000 in
set_option maxHeartbeats 8000000 in
theorem cw_columnMember {l : Launch} {D : va_G} {cys : Nat → ClassId} {ad : Nat → Int → Nat} {L : List Nat} {g : Nat → va_E} {X : Int64} {Z : ZT} (hi : injA ad) (hst : l.stackTraces = false) {S : ZT} {q : Int} (hS : SP S Z) (hW : WF S) (hq : inR q) {ao : Nat} {v0 : Int64} (hao : ao ∈ L) (hns : ¬ isS ad ao) (hgo : g ao = OUT cys v0) : CW l D cys ad yL_columnMember cL_columnMember 4 (some .int) [(0, 9, 12, 15), (0, 9, 15, 21)] 8 157 2 12 [.ref (ad 0 0), .int (iI q), .ref ao] L g X Z (PGI L g X Z (fun k L9 g9 X9 Z9 => L9 = L ∧ X9 = X ∧ ∃ v9 : Int64, g9 = va_up g ao (OUT cys v9) ∧ WP_columnMember S Z Z9 q k v9)) := by
  refine cw_start hi (by decide +kernel) (Nat.le_of_ble_eq_true rfl) ?_
  intro p_ e_ s_ m_ args_ below_ meth_ c_ A_ Q_ hQ G hr hN hT
  have eg := up_same hgo
  refine j_aload_n G dL_columnMember_0 rfl ?_
  refine j_iconst G dL_columnMember_1 ?_
  refine j_aload_n G dL_columnMember_2 rfl ?_
  refine j_iload_n G dL_columnMember_3 rfl ?_
  refine j_c2 G hN (PP := (fun r Z' => S 0 0 7 = 1 ∧ (0 ≤ q ∧ q < (LN S 1).length) ∧ r = (LN S 1).getD q.toNat 0 ∧ SP S Z')) (x1 := ({ startPc := 0, endPc := 9, handlerPc := 12, catchType := 15 } : ExceptionTableEntry)) (x2 := ({ startPc := 0, endPc := 9, handlerPc := 15, catchType := 21 } : ExceptionTableEntry)) (n1 := exS) (n2 := exI) hT (by decide) (by decide) (TW_of 518 (by decide +kernel) (by decide +kernel)) (List.mem_of_getElem? (i := 1) rfl) (by decide) (by decide) (TW_of 622 (by decide +kernel) (by decide +kernel)) (List.mem_of_getElem? (i := 2) rfl) (List.mem_of_getElem? (i := 3) rfl) cvX6_columnMember mlL_93 (c_X6_columnMember hi hst (by assumption) (by assumption) (by assumption)) dL_columnMember_4 ⟨by decide, by decide⟩ ⟨by decide, by decide⟩ rfl rfl (Nat.le_of_ble_eq_true rfl) (by decide) rfl rfl rfl (fun E Z1 h => h.1.elim (fun z => Or.inl z.1) (fun z => Or.inr z.1)) (fun _ _ _ _ _ h => h) (fun Z1 q h => ?_) (fun Z1 q h => ?_) (fun r Z1 h => ?_)
  · refine j_astore_n G dL_columnMember_12 (by decide) rfl ?_
    refine j_iconst G dL_columnMember_13 ?_
    refine jr_GI G hQ hr dL_columnMember_14 (by decide) (by decide) ?_
    exact ⟨rfl, rfl, v0, eg.symm, Or.inr (Or.inl ⟨rfl, ⟨h.1.elim (fun z => z.2) (fun z => absurd z.1 (by decide +kernel)), h.2⟩⟩)⟩
  · refine j_astore_n G dL_columnMember_15 (by decide) rfl ?_
    refine j_iconst G dL_columnMember_16 ?_
    refine jr_GI G hQ hr dL_columnMember_17 (by decide) (by decide) ?_
    exact ⟨rfl, rfl, v0, eg.symm, Or.inr (Or.inr ⟨rfl, ⟨h.1.elim (fun z => absurd z.1 (by decide +kernel)) (fun z => z.2), h.2⟩⟩)⟩
  · refine j_i2l G dL_columnMember_7 ?_
    refine j_lastO G dL_columnMember_8 hao hns hgo ?_
    refine j_goto G 18 dL_columnMember_9 (by decide) ?_
    refine j_iconst G dL_columnMember_18 ?_
    refine jr_GI G hQ hr dL_columnMember_19 (by decide) (by decide) ?_
    exact ⟨rfl, rfl, _, rfl, Or.inl ⟨rfl, r, h, rfl⟩⟩
def WP_cell (S Z Z' : ZT) (q w : Int) (k : Int) (v9 : Int64) : Prop := (k = 0 ∧ ∃ r : Int, (S 0 0 7 = 1 ∧ (0 ≤ q ∧ q < (LN S 0).length ∧ 0 ≤ w ∧ w < (LN S 1).length) ∧ r = tsum S ((LN S 0).getD q.toNat 0) ((LN S 1).getD w.toNat 0) ∧ SP S Z') ∧ v9 = (iI r).toInt64) ∨ (k = 1 ∧ (S 0 0 7 ≠ 1) ∧ SP S Z') ∨ (k = 2 ∧ (S 0 0 7 = 1 ∧ ¬ (0 ≤ q ∧ q < (LN S 0).length ∧ 0 ≤ w ∧ w < (LN S 1).length)) ∧ SP S Z')
set_option maxRecDepth 100000 in
set_option maxHeartbeats 8000000 in
theorem cw_cell {l : Launch} {D : va_G} {cys : Nat → ClassId} {ad : Nat → Int → Nat} {L : List Nat} {g : Nat → va_E} {X : Int64} {Z : ZT} (hi : injA ad) (hst : l.stackTraces = false) {S : ZT} {q w : Int} (hS : SP S Z) (hW : WF S) (hq : inR q) (hw : inR w) {ao : Nat} {v0 : Int64} (hao : ao ∈ L) (hns : ¬ isS ad ao) (hgo : g ao = OUT cys v0) : CW l D cys ad yL_cell cL_cell 5 (some .int) [(0, 10, 13, 15), (0, 10, 17, 21)] 8 158 3 18 [.ref (ad 0 0), .int (iI q), .int (iI w), .ref ao] L g X Z (PGI L g X Z (fun k L9 g9 X9 Z9 => L9 = L ∧ X9 = X ∧ ∃ v9 : Int64, g9 = va_up g ao (OUT cys v9) ∧ WP_cell S Z Z9 q w k v9)) := by
  refine cw_start hi (by decide +kernel) (Nat.le_of_ble_eq_true rfl) ?_
  intro p_ e_ s_ m_ args_ below_ meth_ c_ A_ Q_ hQ G hr hN hT
  have eg := up_same hgo
  refine j_aload_n G dL_cell_0 rfl ?_
  refine j_iconst G dL_cell_1 ?_
  refine j_aload_n G dL_cell_2 rfl ?_
  refine j_iload_n G dL_cell_3 rfl ?_
  refine j_iload_n G dL_cell_4 rfl ?_
  refine j_c2 G hN (PP := (fun r Z' => S 0 0 7 = 1 ∧ (0 ≤ q ∧ q < (LN S 0).length ∧ 0 ≤ w ∧ w < (LN S 1).length) ∧ r = tsum S ((LN S 0).getD q.toNat 0) ((LN S 1).getD w.toNat 0) ∧ SP S Z')) (x1 := ({ startPc := 0, endPc := 10, handlerPc := 13, catchType := 15 } : ExceptionTableEntry)) (x2 := ({ startPc := 0, endPc := 10, handlerPc := 17, catchType := 21 } : ExceptionTableEntry)) (n1 := exS) (n2 := exI) hT (by decide) (by decide) (TW_of 518 (by decide +kernel) (by decide +kernel)) (List.mem_of_getElem? (i := 1) rfl) (by decide) (by decide) (TW_of 622 (by decide +kernel) (by decide +kernel)) (List.mem_of_getElem? (i := 2) rfl) (List.mem_of_getElem? (i := 3) rfl) cvX6_cell mlL_96 (c_X6_cell hi hst (by assumption) (by assumption) (by assumption) (by assumption)) dL_cell_5 ⟨by decide, by decide⟩ ⟨by decide, by decide⟩ rfl rfl (Nat.le_of_ble_eq_true rfl) (by decide) rfl rfl rfl (fun E Z1 h => h.1.elim (fun z => Or.inl z.1) (fun z => Or.inr z.1)) (fun _ _ _ _ _ h => h) (fun Z1 q h => ?_) (fun Z1 q h => ?_) (fun r Z1 h => ?_)
  · refine j_astore G dL_cell_13 (by decide) rfl ?_
    refine j_iconst G dL_cell_15 ?_
    refine jr_GI G hQ hr dL_cell_16 (by decide) (by decide) ?_
    exact ⟨rfl, rfl, v0, eg.symm, Or.inr (Or.inl ⟨rfl, ⟨h.1.elim (fun z => z.2) (fun z => absurd z.1 (by decide +kernel)), h.2⟩⟩)⟩
  · refine j_astore G dL_cell_17 (by decide) rfl ?_
    refine j_iconst G dL_cell_19 ?_
    refine jr_GI G hQ hr dL_cell_20 (by decide) (by decide) ?_
    exact ⟨rfl, rfl, v0, eg.symm, Or.inr (Or.inr ⟨rfl, ⟨h.1.elim (fun z => absurd z.1 (by decide +kernel)) (fun z => z.2), h.2⟩⟩)⟩
  · refine j_i2l G dL_cell_8 ?_
    refine j_lastO G dL_cell_9 hao hns hgo ?_
    refine j_goto G 21 dL_cell_10 (by decide) ?_
    refine j_iconst G dL_cell_21 ?_
    refine jr_GI G hQ hr dL_cell_22 (by decide) (by decide) ?_
    exact ⟨rfl, rfl, _, rfl, Or.inl ⟨rfl, r, h, rfl⟩⟩
def WP_peak (S Z Z' : ZT) (q : Int) (k : Int) (v9 : Int64) : Prop := (k = 0 ∧ ∃ r : Int, (S 0 0 7 = 1 ∧ (0 ≤ q ∧ q < (LN S 0).length) ∧ r = pkF (fun w => tsum S ((LN S 0).getD q.toNat 0) ((LN S 1).getD w.toNat 0)) (LN S 1).length ∧ SP S Z') ∧ v9 = (iI r).toInt64) ∨ (k = 1 ∧ (S 0 0 7 ≠ 1) ∧ SP S Z') ∨ (k = 2 ∧ (S 0 0 7 = 1 ∧ ¬ (0 ≤ q ∧ q < (LN S 0).length)) ∧ SP S Z')
set_option maxRecDepth 100000 in
set_option maxHeartbeats 8000000 in
theorem cw_peak {l : Launch} {D : va_G} {cys : Nat → ClassId} {ad : Nat → Int → Nat} {L : List Nat} {g : Nat → va_E} {X : Int64} {Z : ZT} (hi : injA ad) (hst : l.stackTraces = false) {S : ZT} {q : Int} (hS : SP S Z) (hW : WF S) (hq : inR q) {ao : Nat} {v0 : Int64} (hao : ao ∈ L) (hns : ¬ isS ad ao) (hgo : g ao = OUT cys v0) : CW l D cys ad yL_peak cL_peak 4 (some .int) [(0, 9, 12, 15), (0, 9, 15, 21)] 8 159 2 12 [.ref (ad 0 0), .int (iI q), .ref ao] L g X Z (PGI L g X Z (fun k L9 g9 X9 Z9 => L9 = L ∧ X9 = X ∧ ∃ v9 : Int64, g9 = va_up g ao (OUT cys v9) ∧ WP_peak S Z Z9 q k v9)) := by
  refine cw_start hi (by decide +kernel) (Nat.le_of_ble_eq_true rfl) ?_
  intro p_ e_ s_ m_ args_ below_ meth_ c_ A_ Q_ hQ G hr hN hT
  have eg := up_same hgo
  refine j_aload_n G dL_peak_0 rfl ?_
  refine j_iconst G dL_peak_1 ?_
  refine j_aload_n G dL_peak_2 rfl ?_
  refine j_iload_n G dL_peak_3 rfl ?_
  refine j_c2 G hN (PP := (fun r Z' => S 0 0 7 = 1 ∧ (0 ≤ q ∧ q < (LN S 0).length) ∧ r = pkF (fun w => tsum S ((LN S 0).getD q.toNat 0) ((LN S 1).getD w.toNat 0)) (LN S 1).length ∧ SP S Z')) (x1 := ({ startPc := 0, endPc := 9, handlerPc := 12, catchType := 15 } : ExceptionTableEntry)) (x2 := ({ startPc := 0, endPc := 9, handlerPc := 15, catchType := 21 } : ExceptionTableEntry)) (n1 := exS) (n2 := exI) hT (by decide) (by decide) (TW_of 518 (by decide +kernel) (by decide +kernel)) (List.mem_of_getElem? (i := 1) rfl) (by decide) (by decide) (TW_of 622 (by decide +kernel) (by decide +kernel)) (List.mem_of_getElem? (i := 2) rfl) (List.mem_of_getElem? (i := 3) rfl) cvX6_peak mlL_99 (c_X6_peak hi hst (by assumption) (by assumption) (by assumption)) dL_peak_4 ⟨by decide, by decide⟩ ⟨by decide, by decide⟩ rfl rfl (Nat.le_of_ble_eq_true rfl) (by decide) rfl rfl rfl (fun E Z1 h => h.1.elim (fun z => Or.inl z.1) (fun z => Or.inr z.1)) (fun _ _ _ _ _ h => h) (fun Z1 q h => ?_) (fun Z1 q h => ?_) (fun r Z1 h => ?_)
  · refine j_astore_n G dL_peak_12 (by decide) rfl ?_
    refine j_iconst G dL_peak_13 ?_
    refine jr_GI G hQ hr dL_peak_14 (by decide) (by decide) ?_
    exact ⟨rfl, rfl, v0, eg.symm, Or.inr (Or.inl ⟨rfl, ⟨h.1.elim (fun z => z.2) (fun z => absurd z.1 (by decide +kernel)), h.2⟩⟩)⟩
  · refine j_astore_n G dL_peak_15 (by decide) rfl ?_
    refine j_iconst G dL_peak_16 ?_
    refine jr_GI G hQ hr dL_peak_17 (by decide) (by decide) ?_
    exact ⟨rfl, rfl, v0, eg.symm, Or.inr (Or.inr ⟨rfl, ⟨h.1.elim (fun z => absurd z.1 (by decide +kernel)) (fun z => z.2), h.2⟩⟩)⟩
  · refine j_i2l G dL_peak_7 ?_
    refine j_lastO G dL_peak_8 hao hns hgo ?_
    refine j_goto G 18 dL_peak_9 (by decide) ?_
    refine j_iconst G dL_peak_18 ?_
    refine jr_GI G hQ hr dL_peak_19 (by decide) (by decide) ?_
    exact ⟨rfl, rfl, _, rfl, Or.inl ⟨rfl, r, h, rfl⟩⟩
def WP_setLevel (S Z Z' : ZT) (d q : Int) (k : Int) (v9 : Int64) : Prop := (k = 0 ∧ ∃ r : Int, ((0 ≤ d ∧ d < S 0 0 5 ∧ 0 ≤ q ∧ q ≤ S 2 d 3) ∧ r = lvl (S 0 0 6) d ∧ M_0 S 6 (setL (S 0 0 6) d q) Z') ∧ v9 = (iI r).toInt64) ∨ (k = 1 ∧ ¬ (0 ≤ d ∧ d < S 0 0 5 ∧ 0 ≤ q ∧ q ≤ S 2 d 3) ∧ Z' = Z)
set_option maxRecDepth 100000 in
set_option maxHeartbeats 8000000 in
theorem cw_setLevel {l : Launch} {D : va_G} {cys : Nat → ClassId} {ad : Nat → Int → Nat} {L : List Nat} {g : Nat → va_E} {X : Int64} {Z : ZT} (hi : injA ad) (hst : l.stackTraces = false) {S : ZT} {d q : Int} (hS : SP S Z) (hW : WF S) (hd : inR d) (hq : inR q) {ao : Nat} {v0 : Int64} (hao : ao ∈ L) (hns : ¬ isS ad ao) (hgo : g ao = OUT cys v0) : CW l D cys ad yL_setLevel cL_setLevel 5 (some .int) [(0, 10, 13, 21)] 10 179 2 12 [.ref (ad 0 0), .int (iI d), .int (iI q), .ref ao] L g X Z (PGI L g X Z (fun k L9 g9 X9 Z9 => L9 = L ∧ X9 = X ∧ ∃ v9 : Int64, g9 = va_up g ao (OUT cys v9) ∧ WP_setLevel S Z Z9 d q k v9)) := by
  refine cw_start hi (by decide +kernel) (Nat.le_of_ble_eq_true rfl) ?_
  intro p_ e_ s_ m_ args_ below_ meth_ c_ A_ Q_ hQ G hr hN hT
  have eg := up_same hgo
  refine j_aload_n G dL_setLevel_0 rfl ?_
  refine j_iconst G dL_setLevel_1 ?_
  refine j_aload_n G dL_setLevel_2 rfl ?_
  refine j_iload_n G dL_setLevel_3 rfl ?_
  refine j_iload_n G dL_setLevel_4 rfl ?_
  refine j_c1 G (PP := (fun r Z' => (0 ≤ d ∧ d < S 0 0 5 ∧ 0 ≤ q ∧ q ≤ S 2 d 3) ∧ r = lvl (S 0 0 6) d ∧ M_0 S 6 (setL (S 0 0 6) d q) Z')) (x1 := ({ startPc := 0, endPc := 10, handlerPc := 13, catchType := 21 } : ExceptionTableEntry)) (n1 := exI) hT (by decide) (by decide) (TW_of 622 (by decide +kernel) (by decide +kernel)) (List.mem_of_getElem? (i := 2) rfl) cvX6_setLevel mlL_102 (c_X6_setLevel hi hst (by assumption) (by assumption) (by assumption) (by assumption)) dL_setLevel_5 ⟨by decide, by decide⟩ ⟨by decide, by decide⟩ rfl rfl (Nat.le_of_ble_eq_true rfl) (by decide) rfl rfl rfl (fun E Z1 h => h.1) (fun _ _ _ _ _ h => h) (fun Z1 q h => ?_) (fun r Z1 h => ?_)
  · refine j_astore G dL_setLevel_13 (by decide) rfl ?_
    refine j_iconst G dL_setLevel_15 ?_
    refine jr_GI G hQ hr dL_setLevel_16 (by decide) (by decide) ?_
    exact ⟨rfl, rfl, v0, eg.symm, Or.inr ⟨rfl, h.2⟩⟩
  · refine j_i2l G dL_setLevel_8 ?_
    refine j_lastO G dL_setLevel_9 hao hns hgo ?_
    refine j_goto G 17 dL_setLevel_10 (by decide) ?_
    refine j_iconst G dL_setLevel_17 ?_
    refine jr_GI G hQ hr dL_setLevel_18 (by decide) (by decide) ?_
    exact ⟨rfl, rfl, _, rfl, Or.inl ⟨rfl, r, h, rfl⟩⟩
def WP_keep (S Z Z' : ZT) (k : Int) (v9 : Int64) : Prop := (k = 0 ∧ ∃ r : Int, (S 11 0 3 < 6 ∧ r = S 11 0 3 ∧ M_keep S Z') ∧ v9 = (iI r).toInt64) ∨ (k = 1 ∧ ¬ S 11 0 3 < 6 ∧ Z' = Z)
set_option maxRecDepth 100000 in
set_option maxHeartbeats 8000000 in
theorem cw_keep {l : Launch} {D : va_G} {cys : Nat → ClassId} {ad : Nat → Int → Nat} {L : List Nat} {g : Nat → va_E} {X : Int64} {Z : ZT} (hi : injA ad) (hst : l.stackTraces = false) {S : ZT} (hS : SP S Z) (hW : WF S) (h13 : ∀ v, 0 ≤ v → v < 6 → 0 ≤ S 13 0 v ∧ S 13 0 v ≤ 80) {ao : Nat} {v0 : Int64} (hao : ao ∈ L) (hns : ¬ isS ad ao) (hgo : g ao = OUT cys v0) : CW l D cys ad yL_keep cL_keep 3 (some .int) [(0, 8, 11, 15)] 7 114 1 6 [.ref (ad 0 0), .ref ao] L g X Z (PGI L g X Z (fun k L9 g9 X9 Z9 => L9 = L ∧ X9 = X ∧ ∃ v9 : Int64, g9 = va_up g ao (OUT cys v9) ∧ WP_keep S Z Z9 k v9)) := by
  refine cw_start hi (by decide +kernel) (Nat.le_of_ble_eq_true rfl) ?_
  intro p_ e_ s_ m_ args_ below_ meth_ c_ A_ Q_ hQ G hr hN hT
  have eg := up_same hgo
  refine j_aload_n G dL_keep_0 rfl ?_
  refine j_iconst G dL_keep_1 ?_
  refine j_aload_n G dL_keep_2 rfl ?_
  refine j_c1 G (PP := (fun r Z' => S 11 0 3 < 6 ∧ r = S 11 0 3 ∧ M_keep S Z')) (x1 := ({ startPc := 0, endPc := 8, handlerPc := 11, catchType := 15 } : ExceptionTableEntry)) (n1 := exS) hT (by decide) (by decide) (TW_of 518 (by decide +kernel) (by decide +kernel)) (List.mem_of_getElem? (i := 1) rfl) cvX6_keep mlL_105 (c_X6_keep hi hst (by assumption) (by assumption) (by assumption)) dL_keep_3 ⟨by decide, by decide⟩ ⟨by decide, by decide⟩ rfl rfl (Nat.le_of_ble_eq_true rfl) (by decide) rfl rfl rfl (fun E Z1 h => h.1) (fun _ _ _ _ _ h => h) (fun Z1 q h => ?_) (fun r Z1 h => ?_)
  · refine j_astore_n G dL_keep_11 (by decide) rfl ?_
    refine j_iconst G dL_keep_12 ?_
    refine jr_GI G hQ hr dL_keep_13 (by decide) (by decide) ?_
    exact ⟨rfl, rfl, v0, eg.symm, Or.inr ⟨rfl, h.2⟩⟩
  · refine j_i2l G dL_keep_6 ?_
    refine j_lastO G dL_keep_7 hao hns hgo ?_
    refine j_goto G 14 dL_keep_8 (by decide) ?_
    refine j_iconst G dL_keep_14 ?_
    refine jr_GI G hQ hr dL_keep_15 (by decide) (by decide) ?_
    exact ⟨rfl, rfl, _, rfl, Or.inl ⟨rfl, r, h, rfl⟩⟩
def WP_dropView (S Z Z' : ZT) (q : Int) (k : Int) (v9 : Int64) : Prop := (k = 0 ∧ ∃ r : Int, ((0 ≤ q ∧ q < S 11 0 3) ∧ r = S 11 0 3 - 1 ∧ M_dropView S q Z') ∧ v9 = (iI r).toInt64) ∨ (k = 1 ∧ ¬ (0 ≤ q ∧ q < S 11 0 3) ∧ Z' = Z)
set_option maxRecDepth 100000 in
set_option maxHeartbeats 8000000 in
theorem cw_dropView {l : Launch} {D : va_G} {cys : Nat → ClassId} {ad : Nat → Int → Nat} {L : List Nat} {g : Nat → va_E} {X : Int64} {Z : ZT} (hi : injA ad) (hst : l.stackTraces = false) {S : ZT} {q : Int} (hS : SP S Z) (hW : WF S) (hq : inR q) {ao : Nat} {v0 : Int64} (hao : ao ∈ L) (hns : ¬ isS ad ao) (hgo : g ao = OUT cys v0) : CW l D cys ad yL_dropView cL_dropView 4 (some .int) [(0, 9, 12, 21)] 8 132 1 6 [.ref (ad 0 0), .int (iI q), .ref ao] L g X Z (PGI L g X Z (fun k L9 g9 X9 Z9 => L9 = L ∧ X9 = X ∧ ∃ v9 : Int64, g9 = va_up g ao (OUT cys v9) ∧ WP_dropView S Z Z9 q k v9)) := by
  refine cw_start hi (by decide +kernel) (Nat.le_of_ble_eq_true rfl) ?_
  intro p_ e_ s_ m_ args_ below_ meth_ c_ A_ Q_ hQ G hr hN hT
  have eg := up_same hgo
  refine j_aload_n G dL_dropView_0 rfl ?_
  refine j_iconst G dL_dropView_1 ?_
  refine j_aload_n G dL_dropView_2 rfl ?_
  refine j_iload_n G dL_dropView_3 rfl ?_
  refine j_c1 G (PP := (fun r Z' => (0 ≤ q ∧ q < S 11 0 3) ∧ r = S 11 0 3 - 1 ∧ M_dropView S q Z')) (x1 := ({ startPc := 0, endPc := 9, handlerPc := 12, catchType := 21 } : ExceptionTableEntry)) (n1 := exI) hT (by decide) (by decide) (TW_of 622 (by decide +kernel) (by decide +kernel)) (List.mem_of_getElem? (i := 2) rfl) cvX6_dropView mlL_108 (c_X6_dropView hi hst (by assumption) (by assumption) (by assumption)) dL_dropView_4 ⟨by decide, by decide⟩ ⟨by decide, by decide⟩ rfl rfl (Nat.le_of_ble_eq_true rfl) (by decide) rfl rfl rfl (fun E Z1 h => h.1) (fun _ _ _ _ _ h => h) (fun Z1 q h => ?_) (fun r Z1 h => ?_)
  · refine j_astore_n G dL_dropView_12 (by decide) rfl ?_
    refine j_iconst G dL_dropView_13 ?_
    refine jr_GI G hQ hr dL_dropView_14 (by decide) (by decide) ?_
    exact ⟨rfl, rfl, v0, eg.symm, Or.inr ⟨rfl, h.2⟩⟩
  · refine j_i2l G dL_dropView_7 ?_
    refine j_lastO G dL_dropView_8 hao hns hgo ?_
    refine j_goto G 15 dL_dropView_9 (by decide) ?_
    refine j_iconst G dL_dropView_15 ?_
    refine jr_GI G hQ hr dL_dropView_16 (by decide) (by decide) ?_
    exact ⟨rfl, rfl, _, rfl, Or.inl ⟨rfl, r, h, rfl⟩⟩
def WP_refresh (S Z Z' : ZT) (q : Int) (k : Int) (v9 : Int64) : Prop := (k = 0 ∧ ∃ r : Int, ((0 ≤ q ∧ q < S 11 0 3) ∧ r = CELLS S (S 12 0 q) ∧ M_refresh S q Z') ∧ v9 = (iI r).toInt64) ∨ (k = 1 ∧ ¬ (0 ≤ q ∧ q < S 11 0 3) ∧ Z' = Z)
set_option maxRecDepth 100000 in
set_option maxHeartbeats 8000000 in
theorem cw_refresh {l : Launch} {D : va_G} {cys : Nat → ClassId} {ad : Nat → Int → Nat} {L : List Nat} {g : Nat → va_E} {X : Int64} {Z : ZT} (hi : injA ad) (hst : l.stackTraces = false) {S : ZT} {q : Int} (hS : SP S Z) (hW : WF S) (hq : inR q) {ao : Nat} {v0 : Int64} (hao : ao ∈ L) (hns : ¬ isS ad ao) (hgo : g ao = OUT cys v0) : CW l D cys ad yL_refresh cL_refresh 4 (some .int) [(0, 9, 12, 21)] 8 132 1 6 [.ref (ad 0 0), .int (iI q), .ref ao] L g X Z (PGI L g X Z (fun k L9 g9 X9 Z9 => L9 = L ∧ X9 = X ∧ ∃ v9 : Int64, g9 = va_up g ao (OUT cys v9) ∧ WP_refresh S Z Z9 q k v9)) := by
  refine cw_start hi (by decide +kernel) (Nat.le_of_ble_eq_true rfl) ?_
  intro p_ e_ s_ m_ args_ below_ meth_ c_ A_ Q_ hQ G hr hN hT
  have eg := up_same hgo
  refine j_aload_n G dL_refresh_0 rfl ?_
  refine j_iconst G dL_refresh_1 ?_
  refine j_aload_n G dL_refresh_2 rfl ?_
  refine j_iload_n G dL_refresh_3 rfl ?_
  refine j_c1 G (PP := (fun r Z' => (0 ≤ q ∧ q < S 11 0 3) ∧ r = CELLS S (S 12 0 q) ∧ M_refresh S q Z')) (x1 := ({ startPc := 0, endPc := 9, handlerPc := 12, catchType := 21 } : ExceptionTableEntry)) (n1 := exI) hT (by decide) (by decide) (TW_of 622 (by decide +kernel) (by decide +kernel)) (List.mem_of_getElem? (i := 2) rfl) cvX6_refresh mlL_111 (c_X6_refresh hi hst (by assumption) (by assumption) (by assumption)) dL_refresh_4 ⟨by decide, by decide⟩ ⟨by decide, by decide⟩ rfl rfl (Nat.le_of_ble_eq_true rfl) (by decide) rfl rfl rfl (fun E Z1 h => h.1) (fun _ _ _ _ _ h => h) (fun Z1 q h => ?_) (fun r Z1 h => ?_)
  · refine j_astore_n G dL_refresh_12 (by decide) rfl ?_
    refine j_iconst G dL_refresh_13 ?_
    refine jr_GI G hQ hr dL_refresh_14 (by decide) (by decide) ?_
    exact ⟨rfl, rfl, v0, eg.symm, Or.inr ⟨rfl, h.2⟩⟩
  · refine j_i2l G dL_refresh_7 ?_
    refine j_lastO G dL_refresh_8 hao hns hgo ?_
    refine j_goto G 15 dL_refresh_9 (by decide) ?_
    refine j_iconst G dL_refresh_15 ?_
    refine jr_GI G hQ hr dL_refresh_16 (by decide) (by decide) ?_
    exact ⟨rfl, rfl, _, rfl, Or.inl ⟨rfl, r, h, rfl⟩⟩
def WP_rowsOf (S Z Z' : ZT) (q : Int) (k : Int) (v9 : Int64) : Prop := (k = 0 ∧ ∃ r : Int, (((0 ≤ q ∧ q < S 11 0 3) ∧ r = S 13 0 q) ∧ Z' = Z) ∧ v9 = (iI r).toInt64) ∨ (k = 1 ∧ ¬ (0 ≤ q ∧ q < S 11 0 3) ∧ Z' = Z)
set_option maxRecDepth 100000 in
set_option maxHeartbeats 8000000 in
theorem cw_rowsOf {l : Launch} {D : va_G} {cys : Nat → ClassId} {ad : Nat → Int → Nat} {L : List Nat} {g : Nat → va_E} {X : Int64} {Z : ZT} (hi : injA ad) (hst : l.stackTraces = false) {S : ZT} {q : Int} (hS : SP S Z) (hW : WF S) (hq : inR q) {ao : Nat} {v0 : Int64} (hao : ao ∈ L) (hns : ¬ isS ad ao) (hgo : g ao = OUT cys v0) : CW l D cys ad yL_rowsOf cL_rowsOf 4 (some .int) [(0, 9, 12, 21)] 8 132 1 6 [.ref (ad 0 0), .int (iI q), .ref ao] L g X Z (PGI L g X Z (fun k L9 g9 X9 Z9 => L9 = L ∧ X9 = X ∧ ∃ v9 : Int64, g9 = va_up g ao (OUT cys v9) ∧ WP_rowsOf S Z Z9 q k v9)) := by
  refine cw_start hi (by decide +kernel) (Nat.le_of_ble_eq_true rfl) ?_
  intro p_ e_ s_ m_ args_ below_ meth_ c_ A_ Q_ hQ G hr hN hT
  have eg := up_same hgo
  refine j_aload_n G dL_rowsOf_0 rfl ?_
  refine j_iconst G dL_rowsOf_1 ?_
  refine j_aload_n G dL_rowsOf_2 rfl ?_
  refine j_iload_n G dL_rowsOf_3 rfl ?_
  refine j_c1 G (PP := (fun r Z' => ((0 ≤ q ∧ q < S 11 0 3) ∧ r = S 13 0 q) ∧ Z' = Z)) (x1 := ({ startPc := 0, endPc := 9, handlerPc := 12, catchType := 21 } : ExceptionTableEntry)) (n1 := exI) hT (by decide) (by decide) (TW_of 622 (by decide +kernel) (by decide +kernel)) (List.mem_of_getElem? (i := 2) rfl) cvX6_rowsOf mlL_114 (c_X6_rowsOf hi hst (by assumption) (by assumption) (by assumption)) dL_rowsOf_4 ⟨by decide, by decide⟩ ⟨by decide, by decide⟩ rfl rfl (Nat.le_of_ble_eq_true rfl) (by decide) rfl rfl rfl (fun E Z1 h => h.1) (fun _ _ _ _ _ h => by obtain ⟨r, e1, e2, e3, e4, e5, e6⟩ := h; exact ⟨r, e1, ⟨e2, e6⟩, e3, e4, e5⟩) (fun Z1 q h => ?_) (fun r Z1 h => ?_)
  · refine j_astore_n G dL_rowsOf_12 (by decide) rfl ?_
    refine j_iconst G dL_rowsOf_13 ?_
    refine jr_GI G hQ hr dL_rowsOf_14 (by decide) (by decide) ?_
    exact ⟨rfl, rfl, v0, eg.symm, Or.inr ⟨rfl, h.2⟩⟩
  · refine j_i2l G dL_rowsOf_7 ?_
    refine j_lastO G dL_rowsOf_8 hao hns hgo ?_
    refine j_goto G 15 dL_rowsOf_9 (by decide) ?_
    refine j_iconst G dL_rowsOf_15 ?_
    refine jr_GI G hQ hr dL_rowsOf_16 (by decide) (by decide) ?_
    exact ⟨rfl, rfl, _, rfl, Or.inl ⟨rfl, r, h, rfl⟩⟩
def WP_isStale (S Z Z' : ZT) (q : Int) (k : Int) (v9 : Int64) : Prop := (k = 0 ∧ ∃ r : Int, (((0 ≤ q ∧ q < S 11 0 3) ∧ r = S 14 0 q) ∧ Z' = Z) ∧ v9 = (if r = 0 then 0 else 1)) ∨ (k = 1 ∧ ¬ (0 ≤ q ∧ q < S 11 0 3) ∧ Z' = Z)
set_option maxRecDepth 100000 in
set_option maxHeartbeats 8000000 in
theorem cw_isStale {l : Launch} {D : va_G} {cys : Nat → ClassId} {ad : Nat → Int → Nat} {L : List Nat} {g : Nat → va_E} {X : Int64} {Z : ZT} (hi : injA ad) (hst : l.stackTraces = false) {S : ZT} {q : Int} (hS : SP S Z) (hW : WF S) (hq : inR q) {ao : Nat} {v0 : Int64} (hao : ao ∈ L) (hns : ¬ isS ad ao) (hgo : g ao = OUT cys v0) : CW l D cys ad yL_isStale cL_isStale 4 (some .int) [(0, 16, 19, 21)] 8 132 1 6 [.ref (ad 0 0), .int (iI q), .ref ao] L g X Z (PGI L g X Z (fun k L9 g9 X9 Z9 => L9 = L ∧ X9 = X ∧ ∃ v9 : Int64, g9 = va_up g ao (OUT cys v9) ∧ WP_isStale S Z Z9 q k v9)) := by
  refine cw_start hi (by decide +kernel) (Nat.le_of_ble_eq_true rfl) ?_
  intro p_ e_ s_ m_ args_ below_ meth_ c_ A_ Q_ hQ G hr hN hT
  have eg := up_same hgo
  refine j_aload_n G dL_isStale_0 rfl ?_
  refine j_iconst G dL_isStale_1 ?_
  refine j_aload_n G dL_isStale_2 rfl ?_
  refine j_iload_n G dL_isStale_3 rfl ?_
  refine j_c1 G (PP := (fun r Z' => ((0 ≤ q ∧ q < S 11 0 3) ∧ r = S 14 0 q) ∧ Z' = Z)) (x1 := ({ startPc := 0, endPc := 16, handlerPc := 19, catchType := 21 } : ExceptionTableEntry)) (n1 := exI) hT (by decide) (by decide) (TW_of 622 (by decide +kernel) (by decide +kernel)) (List.mem_of_getElem? (i := 2) rfl) cvX6_isStale mlL_117 (c_X6_isStale hi hst (by assumption) (by assumption) (by assumption)) dL_isStale_4 ⟨by decide, by decide⟩ ⟨by decide, by decide⟩ rfl rfl (Nat.le_of_ble_eq_true rfl) (by decide) rfl rfl rfl (fun E Z1 h => h.1) (fun _ _ _ _ _ h => by obtain ⟨r, e1, e2, e3, e4, e5, e6⟩ := h; exact ⟨r, e1, ⟨e2, e6⟩, e3, e4, e5⟩) (fun Z1 q h => ?_) (fun r Z1 h => ?_)
  · refine j_astore_n G dL_isStale_19 (by decide) rfl ?_
    refine j_iconst G dL_isStale_20 ?_
    refine jr_GI G hQ hr dL_isStale_21 (by decide) (by decide) ?_
    exact ⟨rfl, rfl, v0, eg.symm, Or.inr ⟨rfl, h.2⟩⟩
  · have hb01 : r = 0 ∨ r = 1 := by
      rw [h.1.2]; exact hW.st h.1.1.1 (by have := hW.v; have := h.1.1; omega)
    refine j_if_eq G 14 dL_isStale_7 (by decide) (by rcases hb01 with z | z <;> rw [z] <;> decide) (fun c0 => ?_) (fun c0 => ?_)
    · refine j_lconst G dL_isStale_14 rfl ?_
      refine j_lastO G dL_isStale_15 hao hns hgo ?_
      refine j_goto G 22 dL_isStale_16 (by decide) ?_
      refine j_iconst G dL_isStale_22 ?_
      refine jr_GI G hQ hr dL_isStale_23 (by decide) (by decide) ?_
      exact ⟨rfl, rfl, _, rfl, Or.inl ⟨rfl, r, h, by rw [if_pos c0]; rfl⟩⟩
    · refine j_lconst G dL_isStale_10 rfl ?_
      refine j_goto G 15 dL_isStale_11 (by decide) ?_
      refine j_lastO G dL_isStale_15 hao hns hgo ?_
      refine j_goto G 22 dL_isStale_16 (by decide) ?_
      refine j_iconst G dL_isStale_22 ?_
      refine jr_GI G hQ hr dL_isStale_23 (by decide) (by decide) ?_
      exact ⟨rfl, rfl, _, rfl, Or.inl ⟨rfl, r, h, by rw [if_neg c0]; rfl⟩⟩
