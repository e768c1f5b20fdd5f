theorem dX6_addDimension_0 : decode cX6_addDimension 0 = .ok (.iload_n 1, 1) := by decide +kernel
theorem dX6_addDimension_1 : decode cX6_addDimension 1 = .ok (.iconst 1, 1) := by decide +kernel
theorem dX6_addDimension_2 : decode cX6_addDimension 2 = .ok (.if_icmp .lt 8, 3) := by decide +kernel
theorem dX6_addDimension_5 : decode cX6_addDimension 5 = .ok (.iload_n 1, 1) := by decide +kernel
theorem dX6_addDimension_6 : decode cX6_addDimension 6 = .ok (.iconst 3, 1) := by decide +kernel
theorem dX6_addDimension_7 : decode cX6_addDimension 7 = .ok (.if_icmp .le 13, 3) := by decide +kernel
theorem dX6_addDimension_10 : decode cX6_addDimension 10 = .ok (.new 59, 3) := by decide +kernel
theorem dX6_addDimension_13 : decode cX6_addDimension 13 = .ok (.dup, 1) := by decide +kernel
theorem dX6_addDimension_14 : decode cX6_addDimension 14 = .ok (.ldc 61, 2) := by decide +kernel
theorem dX6_addDimension_16 : decode cX6_addDimension 16 = .ok (.invokespecial 63, 3) := by decide +kernel
theorem dX6_addDimension_19 : decode cX6_addDimension 19 = .ok (.athrow, 1) := by decide +kernel
theorem dX6_addDimension_20 : decode cX6_addDimension 20 = .ok (.aload_n 0, 1) := by decide +kernel
theorem dX6_addDimension_21 : decode cX6_addDimension 21 = .ok (.getfield 66, 3) := by decide +kernel
theorem dX6_addDimension_24 : decode cX6_addDimension 24 = .ok (.iconst 4, 1) := by decide +kernel
theorem dX6_addDimension_25 : decode cX6_addDimension 25 = .ok (.if_icmp .lt 13, 3) := by decide +kernel
theorem dX6_addDimension_28 : decode cX6_addDimension 28 = .ok (.new 70, 3) := by decide +kernel
theorem dX6_addDimension_31 : decode cX6_addDimension 31 = .ok (.dup, 1) := by decide +kernel
theorem dX6_addDimension_32 : decode cX6_addDimension 32 = .ok (.ldc 72, 2) := by decide +kernel
theorem dX6_addDimension_34 : decode cX6_addDimension 34 = .ok (.invokespecial 74, 3) := by decide +kernel
theorem dX6_addDimension_37 : decode cX6_addDimension 37 = .ok (.athrow, 1) := by decide +kernel
theorem dX6_addDimension_38 : decode cX6_addDimension 38 = .ok (.aload_n 0, 1) := by decide +kernel
theorem dX6_addDimension_39 : decode cX6_addDimension 39 = .ok (.getfield 66, 3) := by decide +kernel
theorem dX6_addDimension_42 : decode cX6_addDimension 42 = .ok (.istore_n 2, 1) := by decide +kernel
theorem dX6_addDimension_43 : decode cX6_addDimension 43 = .ok (.aload_n 0, 1) := by decide +kernel
theorem dX6_addDimension_44 : decode cX6_addDimension 44 = .ok (.getfield 11, 3) := by decide +kernel
theorem dX6_addDimension_47 : decode cX6_addDimension 47 = .ok (.iload_n 2, 1) := by decide +kernel
theorem dX6_addDimension_48 : decode cX6_addDimension 48 = .ok (.aaload, 1) := by decide +kernel
theorem dX6_addDimension_49 : decode cX6_addDimension 49 = .ok (.iload_n 1, 1) := by decide +kernel
theorem dX6_addDimension_50 : decode cX6_addDimension 50 = .ok (.invokevirtual 75, 3) := by decide +kernel
theorem dX6_addDimension_53 : decode cX6_addDimension 53 = .ok (.aload_n 0, 1) := by decide +kernel
theorem dX6_addDimension_54 : decode cX6_addDimension 54 = .ok (.dup, 1) := by decide +kernel
theorem dX6_addDimension_55 : decode cX6_addDimension 55 = .ok (.getfield 66, 3) := by decide +kernel
theorem dX6_addDimension_58 : decode cX6_addDimension 58 = .ok (.iconst 1, 1) := by decide +kernel
theorem dX6_addDimension_59 : decode cX6_addDimension 59 = .ok (.iadd, 1) := by decide +kernel
theorem dX6_addDimension_60 : decode cX6_addDimension 60 = .ok (.putfield 66, 3) := by decide +kernel
theorem dX6_addDimension_63 : decode cX6_addDimension 63 = .ok (.aload_n 0, 1) := by decide +kernel
theorem dX6_addDimension_64 : decode cX6_addDimension 64 = .ok (.invokevirtual 79, 3) := by decide +kernel
theorem dX6_addDimension_67 : decode cX6_addDimension 67 = .ok (.iload_n 2, 1) := by decide +kernel
theorem dX6_addDimension_68 : decode cX6_addDimension 68 = .ok (.ireturn, 1) := by decide +kernel
theorem dX6_addMember_0 : decode cX6_addMember 0 = .ok (.aload_n 0, 1) := by decide +kernel
theorem dX6_addMember_1 : decode cX6_addMember 1 = .ok (.iload_n 1, 1) := by decide +kernel
theorem dX6_addMember_2 : decode cX6_addMember 2 = .ok (.iload_n 2, 1) := by decide +kernel
theorem dX6_addMember_3 : decode cX6_addMember 3 = .ok (.invokevirtual 82, 3) := by decide +kernel
theorem dX6_addMember_6 : decode cX6_addMember 6 = .ok (.astore_n 3, 1) := by decide +kernel
theorem dX6_addMember_7 : decode cX6_addMember 7 = .ok (.aload_n 3, 1) := by decide +kernel
theorem dX6_addMember_8 : decode cX6_addMember 8 = .ok (.iload_n 2, 1) := by decide +kernel
theorem dX6_addMember_9 : decode cX6_addMember 9 = .ok (.invokevirtual 86, 3) := by decide +kernel
theorem dX6_addMember_12 : decode cX6_addMember 12 = .ok (.ifCond .eq 13, 3) := by decide +kernel
theorem dX6_addMember_15 : decode cX6_addMember 15 = .ok (.new 70, 3) := by decide +kernel
theorem dX6_addMember_18 : decode cX6_addMember 18 = .ok (.dup, 1) := by decide +kernel
theorem dX6_addMember_19 : decode cX6_addMember 19 = .ok (.ldc 90, 2) := by decide +kernel
theorem dX6_addMember_21 : decode cX6_addMember 21 = .ok (.invokespecial 74, 3) := by decide +kernel
theorem dX6_addMember_24 : decode cX6_addMember 24 = .ok (.athrow, 1) := by decide +kernel
theorem dX6_addMember_25 : decode cX6_addMember 25 = .ok (.aload_n 3, 1) := by decide +kernel
theorem dX6_addMember_26 : decode cX6_addMember 26 = .ok (.invokevirtual 92, 3) := by decide +kernel
theorem dX6_addMember_29 : decode cX6_addMember 29 = .ok (.ifCond .eq 13, 3) := by decide +kernel
theorem dX6_addMember_32 : decode cX6_addMember 32 = .ok (.new 70, 3) := by decide +kernel
theorem dX6_addMember_35 : decode cX6_addMember 35 = .ok (.dup, 1) := by decide +kernel
theorem dX6_addMember_36 : decode cX6_addMember 36 = .ok (.ldc 96, 2) := by decide +kernel
theorem dX6_addMember_38 : decode cX6_addMember 38 = .ok (.invokespecial 74, 3) := by decide +kernel
theorem dX6_addMember_41 : decode cX6_addMember 41 = .ok (.athrow, 1) := by decide +kernel
theorem dX6_addMember_42 : decode cX6_addMember 42 = .ok (.aload_n 3, 1) := by decide +kernel
theorem dX6_addMember_43 : decode cX6_addMember 43 = .ok (.iload_n 2, 1) := by decide +kernel
theorem dX6_addMember_44 : decode cX6_addMember 44 = .ok (.invokevirtual 98, 3) := by decide +kernel
theorem dX6_addMember_47 : decode cX6_addMember 47 = .ok (.ireturn, 1) := by decide +kernel
theorem dX6_move_0 : decode cX6_move 0 = .ok (.aload_n 0, 1) := by decide +kernel
theorem dX6_move_1 : decode cX6_move 1 = .ok (.iload_n 1, 1) := by decide +kernel
theorem dX6_move_2 : decode cX6_move 2 = .ok (.iload_n 2, 1) := by decide +kernel
theorem dX6_move_3 : decode cX6_move 3 = .ok (.invokevirtual 82, 3) := by decide +kernel
theorem dX6_move_6 : decode cX6_move 6 = .ok (.astore 4, 2) := by decide +kernel
theorem dX6_move_8 : decode cX6_move 8 = .ok (.aload 4, 2) := by decide +kernel
theorem dX6_move_10 : decode cX6_move 10 = .ok (.iload_n 3, 1) := by decide +kernel
theorem dX6_move_11 : decode cX6_move 11 = .ok (.invokevirtual 102, 3) := by decide +kernel
theorem dX6_move_14 : decode cX6_move 14 = .ok (.ifCond .ne 13, 3) := by decide +kernel
theorem dX6_move_17 : decode cX6_move 17 = .ok (.new 105, 3) := by decide +kernel
theorem dX6_move_20 : decode cX6_move 20 = .ok (.dup, 1) := by decide +kernel
theorem dX6_move_21 : decode cX6_move 21 = .ok (.ldc 107, 2) := by decide +kernel
theorem dX6_move_23 : decode cX6_move 23 = .ok (.invokespecial 109, 3) := by decide +kernel
theorem dX6_move_26 : decode cX6_move 26 = .ok (.athrow, 1) := by decide +kernel
theorem dX6_move_27 : decode cX6_move 27 = .ok (.iload_n 2, 1) := by decide +kernel
theorem dX6_move_28 : decode cX6_move 28 = .ok (.ifCond .ne 13, 3) := by decide +kernel
theorem dX6_move_31 : decode cX6_move 31 = .ok (.new 59, 3) := by decide +kernel
theorem dX6_move_34 : decode cX6_move 34 = .ok (.dup, 1) := by decide +kernel
theorem dX6_move_35 : decode cX6_move 35 = .ok (.ldc 110, 2) := by decide +kernel
theorem dX6_move_37 : decode cX6_move 37 = .ok (.invokespecial 63, 3) := by decide +kernel
theorem dX6_move_40 : decode cX6_move 40 = .ok (.athrow, 1) := by decide +kernel
theorem dX6_move_41 : decode cX6_move 41 = .ok (.aload 4, 2) := by decide +kernel
theorem dX6_move_43 : decode cX6_move 43 = .ok (.getfield 112, 3) := by decide +kernel
theorem dX6_move_46 : decode cX6_move 46 = .ok (.iload_n 3, 1) := by decide +kernel
theorem dX6_move_47 : decode cX6_move 47 = .ok (.iaload, 1) := by decide +kernel
theorem dX6_move_48 : decode cX6_move 48 = .ok (.aload 4, 2) := by decide +kernel
theorem dX6_move_50 : decode cX6_move 50 = .ok (.getfield 112, 3) := by decide +kernel
theorem dX6_move_53 : decode cX6_move 53 = .ok (.iload_n 2, 1) := by decide +kernel
theorem dX6_move_54 : decode cX6_move 54 = .ok (.iaload, 1) := by decide +kernel
theorem dX6_move_55 : decode cX6_move 55 = .ok (.iconst 1, 1) := by decide +kernel
theorem dX6_move_56 : decode cX6_move 56 = .ok (.isub, 1) := by decide +kernel
theorem dX6_move_57 : decode cX6_move 57 = .ok (.if_icmp .eq 13, 3) := by decide +kernel
theorem dX6_move_60 : decode cX6_move 60 = .ok (.new 59, 3) := by decide +kernel
theorem dX6_move_63 : decode cX6_move 63 = .ok (.dup, 1) := by decide +kernel
theorem dX6_move_64 : decode cX6_move 64 = .ok (.ldc 116, 2) := by decide +kernel
theorem dX6_move_66 : decode cX6_move 66 = .ok (.invokespecial 63, 3) := by decide +kernel
theorem dX6_move_69 : decode cX6_move 69 = .ok (.athrow, 1) := by decide +kernel
theorem dX6_move_70 : decode cX6_move 70 = .ok (.aload 4, 2) := by decide +kernel
theorem dX6_move_72 : decode cX6_move 72 = .ok (.getfield 118, 3) := by decide +kernel
theorem dX6_move_75 : decode cX6_move 75 = .ok (.iload_n 2, 1) := by decide +kernel
theorem dX6_move_76 : decode cX6_move 76 = .ok (.iaload, 1) := by decide +kernel
theorem dX6_move_77 : decode cX6_move 77 = .ok (.istore 5, 2) := by decide +kernel
theorem dX6_move_79 : decode cX6_move 79 = .ok (.aload 4, 2) := by decide +kernel
theorem dX6_move_81 : decode cX6_move 81 = .ok (.getfield 118, 3) := by decide +kernel
theorem dX6_move_84 : decode cX6_move 84 = .ok (.iload_n 2, 1) := by decide +kernel
theorem dX6_move_85 : decode cX6_move 85 = .ok (.iload_n 3, 1) := by decide +kernel
theorem dX6_move_86 : decode cX6_move 86 = .ok (.iastore, 1) := by decide +kernel
theorem dX6_move_87 : decode cX6_move 87 = .ok (.aload_n 0, 1) := by decide +kernel
theorem dX6_move_88 : decode cX6_move 88 = .ok (.getfield 25, 3) := by decide +kernel
theorem dX6_move_91 : decode cX6_move 91 = .ok (.invokevirtual 121, 3) := by decide +kernel
theorem dX6_move_94 : decode cX6_move 94 = .ok (.iload 5, 2) := by decide +kernel
theorem dX6_move_96 : decode cX6_move 96 = .ok (.ireturn, 1) := by decide +kernel
theorem dX6_members_0 : decode cX6_members 0 = .ok (.aload_n 0, 1) := by decide +kernel
theorem dX6_members_1 : decode cX6_members 1 = .ok (.iload_n 1, 1) := by decide +kernel
theorem dX6_members_2 : decode cX6_members 2 = .ok (.invokevirtual 124, 3) := by decide +kernel
theorem dX6_members_5 : decode cX6_members 5 = .ok (.getfield 128, 3) := by decide +kernel
theorem dX6_members_8 : decode cX6_members 8 = .ok (.ireturn, 1) := by decide +kernel
theorem dX6_pointOf_0 : decode cX6_pointOf 0 = .ok (.aload_n 0, 1) := by decide +kernel
theorem dX6_pointOf_1 : decode cX6_pointOf 1 = .ok (.iload_n 1, 1) := by decide +kernel
theorem dX6_pointOf_2 : decode cX6_pointOf 2 = .ok (.invokevirtual 124, 3) := by decide +kernel
theorem dX6_pointOf_5 : decode cX6_pointOf 5 = .ok (.getfield 150, 3) := by decide +kernel
theorem dX6_pointOf_8 : decode cX6_pointOf 8 = .ok (.ireturn, 1) := by decide +kernel
theorem dX6_levelOf_0 : decode cX6_levelOf 0 = .ok (.aload_n 0, 1) := by decide +kernel
theorem dX6_levelOf_1 : decode cX6_levelOf 1 = .ok (.iload_n 1, 1) := by decide +kernel
theorem dX6_levelOf_2 : decode cX6_levelOf 2 = .ok (.iload_n 2, 1) := by decide +kernel
theorem dX6_levelOf_3 : decode cX6_levelOf 3 = .ok (.invokevirtual 82, 3) := by decide +kernel
theorem dX6_levelOf_6 : decode cX6_levelOf 6 = .ok (.getfield 112, 3) := by decide +kernel
theorem dX6_levelOf_9 : decode cX6_levelOf 9 = .ok (.iload_n 2, 1) := by decide +kernel
theorem dX6_levelOf_10 : decode cX6_levelOf 10 = .ok (.iaload, 1) := by decide +kernel
theorem dX6_levelOf_11 : decode cX6_levelOf 11 = .ok (.ireturn, 1) := by decide +kernel
theorem dX6_leaveOut_0 : decode cX6_leaveOut 0 = .ok (.aload_n 0, 1) := by decide +kernel
theorem dX6_leaveOut_1 : decode cX6_leaveOut 1 = .ok (.iload_n 1, 1) := by decide +kernel
theorem dX6_leaveOut_2 : decode cX6_leaveOut 2 = .ok (.iload_n 2, 1) := by decide +kernel
theorem dX6_leaveOut_3 : decode cX6_leaveOut 3 = .ok (.invokevirtual 82, 3) := by decide +kernel
theorem dX6_leaveOut_6 : decode cX6_leaveOut 6 = .ok (.astore 4, 2) := by decide +kernel
theorem dX6_leaveOut_8 : decode cX6_leaveOut 8 = .ok (.aload 4, 2) := by decide +kernel
theorem dX6_leaveOut_10 : decode cX6_leaveOut 10 = .ok (.getfield 146, 3) := by decide +kernel
theorem dX6_leaveOut_13 : decode cX6_leaveOut 13 = .ok (.iload_n 2, 1) := by decide +kernel
theorem dX6_leaveOut_14 : decode cX6_leaveOut 14 = .ok (.baload, 1) := by decide +kernel
theorem dX6_leaveOut_15 : decode cX6_leaveOut 15 = .ok (.istore 5, 2) := by decide +kernel
theorem dX6_leaveOut_17 : decode cX6_leaveOut 17 = .ok (.aload 4, 2) := by decide +kernel
theorem dX6_leaveOut_19 : decode cX6_leaveOut 19 = .ok (.getfield 146, 3) := by decide +kernel
theorem dX6_leaveOut_22 : decode cX6_leaveOut 22 = .ok (.iload_n 2, 1) := by decide +kernel
theorem dX6_leaveOut_23 : decode cX6_leaveOut 23 = .ok (.iload_n 3, 1) := by decide +kernel
theorem dX6_leaveOut_24 : decode cX6_leaveOut 24 = .ok (.bastore, 1) := by decide +kernel
theorem dX6_leaveOut_25 : decode cX6_leaveOut 25 = .ok (.iload 5, 2) := by decide +kernel
theorem dX6_leaveOut_27 : decode cX6_leaveOut 27 = .ok (.ireturn, 1) := by decide +kernel
theorem dX6_goTo_0 : decode cX6_goTo 0 = .ok (.aload_n 0, 1) := by decide +kernel
theorem dX6_goTo_1 : decode cX6_goTo 1 = .ok (.iload_n 1, 1) := by decide +kernel
theorem dX6_goTo_2 : decode cX6_goTo 2 = .ok (.iload_n 2, 1) := by decide +kernel
theorem dX6_goTo_3 : decode cX6_goTo 3 = .ok (.invokevirtual 82, 3) := by decide +kernel
theorem dX6_goTo_6 : decode cX6_goTo 6 = .ok (.astore_n 3, 1) := by decide +kernel
theorem dX6_goTo_7 : decode cX6_goTo 7 = .ok (.aload_n 3, 1) := by decide +kernel
theorem dX6_goTo_8 : decode cX6_goTo 8 = .ok (.getfield 150, 3) := by decide +kernel
theorem dX6_goTo_11 : decode cX6_goTo 11 = .ok (.istore 4, 2) := by decide +kernel
theorem dX6_goTo_13 : decode cX6_goTo 13 = .ok (.aload_n 3, 1) := by decide +kernel
theorem dX6_goTo_14 : decode cX6_goTo 14 = .ok (.iload_n 2, 1) := by decide +kernel
theorem dX6_goTo_15 : decode cX6_goTo 15 = .ok (.putfield 150, 3) := by decide +kernel
theorem dX6_goTo_18 : decode cX6_goTo 18 = .ok (.iload 4, 2) := by decide +kernel
theorem dX6_goTo_20 : decode cX6_goTo 20 = .ok (.ireturn, 1) := by decide +kernel
theorem dX6_goUp_0 : decode cX6_goUp 0 = .ok (.aload_n 0, 1) := by decide +kernel
theorem dX6_goUp_1 : decode cX6_goUp 1 = .ok (.iload_n 1, 1) := by decide +kernel
theorem dX6_goUp_2 : decode cX6_goUp 2 = .ok (.invokevirtual 124, 3) := by decide +kernel
theorem dX6_goUp_5 : decode cX6_goUp 5 = .ok (.astore_n 2, 1) := by decide +kernel
theorem dX6_goUp_6 : decode cX6_goUp 6 = .ok (.aload_n 2, 1) := by decide +kernel
theorem dX6_goUp_7 : decode cX6_goUp 7 = .ok (.aload_n 2, 1) := by decide +kernel
theorem dX6_goUp_8 : decode cX6_goUp 8 = .ok (.getfield 150, 3) := by decide +kernel
theorem dX6_goUp_11 : decode cX6_goUp 11 = .ok (.invokevirtual 102, 3) := by decide +kernel
theorem dX6_goUp_14 : decode cX6_goUp 14 = .ok (.ifCond .eq 10, 3) := by decide +kernel
theorem dX6_goUp_17 : decode cX6_goUp 17 = .ok (.aload_n 2, 1) := by decide +kernel
theorem dX6_goUp_18 : decode cX6_goUp 18 = .ok (.getfield 150, 3) := by decide +kernel
theorem dX6_goUp_21 : decode cX6_goUp 21 = .ok (.ifCond .ne 5, 3) := by decide +kernel
theorem dX6_goUp_24 : decode cX6_goUp 24 = .ok (.iconst (-1), 1) := by decide +kernel
theorem dX6_goUp_25 : decode cX6_goUp 25 = .ok (.ireturn, 1) := by decide +kernel
theorem dX6_goUp_26 : decode cX6_goUp 26 = .ok (.aload_n 2, 1) := by decide +kernel
theorem dX6_goUp_27 : decode cX6_goUp 27 = .ok (.aload_n 2, 1) := by decide +kernel
theorem dX6_goUp_28 : decode cX6_goUp 28 = .ok (.getfield 118, 3) := by decide +kernel
theorem dX6_goUp_31 : decode cX6_goUp 31 = .ok (.aload_n 2, 1) := by decide +kernel
theorem dX6_goUp_32 : decode cX6_goUp 32 = .ok (.getfield 150, 3) := by decide +kernel
theorem dX6_goUp_35 : decode cX6_goUp 35 = .ok (.iaload, 1) := by decide +kernel
theorem dX6_goUp_36 : decode cX6_goUp 36 = .ok (.putfield 150, 3) := by decide +kernel
theorem dX6_goUp_39 : decode cX6_goUp 39 = .ok (.aload_n 2, 1) := by decide +kernel
theorem dX6_goUp_40 : decode cX6_goUp 40 = .ok (.getfield 150, 3) := by decide +kernel
theorem dX6_goUp_43 : decode cX6_goUp 43 = .ok (.ireturn, 1) := by decide +kernel
theorem dX6_add_0 : decode cX6_add 0 = .ok (.iload_n 1, 1) := by decide +kernel
theorem dX6_add_1 : decode cX6_add 1 = .ok (.sipush (-10000), 3) := by decide +kernel
theorem dX6_add_4 : decode cX6_add 4 = .ok (.if_icmp .lt 10, 3) := by decide +kernel
theorem dX6_add_7 : decode cX6_add 7 = .ok (.iload_n 1, 1) := by decide +kernel
theorem dX6_add_8 : decode cX6_add 8 = .ok (.sipush 10000, 3) := by decide +kernel
theorem dX6_add_11 : decode cX6_add 11 = .ok (.if_icmp .le 13, 3) := by decide +kernel
theorem dX6_add_14 : decode cX6_add 14 = .ok (.new 59, 3) := by decide +kernel
theorem dX6_add_17 : decode cX6_add 17 = .ok (.dup, 1) := by decide +kernel
theorem dX6_add_18 : decode cX6_add 18 = .ok (.ldc 153, 2) := by decide +kernel
theorem dX6_add_20 : decode cX6_add 20 = .ok (.invokespecial 63, 3) := by decide +kernel
theorem dX6_add_23 : decode cX6_add 23 = .ok (.athrow, 1) := by decide +kernel
theorem dX6_add_24 : decode cX6_add 24 = .ok (.aload_n 0, 1) := by decide +kernel
theorem dX6_add_25 : decode cX6_add 25 = .ok (.invokevirtual 155, 3) := by decide +kernel
theorem dX6_add_28 : decode cX6_add 28 = .ok (.ifCond .ne 13, 3) := by decide +kernel
theorem dX6_add_31 : decode cX6_add 31 = .ok (.new 70, 3) := by decide +kernel
theorem dX6_add_34 : decode cX6_add 34 = .ok (.dup, 1) := by decide +kernel
theorem dX6_add_35 : decode cX6_add 35 = .ok (.ldc 158, 2) := by decide +kernel
theorem dX6_add_37 : decode cX6_add 37 = .ok (.invokespecial 74, 3) := by decide +kernel
theorem dX6_add_40 : decode cX6_add 40 = .ok (.athrow, 1) := by decide +kernel
theorem dX6_add_41 : decode cX6_add 41 = .ok (.aload_n 0, 1) := by decide +kernel
theorem dX6_add_42 : decode cX6_add 42 = .ok (.getfield 18, 3) := by decide +kernel
theorem dX6_add_45 : decode cX6_add 45 = .ok (.getfield 160, 3) := by decide +kernel
theorem dX6_add_48 : decode cX6_add 48 = .ok (.bipush 80, 2) := by decide +kernel
theorem dX6_add_50 : decode cX6_add 50 = .ok (.if_icmp .lt 13, 3) := by decide +kernel
theorem dX6_add_53 : decode cX6_add 53 = .ok (.new 70, 3) := by decide +kernel
theorem dX6_add_56 : decode cX6_add 56 = .ok (.dup, 1) := by decide +kernel
theorem dX6_add_57 : decode cX6_add 57 = .ok (.ldc 161, 2) := by decide +kernel
theorem dX6_add_59 : decode cX6_add 59 = .ok (.invokespecial 74, 3) := by decide +kernel
theorem dX6_add_62 : decode cX6_add 62 = .ok (.athrow, 1) := by decide +kernel
theorem dX6_add_63 : decode cX6_add 63 = .ok (.aload_n 0, 1) := by decide +kernel
theorem dX6_add_64 : decode cX6_add 64 = .ok (.getfield 18, 3) := by decide +kernel
theorem dX6_add_67 : decode cX6_add 67 = .ok (.getfield 160, 3) := by decide +kernel
theorem dX6_add_70 : decode cX6_add 70 = .ok (.istore_n 2, 1) := by decide +kernel
theorem dX6_add_71 : decode cX6_add 71 = .ok (.aload_n 0, 1) := by decide +kernel
theorem dX6_add_72 : decode cX6_add 72 = .ok (.getfield 18, 3) := by decide +kernel
theorem dX6_add_75 : decode cX6_add 75 = .ok (.getfield 163, 3) := by decide +kernel
theorem dX6_add_78 : decode cX6_add 78 = .ok (.iload_n 2, 1) := by decide +kernel
theorem dX6_add_79 : decode cX6_add 79 = .ok (.iload_n 1, 1) := by decide +kernel
theorem dX6_add_80 : decode cX6_add 80 = .ok (.iastore, 1) := by decide +kernel
theorem dX6_add_81 : decode cX6_add 81 = .ok (.iconst 0, 1) := by decide +kernel
theorem dX6_add_82 : decode cX6_add 82 = .ok (.istore_n 3, 1) := by decide +kernel
theorem dX6_add_83 : decode cX6_add 83 = .ok (.iload_n 3, 1) := by decide +kernel
theorem dX6_add_84 : decode cX6_add 84 = .ok (.aload_n 0, 1) := by decide +kernel
theorem dX6_add_85 : decode cX6_add 85 = .ok (.getfield 66, 3) := by decide +kernel
theorem dX6_add_88 : decode cX6_add 88 = .ok (.if_icmp .ge 29, 3) := by decide +kernel
theorem dX6_add_91 : decode cX6_add 91 = .ok (.aload_n 0, 1) := by decide +kernel
theorem dX6_add_92 : decode cX6_add 92 = .ok (.getfield 18, 3) := by decide +kernel
theorem dX6_add_95 : decode cX6_add 95 = .ok (.getfield 166, 3) := by decide +kernel
theorem dX6_add_98 : decode cX6_add 98 = .ok (.iload_n 3, 1) := by decide +kernel
theorem dX6_add_99 : decode cX6_add 99 = .ok (.aaload, 1) := by decide +kernel
theorem dX6_add_100 : decode cX6_add 100 = .ok (.iload_n 2, 1) := by decide +kernel
theorem dX6_add_101 : decode cX6_add 101 = .ok (.aload_n 0, 1) := by decide +kernel
theorem dX6_add_102 : decode cX6_add 102 = .ok (.getfield 11, 3) := by decide +kernel
theorem dX6_add_105 : decode cX6_add 105 = .ok (.iload_n 3, 1) := by decide +kernel
theorem dX6_add_106 : decode cX6_add 106 = .ok (.aaload, 1) := by decide +kernel
theorem dX6_add_107 : decode cX6_add 107 = .ok (.getfield 150, 3) := by decide +kernel
theorem dX6_add_110 : decode cX6_add 110 = .ok (.iastore, 1) := by decide +kernel
theorem dX6_add_111 : decode cX6_add 111 = .ok (.iinc 3 1, 3) := by decide +kernel
theorem dX6_add_114 : decode cX6_add 114 = .ok (.goto (-31), 3) := by decide +kernel
theorem dX6_add_117 : decode cX6_add 117 = .ok (.aload_n 0, 1) := by decide +kernel
theorem dX6_add_118 : decode cX6_add 118 = .ok (.getfield 18, 3) := by decide +kernel
theorem dX6_add_121 : decode cX6_add 121 = .ok (.dup, 1) := by decide +kernel
theorem dX6_add_122 : decode cX6_add 122 = .ok (.getfield 160, 3) := by decide +kernel
theorem dX6_add_125 : decode cX6_add 125 = .ok (.iconst 1, 1) := by decide +kernel
theorem dX6_add_126 : decode cX6_add 126 = .ok (.iadd, 1) := by decide +kernel
theorem dX6_add_127 : decode cX6_add 127 = .ok (.putfield 160, 3) := by decide +kernel
theorem dX6_add_130 : decode cX6_add 130 = .ok (.aload_n 0, 1) := by decide +kernel
theorem dX6_add_131 : decode cX6_add 131 = .ok (.getfield 25, 3) := by decide +kernel
theorem dX6_add_134 : decode cX6_add 134 = .ok (.invokevirtual 121, 3) := by decide +kernel
theorem dX6_add_137 : decode cX6_add 137 = .ok (.iload_n 2, 1) := by decide +kernel
theorem dX6_add_138 : decode cX6_add 138 = .ok (.ireturn, 1) := by decide +kernel
theorem dX6_drop_0 : decode cX6_drop 0 = .ok (.aload_n 0, 1) := by decide +kernel
theorem dX6_drop_1 : decode cX6_drop 1 = .ok (.getfield 18, 3) := by decide +kernel
theorem dX6_drop_4 : decode cX6_drop 4 = .ok (.iload_n 1, 1) := by decide +kernel
theorem dX6_drop_5 : decode cX6_drop 5 = .ok (.invokevirtual 169, 3) := by decide +kernel
theorem dX6_drop_8 : decode cX6_drop 8 = .ok (.ifCond .ne 13, 3) := by decide +kernel
theorem dX6_drop_11 : decode cX6_drop 11 = .ok (.new 105, 3) := by decide +kernel
theorem dX6_drop_14 : decode cX6_drop 14 = .ok (.dup, 1) := by decide +kernel
theorem dX6_drop_15 : decode cX6_drop 15 = .ok (.ldc 170, 2) := by decide +kernel
theorem dX6_drop_17 : decode cX6_drop 17 = .ok (.invokespecial 109, 3) := by decide +kernel
theorem dX6_drop_20 : decode cX6_drop 20 = .ok (.athrow, 1) := by decide +kernel
theorem dX6_drop_21 : decode cX6_drop 21 = .ok (.aload_n 0, 1) := by decide +kernel
theorem dX6_drop_22 : decode cX6_drop 22 = .ok (.getfield 18, 3) := by decide +kernel
theorem dX6_drop_25 : decode cX6_drop 25 = .ok (.getfield 163, 3) := by decide +kernel
theorem dX6_drop_28 : decode cX6_drop 28 = .ok (.iload_n 1, 1) := by decide +kernel
theorem dX6_drop_29 : decode cX6_drop 29 = .ok (.iaload, 1) := by decide +kernel
theorem dX6_drop_30 : decode cX6_drop 30 = .ok (.istore_n 2, 1) := by decide +kernel
theorem dX6_drop_31 : decode cX6_drop 31 = .ok (.aload_n 0, 1) := by decide +kernel
theorem dX6_drop_32 : decode cX6_drop 32 = .ok (.getfield 18, 3) := by decide +kernel
theorem dX6_drop_35 : decode cX6_drop 35 = .ok (.iload_n 1, 1) := by decide +kernel
theorem dX6_drop_36 : decode cX6_drop 36 = .ok (.invokevirtual 172, 3) := by decide +kernel
theorem dX6_drop_39 : decode cX6_drop 39 = .ok (.aload_n 0, 1) := by decide +kernel
theorem dX6_drop_40 : decode cX6_drop 40 = .ok (.getfield 25, 3) := by decide +kernel
theorem dX6_drop_43 : decode cX6_drop 43 = .ok (.invokevirtual 121, 3) := by decide +kernel
theorem dX6_drop_46 : decode cX6_drop 46 = .ok (.iload_n 2, 1) := by decide +kernel
theorem dX6_drop_47 : decode cX6_drop 47 = .ok (.ireturn, 1) := by decide +kernel
/-! by program: wip/whole/gen.py out of wip/whole/src/21.muts.eb -/
/-! EbbTable: the calls that change the state, and those that ask and throw -/
set_option maxRecDepth 100000 in
set_option maxHeartbeats 8000000 in
theorem c_X6_addDimension {l : Launch} {D : va_G} {cys : Nat → ClassId} {ad : Nat → Int → Nat} {L : List Nat} {g : Nat → va_E} {X : Int64} {Z : ZT} (hi : injA ad) (hst : l.stackTraces = false) {S : ZT} {lv : Int} (hS : SP S Z) (hW : WF S) (hlv : inR lv) : CX l D cys ad yX6_addDimension cX6_addDimension 3 (some .int) 6 90 1 6 [.ref (ad 0 0), .int (iI lv)] L g X Z (PIZ L g X Z (fun r Z' => (1 ≤ lv ∧ lv ≤ 3) ∧ S 0 0 5 < 4 ∧ r = S 0 0 5 ∧ M_addDimension S lv Z')) (PXZ L g X (fun E Z' => ((E = exA ∧ ¬ (1 ≤ lv ∧ lv ≤ 3)) ∨ (E = exS ∧ (1 ≤ lv ∧ lv ≤ 3) ∧ ¬ S 0 0 5 < 4)) ∧ Z' = Z)) := by
  refine cx_start hi (by decide +kernel) (Nat.le_of_ble_eq_true rfl) ?_
  intro p_ e_ s_ m_ args_ below_ meth_ c_ A_ Q_ hQX hE G hr
  have hQ := vq_of hQX
  have hn := hW.n
  have e05 : Z 0 0 5 = S 0 0 5 := by rw [hS.1 0 rfl]
  refine j_iload_n G dX6_addDimension_0 rfl ?_
  refine j_iconst G dX6_addDimension_1 ?_
  refine j_icmp_lt G 10 dX6_addDimension_2 (by decide) (by omega) (by omega) (fun c2 => ?_) (fun c2 => ?_)
  · refine j_throw G hQX hE hst (E := exA) (names := xNm) (by decide +kernel) (by decide +kernel) xkA xiA (List.mem_of_getElem? (i := 2) rfl) xt1A xt2A xt3A dX6_addDimension_10 dX6_addDimension_13 dX6_addDimension_14 dX6_addDimension_16 dX6_addDimension_19 ⟨by decide, Nat.le_of_ble_eq_true rfl, by decide, by decide⟩ (by decide) (by decide) ?_
    exact ⟨⟨Or.inl ⟨rfl, by omega⟩, rfl⟩, rfl, rfl, rfl⟩
  · refine j_iload_n G dX6_addDimension_5 rfl ?_
    refine j_iconst G dX6_addDimension_6 ?_
    refine j_icmp_le G 20 dX6_addDimension_7 (by decide) (by omega) (by omega) (fun c7 => ?_) (fun c7 => ?_)
    · refine j_aload_n G dX6_addDimension_20 rfl ?_
      refine gf_0_5 G dX6_addDimension_21 lf6_66 (by first | assumption | decide) ?_
      refine j_iconst G dX6_addDimension_24 ?_
      refine j_icmp_lt G 38 dX6_addDimension_25 (by decide) (by omega) (by omega) (fun c25 => ?_) (fun c25 => ?_)
      · have hv2 : vd 2 (Z 0 0 5) := ⟨by omega, show Z 0 0 5 < 4 by omega⟩
        refine j_aload_n G dX6_addDimension_38 rfl ?_
        refine gf_0_5 G dX6_addDimension_39 lf6_66 (by first | assumption | decide) ?_
        refine j_istore_n G dX6_addDimension_42 (by decide) rfl ?_
        refine j_aload_n G dX6_addDimension_43 rfl ?_
        refine gf_0_0 G dX6_addDimension_44 lf6_11 (by first | assumption | decide) ?_
        refine j_iload_n G dX6_addDimension_47 rfl ?_
        refine al_1 G dX6_addDimension_48 (by first | assumption | decide) (by omega) (by omega) ?_
        refine j_iload_n G dX6_addDimension_49 rfl ?_
        refine j_cVVZ G cvX4_plant ml6_75 (c_X4_plant hi (by first | assumption | omega | decide)) dX6_addDimension_50 ⟨by decide, by decide⟩ ⟨by decide, by decide⟩ rfl rfl (Nat.le_of_ble_eq_true rfl) (by first | assumption | decide) rfl rfl rfl (fun Z50 h50 => ?_)
        subst h50
        refine j_aload_n G dX6_addDimension_53 rfl ?_
        refine j_dup G dX6_addDimension_54 rfl ?_
        refine gf_0_5 G dX6_addDimension_55 lf6_66 (by first | assumption | decide) ?_
        rw [zS_k (by decide), zS_k (by decide), zS_k (by decide)]
        refine j_iconst G dX6_addDimension_58 ?_
        refine j_iadd G dX6_addDimension_59 ?_
        refine pf_0_5 G dX6_addDimension_60 lf6_66 (by first | assumption | decide) ?_
        have hf : 0 ≤ zS (zS (zS (zS Z 2 (Z 0 0 5) 3 lv) 3 (Z 0 0 5) 0 (-1)) 2 (Z 0 0 5) 4 1) 0 0 5 (Z 0 0 5 + 1) 0 0 5 ∧ zS (zS (zS (zS Z 2 (Z 0 0 5) 3 lv) 3 (Z 0 0 5) 0 (-1)) 2 (Z 0 0 5) 4 1) 0 0 5 (Z 0 0 5 + 1) 0 0 5 ≤ 4 := by
          rw [zS_s]; omega
        refine j_aload_n G dX6_addDimension_63 rfl ?_
        refine j_cVVZ G cvX6_forgetWhatNeedsAllDimensions ml6_79 (c_X6_forgetWhatNeedsAllDimensions hi (by first | assumption | omega | decide)) dX6_addDimension_64 ⟨by decide, by decide⟩ ⟨by decide, by decide⟩ rfl rfl (Nat.le_of_ble_eq_true rfl) (by first | assumption | decide) rfl rfl rfl (fun Z64 h64 => ?_)
        refine j_iload_n G dX6_addDimension_67 rfl ?_
        refine jr_IZ G hQ hr dX6_addDimension_68 (by decide) (by decide) ?_
        try simp (config := { decide := true }) only [zS_k, zS_s, zS_j, ne_eq]
        obtain ⟨q1, q2, q3, q4, q5⟩ := h64
        rw [zS_s] at q5
        refine ⟨by omega, by omega, e05, ⟨⟨fun k hk hn => ?_, fun i => ?_⟩, ?_, ?_, q4, ?_, fun d j => ?_, fun d j => ?_, fun d j d0 d1 => q5 d j d0 (by omega), q2, q3⟩⟩
        · simp only [List.mem_cons, List.not_mem_nil, or_false, not_or] at hn
          funext i j
          rw [q1 k i j (by omega) (by omega) (by omega) (by omega), zS_k (by omega), zS_k (by omega), zS_k (by omega), zS_k (by omega), hS.1 k hk]
        · rw [q1 15 i 4 (by omega) (by omega) (by omega) (by omega), q1 15 i 5 (by omega) (by omega) (by omega) (by omega), zS_k (by decide), zS_k (by decide), zS_k (by decide), zS_k (by decide)]
          exact hS.2 i
        · rw [q1 0 0 5 (by omega) (by omega) (by omega) (by omega), zS_s, e05]
        · rw [q1 0 0 6 (by omega) (by omega) (by omega) (by omega), zS_v, if_neg (by omega), zS_k (by decide), zS_k (by decide), zS_k (by decide), hS.1 0 rfl]
        · rw [q1 0 0 8 (by omega) (by omega) (by omega) (by omega), zS_v, if_neg (by omega), zS_k (by decide), zS_k (by decide), zS_k (by decide), hS.1 0 rfl]
        · rw [q1 2 d j (by omega) (by omega) (by omega) (by omega), zS_k (by decide), zS_w, zS_k (by decide), zS_w, hS.1 2 rfl, e05]
          by_cases e1 : d = S 0 0 5 ∧ j = 3
          · rw [if_pos e1, if_pos e1, if_neg (by omega)]
          · rw [if_neg e1, if_neg e1]
        · rw [q1 3 d j (by omega) (by omega) (by omega) (by omega), zS_k (by decide), zS_k (by decide), zS_w, zS_k (by decide), hS.1 3 rfl, e05]
      · refine j_throw G hQX hE hst (E := exS) (names := xNm) (by decide +kernel) (by decide +kernel) xkS xiS (List.mem_of_getElem? (i := 3) rfl) xt1S xt2S xt3S dX6_addDimension_28 dX6_addDimension_31 dX6_addDimension_32 dX6_addDimension_34 dX6_addDimension_37 ⟨by decide, Nat.le_of_ble_eq_true rfl, by decide, by decide⟩ (by decide) (by decide) ?_
        exact ⟨⟨Or.inr ⟨rfl, by omega, by omega⟩, rfl⟩, rfl, rfl, rfl⟩
    · refine j_throw G hQX hE hst (E := exA) (names := xNm) (by decide +kernel) (by decide +kernel) xkA xiA (List.mem_of_getElem? (i := 2) rfl) xt1A xt2A xt3A dX6_addDimension_10 dX6_addDimension_13 dX6_addDimension_14 dX6_addDimension_16 dX6_addDimension_19 ⟨by decide, Nat.le_of_ble_eq_true rfl, by decide, by decide⟩ (by decide) (by decide) ?_
      exact ⟨⟨Or.inl ⟨rfl, by omega⟩, rfl⟩, rfl, rfl, rfl⟩
set_option maxRecDepth 100000 in
set_option maxHeartbeats 8000000 in
theorem c_X6_addMember {l : Launch} {D : va_G} {cys : Nat → ClassId} {ad : Nat → Int → Nat} {L : List Nat} {g : Nat → va_E} {X : Int64} {Z : ZT} (hi : injA ad) (hst : l.stackTraces = false) {S : ZT} {d q : Int} (hS : SP S Z) (hW : WF S) (hd : inR d) (hq : inR q) : CX l D cys ad yX6_addMember cX6_addMember 4 (some .int) 8 134 3 18 [.ref (ad 0 0), .int (iI d), .int (iI q)] L g X Z (PIZ L g X Z (fun r Z' => (0 ≤ d ∧ d < S 0 0 5 ∧ 0 ≤ q ∧ q < S 2 d 4) ∧ (S 4 d q ≠ S 2 d 3 ∧ S 2 d 4 < 24) ∧ r = S 2 d 4 ∧ M_addMember S d q Z')) (PXZ L g X (fun E Z' => ((E = exI ∧ ¬ (0 ≤ d ∧ d < S 0 0 5 ∧ 0 ≤ q ∧ q < S 2 d 4)) ∨ (E = exS ∧ (0 ≤ d ∧ d < S 0 0 5 ∧ 0 ≤ q ∧ q < S 2 d 4) ∧ ¬ (S 4 d q ≠ S 2 d 3 ∧ S 2 d 4 < 24))) ∧ Z' = Z)) := by
  refine cx_start hi (by decide +kernel) (Nat.le_of_ble_eq_true rfl) ?_
  intro p_ e_ s_ m_ args_ below_ meth_ c_ A_ Q_ hQX hE G hr
  have hQ := vq_of hQX
  have hn := hW.n
  refine j_aload_n G dX6_addMember_0 rfl ?_
  refine j_iload_n G dX6_addMember_1 rfl ?_
  refine j_iload_n G dX6_addMember_2 rfl ?_
  refine j_cVXR G hQX hE cvX6_treeWith ml6_82 (c_X6_treeWith hi hst (by first | assumption | omega | decide) (by first | assumption | omega | decide) (by first | assumption | omega | decide) (by first | assumption | omega | decide)) dX6_addMember_3 ⟨by decide, by decide⟩ ⟨by decide, by decide⟩ (by decide) (by decide) rfl rfl (Nat.le_of_ble_eq_true rfl) (by first | assumption | decide) rfl rfl rfl (fun E Z1 h => ⟨Or.inl ⟨h.1, h.2.1⟩, h.2.2⟩) (fun r3 h3 => ?_)
  obtain ⟨rfl, ⟨hd0, hd1⟩, hq0, hq1⟩ := h3
  have hv2 : vd 2 d := ⟨hd0, show d < 4 by omega⟩
  have ht := hW.t hd0 hd1
  have hte := TE.of hS d
  have hTZ := hte.ok ht
  have e2 : ∀ j, Z 2 d j = S 2 d j := fun j => by rw [hS.1 2 rfl]
  have e4 : Z 4 d q = S 4 d q := by rw [hS.1 4 rfl]
  have e23 := e2 3
  have e24 := e2 4
  have hsz : inR (Z 2 d 4) := by have := ht.1; omega
  refine j_astore_n G dX6_addMember_6 (by decide) rfl ?_
  refine j_aload_n G dX6_addMember_7 rfl ?_
  refine j_iload_n G dX6_addMember_8 rfl ?_
  refine j_cVI G cvX4_isLeaf ml6_86 (c_X4_isLeaf hi (by first | assumption | omega | decide) (by first | assumption | omega | decide) (by first | assumption | omega | decide)) dX6_addMember_9 ⟨by decide, by decide⟩ ⟨by decide, by decide⟩ rfl rfl (Nat.le_of_ble_eq_true rfl) (by first | assumption | decide) rfl rfl rfl (fun r9 h9 => ?_)
  refine j_if_eq G 25 dX6_addMember_12 (by decide) (by omega) (fun c12 => ?_) (fun c12 => ?_)
  · refine j_aload_n G dX6_addMember_25 rfl ?_
    refine j_cVI G cvX4_isFull ml6_92 (c_X4_isFull hi (by first | assumption | omega | decide) (by first | assumption | omega | decide)) dX6_addMember_26 ⟨by decide, by decide⟩ ⟨by decide, by decide⟩ rfl rfl (Nat.le_of_ble_eq_true rfl) (by first | assumption | decide) rfl rfl rfl (fun r26 h26 => ?_)
    refine j_if_eq G 42 dX6_addMember_29 (by decide) (by omega) (fun c29 => ?_) (fun c29 => ?_)
    · have hqz : 0 ≤ q ∧ q < Z 2 d 4 := by omega
      have hfz : Z 2 d 4 < 24 := by omega
      refine j_aload_n G dX6_addMember_42 rfl ?_
      refine j_iload_n G dX6_addMember_43 rfl ?_
      refine j_cVIZ G cvX4_grow ml6_98 (c_X4_grow hi hv2 hTZ hqz hfz) dX6_addMember_44 ⟨by decide, by decide⟩ ⟨by decide, by decide⟩ rfl rfl (Nat.le_of_ble_eq_true rfl) (by first | assumption | decide) rfl rfl rfl (fun r44 Z44 h44 => ?_)
      refine jr_IZ G hQ hr dX6_addMember_47 (by decide) (by decide) ?_
      refine ⟨⟨hd0, hd1, hq0, hq1⟩, by omega, h44.1.trans e24, ?_⟩
      rw [h44.2, e24, e4]
      refine ⟨((((FRM.of hS _).st (by simp) (by decide) _ _ _).st (by simp) (by decide) _ _ _).st (by simp) (by decide) _ _ _), fun i j => ?_, fun i j => ?_, fun i j => ?_⟩
      · rw [zS_w, zS_k (by decide), zS_k (by decide), hS.1 2 rfl]
      · rw [zS_k (by decide), zS_k (by decide), zS_w, hS.1 3 rfl]
      · rw [zS_k (by decide), zS_w, zS_k (by decide), hS.1 4 rfl]
    · refine j_throw G hQX hE hst (E := exS) (names := xNm) (by decide +kernel) (by decide +kernel) xkS xiS (List.mem_of_getElem? (i := 6) rfl) xt1S xt2S xt3S dX6_addMember_32 dX6_addMember_35 dX6_addMember_36 dX6_addMember_38 dX6_addMember_41 ⟨by decide, Nat.le_of_ble_eq_true rfl, by decide, by decide⟩ (by decide) (by decide) ?_
      exact ⟨⟨Or.inr ⟨rfl, ⟨hd0, hd1, hq0, hq1⟩, by omega⟩, rfl⟩, rfl, rfl, rfl⟩
  · refine j_throw G hQX hE hst (E := exS) (names := xNm) (by decide +kernel) (by decide +kernel) xkS xiS (List.mem_of_getElem? (i := 5) rfl) xt1S xt2S xt3S dX6_addMember_15 dX6_addMember_18 dX6_addMember_19 dX6_addMember_21 dX6_addMember_24 ⟨by decide, Nat.le_of_ble_eq_true rfl, by decide, by decide⟩ (by decide) (by decide) ?_
    exact ⟨⟨Or.inr ⟨rfl, ⟨hd0, hd1, hq0, hq1⟩, by omega⟩, rfl⟩, rfl, rfl, rfl⟩
set_option maxRecDepth 100000 in
set_option maxHeartbeats 8000000 in
theorem c_X6_move {l : Launch} {D : va_G} {cys : Nat → ClassId} {ad : Nat → Int → Nat} {L : List Nat} {g : Nat → va_E} {X : Int64} {Z : ZT} (hi : injA ad) (hst : l.stackTraces = false) {S : ZT} {d q w : Int} (hS : SP S Z) (hW : WF S) (hd : inR d) (hq : inR q) (hw : inR w) : CX l D cys ad yX6_move cX6_move 6 (some .int) 8 134 3 18 [.ref (ad 0 0), .int (iI d), .int (iI q), .int (iI w)] L g X Z (PIZ L g X Z (fun r Z' => (0 ≤ d ∧ d < S 0 0 5 ∧ 0 ≤ q ∧ q < S 2 d 4 ∧ 0 ≤ w ∧ w < S 2 d 4) ∧ (q ≠ 0 ∧ S 4 d w = S 4 d q - 1) ∧ r = S 3 d q ∧ M_move S d q w Z')) (PXZ L g X (fun E Z' => ((E = exI ∧ ¬ (0 ≤ d ∧ d < S 0 0 5 ∧ 0 ≤ q ∧ q < S 2 d 4 ∧ 0 ≤ w ∧ w < S 2 d 4)) ∨ (E = exA ∧ (0 ≤ d ∧ d < S 0 0 5 ∧ 0 ≤ q ∧ q < S 2 d 4 ∧ 0 ≤ w ∧ w < S 2 d 4) ∧ ¬ (q ≠ 0 ∧ S 4 d w = S 4 d q - 1))) ∧ Z' = Z)) := by
  refine cx_start hi (by decide +kernel) (Nat.le_of_ble_eq_true rfl) ?_
  intro p_ e_ s_ m_ args_ below_ meth_ c_ A_ Q_ hQX hE G hr
  have hQ := vq_of hQX
  have hn := hW.n
  have hv := hW.v
  refine j_aload_n G dX6_move_0 rfl ?_
  refine j_iload_n G dX6_move_1 rfl ?_
  refine j_iload_n G dX6_move_2 rfl ?_
  refine j_cVXR G hQX hE cvX6_treeWith ml6_82 (c_X6_treeWith hi hst (by first | assumption | omega | decide) (by first | assumption | omega | decide) (by first | assumption | omega | decide) (by first | assumption | omega | decide)) dX6_move_3 ⟨by decide, by decide⟩ ⟨by decide, by decide⟩ (by decide) (by decide) rfl rfl (Nat.le_of_ble_eq_true rfl) (by first | assumption | decide) rfl rfl rfl (fun E Z1 h => ⟨Or.inl ⟨h.1, fun z => h.2.1 ⟨z.1, z.2.1, z.2.2.1, z.2.2.2.1⟩⟩, h.2.2⟩) (fun r3 h3 => ?_)
  obtain ⟨rfl, ⟨hd0, hd1⟩, hq0, hq1⟩ := h3
  have hv2 : vd 2 d := ⟨hd0, show d < 4 by omega⟩
  have ht := hW.t hd0 hd1
  have ht1 := ht.1
  have e24 : Z 2 d 4 = S 2 d 4 := by rw [hS.1 2 rfl]
  have e4 : ∀ j, Z 4 d j = S 4 d j := fun j => by rw [hS.1 4 rfl]
  have e4q := e4 q
  have e4w := e4 w
  have hsz : inR (Z 2 d 4) := by omega
  have hmq := ht.at hq0 hq1
  unfold MOK at hmq
  refine j_astore G dX6_move_6 (by decide) rfl ?_
  refine j_aload G dX6_move_8 rfl ?_
  refine j_iload_n G dX6_move_10 rfl ?_
  refine j_cVI G cvX4_has ml6_102 (c_X4_has hi (by first | assumption | omega | decide) (by first | assumption | omega | decide) (by first | assumption | omega | decide)) dX6_move_11 ⟨by decide, by decide⟩ ⟨by decide, by decide⟩ rfl rfl (Nat.le_of_ble_eq_true rfl) (by first | assumption | decide) rfl rfl rfl (fun r11 h11 => ?_)
  refine j_if_ne G 27 dX6_move_14 (by decide) (by omega) (fun c14 => ?_) (fun c14 => ?_)
  · have hww : 0 ≤ w ∧ w < S 2 d 4 := by omega
    have hmw := ht.at hww.1 hww.2
    unfold MOK at hmw
    refine j_iload_n G dX6_move_27 rfl ?_
    refine j_if_ne G 41 dX6_move_28 (by decide) (by omega) (fun c28 => ?_) (fun c28 => ?_)
    · refine j_aload G dX6_move_41 rfl ?_
      refine gf_2_1 G dX6_move_43 lf6_112 (by first | assumption | decide) ?_
      refine j_iload_n G dX6_move_46 rfl ?_
      refine al_4 G dX6_move_47 (by first | assumption | decide) (by omega) (by omega) ?_
      refine j_aload G dX6_move_48 rfl ?_
      refine gf_2_1 G dX6_move_50 lf6_112 (by first | assumption | decide) ?_
      refine j_iload_n G dX6_move_53 rfl ?_
      refine al_4 G dX6_move_54 (by first | assumption | decide) (by omega) (by omega) ?_
      refine j_iconst G dX6_move_55 ?_
      refine j_isub G dX6_move_56 ?_
      refine j_icmp_eq G 70 dX6_move_57 (by decide) (by omega) (by omega) (fun c57 => ?_) (fun c57 => ?_)
      · refine j_aload G dX6_move_70 rfl ?_
        refine gf_2_0 G dX6_move_72 lf6_118 (by first | assumption | decide) ?_
        refine j_iload_n G dX6_move_75 rfl ?_
        refine al_3 G dX6_move_76 (by first | assumption | decide) (by omega) (by omega) ?_
        refine j_istore G dX6_move_77 (by decide) rfl ?_
        refine j_aload G dX6_move_79 rfl ?_
        refine gf_2_0 G dX6_move_81 lf6_118 (by first | assumption | decide) ?_
        refine j_iload_n G dX6_move_84 rfl ?_
        refine j_iload_n G dX6_move_85 rfl ?_
        refine as_3 G dX6_move_86 (by first | assumption | decide) (by omega) (by omega) ?_
        refine j_aload_n G dX6_move_87 rfl ?_
        refine gf_0_2 G dX6_move_88 lf6_25 (by first | assumption | decide) ?_
        have hvv : 0 ≤ zS Z 3 d q w 11 0 3 ∧ zS Z 3 d q w 11 0 3 ≤ 6 := by rw [zS_k (by decide), hS.1 11 rfl]; omega
        refine j_cVVZ G cvX5_makeAllStale ml6_121 (c_X5_makeAllStale hi (by first | assumption | omega | decide)) dX6_move_91 ⟨by decide, by decide⟩ ⟨by decide, by decide⟩ rfl rfl (Nat.le_of_ble_eq_true rfl) (by first | assumption | decide) rfl rfl rfl (fun Z91 h91 => ?_)
        refine j_iload G dX6_move_94 rfl ?_
        refine jr_IZ G hQ hr dX6_move_96 (by decide) (by decide) ?_
        try simp (config := { decide := true }) only [zS_k, zS_s, zS_j, ne_eq]
        obtain ⟨q1, q2⟩ := h91
        refine ⟨⟨hd0, hd1, hq0, hq1, hww.1, hww.2⟩, by omega, by rw [hS.1 3 rfl], ?_, fun i j => ?_, fun v => ?_⟩
        · refine ((FRM.of hS _).st (k := 3) (by simp) (by decide) d q w).tr (fun k hk hn => ?_) (fun i => ?_)
          · exact q1 k (by rintro rfl; exact hn (by simp))
          · rw [q1 15 (by decide)]; exact ⟨rfl, rfl⟩
        · rw [q1 3 (by decide), zS_w, hS.1 3 rfl]
        · rw [q2 v, zS_k (by decide), zS_k (by decide), hS.1 11 rfl, hS.1 14 rfl]
          rfl
      · refine j_throw G hQX hE hst (E := exA) (names := xNm) (by decide +kernel) (by decide +kernel) xkA xiA (List.mem_of_getElem? (i := 12) rfl) xt1A xt2A xt3A dX6_move_60 dX6_move_63 dX6_move_64 dX6_move_66 dX6_move_69 ⟨by decide, Nat.le_of_ble_eq_true rfl, by decide, by decide⟩ (by decide) (by decide) ?_
        exact ⟨⟨Or.inr ⟨rfl, ⟨hd0, hd1, hq0, hq1, hww.1, hww.2⟩, by omega⟩, rfl⟩, rfl, rfl, rfl⟩
    · refine j_throw G hQX hE hst (E := exA) (names := xNm) (by decide +kernel) (by decide +kernel) xkA xiA (List.mem_of_getElem? (i := 11) rfl) xt1A xt2A xt3A dX6_move_31 dX6_move_34 dX6_move_35 dX6_move_37 dX6_move_40 ⟨by decide, Nat.le_of_ble_eq_true rfl, by decide, by decide⟩ (by decide) (by decide) ?_
      exact ⟨⟨Or.inr ⟨rfl, ⟨hd0, hd1, hq0, hq1, hww.1, hww.2⟩, fun z => z.1 (by omega)⟩, rfl⟩, rfl, rfl, rfl⟩
  · refine j_throw G hQX hE hst (E := exI) (names := xNm) (by decide +kernel) (by decide +kernel) xkI xiI (List.mem_of_getElem? (i := 10) rfl) xt1I xt2I xt3I dX6_move_17 dX6_move_20 dX6_move_21 dX6_move_23 dX6_move_26 ⟨by decide, Nat.le_of_ble_eq_true rfl, by decide, by decide⟩ (by decide) (by decide) ?_
    exact ⟨⟨Or.inl ⟨rfl, by omega⟩, rfl⟩, rfl, rfl, rfl⟩
set_option maxRecDepth 100000 in
set_option maxHeartbeats 8000000 in
theorem c_X6_members {l : Launch} {D : va_G} {cys : Nat → ClassId} {ad : Nat → Int → Nat} {L : List Nat} {g : Nat → va_E} {X : Int64} {Z : ZT} (hi : injA ad) (hst : l.stackTraces = false) {S : ZT} {d : Int} (hS : SP S Z) (hW : WF S) (hd : inR d) : CX l D cys ad yX6_members cX6_members 2 (some .int) 7 111 1 6 [.ref (ad 0 0), .int (iI d)] L g X Z (PI L g X Z (fun r => (0 ≤ d ∧ d < S 0 0 5) ∧ r = S 2 d 4)) (PXZ L g X (fun E Z' => E = exI ∧ ¬ (0 ≤ d ∧ d < S 0 0 5) ∧ Z' = Z)) := by
  refine cx_start hi (by decide +kernel) (Nat.le_of_ble_eq_true rfl) ?_
  intro p_ e_ s_ m_ args_ below_ meth_ c_ A_ Q_ hQX hE G hr
  have hQ := vq_of hQX
  have hn := hW.n
  refine j_aload_n G dX6_members_0 rfl ?_
  refine j_iload_n G dX6_members_1 rfl ?_
  refine j_cVXR G hQX hE cvX6_treeOf ml6_124 (c_X6_treeOf hi hst (by first | assumption | omega | decide) (by first | assumption | omega | decide) (by first | assumption | omega | decide)) dX6_members_2 ⟨by decide, by decide⟩ ⟨by decide, by decide⟩ (by decide) (by decide) rfl rfl (Nat.le_of_ble_eq_true rfl) (by first | assumption | decide) rfl rfl rfl (fun _ _ h => h) (fun r2 h2 => ?_)
  obtain ⟨rfl, hd0, hd1⟩ := h2
  have hv2 : vd 2 d := ⟨hd0, show d < 4 by omega⟩
  refine gf_2_4 G dX6_members_5 lf6_128 (by first | assumption | decide) ?_
  refine jr_I G hQ hr dX6_members_8 (by decide) (by decide) ?_
  exact ⟨⟨hd0, hd1⟩, by rw [hS.1 2 rfl]⟩
set_option maxRecDepth 100000 in
set_option maxHeartbeats 8000000 in
theorem c_X6_pointOf {l : Launch} {D : va_G} {cys : Nat → ClassId} {ad : Nat → Int → Nat} {L : List Nat} {g : Nat → va_E} {X : Int64} {Z : ZT} (hi : injA ad) (hst : l.stackTraces = false) {S : ZT} {d : Int} (hS : SP S Z) (hW : WF S) (hd : inR d) : CX l D cys ad yX6_pointOf cX6_pointOf 2 (some .int) 7 111 1 6 [.ref (ad 0 0), .int (iI d)] L g X Z (PI L g X Z (fun r => (0 ≤ d ∧ d < S 0 0 5) ∧ r = S 2 d 5)) (PXZ L g X (fun E Z' => E = exI ∧ ¬ (0 ≤ d ∧ d < S 0 0 5) ∧ Z' = Z)) := by
  refine cx_start hi (by decide +kernel) (Nat.le_of_ble_eq_true rfl) ?_
  intro p_ e_ s_ m_ args_ below_ meth_ c_ A_ Q_ hQX hE G hr
  have hQ := vq_of hQX
  have hn := hW.n
  refine j_aload_n G dX6_pointOf_0 rfl ?_
  refine j_iload_n G dX6_pointOf_1 rfl ?_
  refine j_cVXR G hQX hE cvX6_treeOf ml6_124 (c_X6_treeOf hi hst (by first | assumption | omega | decide) (by first | assumption | omega | decide) (by first | assumption | omega | decide)) dX6_pointOf_2 ⟨by decide, by decide⟩ ⟨by decide, by decide⟩ (by decide) (by decide) rfl rfl (Nat.le_of_ble_eq_true rfl) (by first | assumption | decide) rfl rfl rfl (fun _ _ h => h) (fun r2 h2 => ?_)
  obtain ⟨rfl, hd0, hd1⟩ := h2
  have hv2 : vd 2 d := ⟨hd0, show d < 4 by omega⟩
  refine gf_2_5 G dX6_pointOf_5 lf6_150 (by first | assumption | decide) ?_
  refine jr_I G hQ hr dX6_pointOf_8 (by decide) (by decide) ?_
  exact ⟨⟨hd0, hd1⟩, by rw [hS.1 2 rfl]⟩
set_option maxRecDepth 100000 in
set_option maxHeartbeats 8000000 in
theorem c_X6_levelOf {l : Launch} {D : va_G} {cys : Nat → ClassId} {ad : Nat → Int → Nat} {L : List Nat} {g : Nat → va_E} {X : Int64} {Z : ZT} (hi : injA ad) (hst : l.stackTraces = false) {S : ZT} {d q : Int} (hS : SP S Z) (hW : WF S) (hd : inR d) (hq : inR q) : CX l D cys ad yX6_levelOf cX6_levelOf 3 (some .int) 8 134 2 12 [.ref (ad 0 0), .int (iI d), .int (iI q)] L g X Z (PI L g X Z (fun r => (0 ≤ d ∧ d < S 0 0 5 ∧ 0 ≤ q ∧ q < S 2 d 4) ∧ r = S 4 d q)) (PXZ L g X (fun E Z' => E = exI ∧ ¬ (0 ≤ d ∧ d < S 0 0 5 ∧ 0 ≤ q ∧ q < S 2 d 4) ∧ Z' = Z)) := by
  refine cx_start hi (by decide +kernel) (Nat.le_of_ble_eq_true rfl) ?_
  intro p_ e_ s_ m_ args_ below_ meth_ c_ A_ Q_ hQX hE G hr
  have hQ := vq_of hQX
  have hn := hW.n
  refine j_aload_n G dX6_levelOf_0 rfl ?_
  refine j_iload_n G dX6_levelOf_1 rfl ?_
  refine j_iload_n G dX6_levelOf_2 rfl ?_
  refine j_cVXR G hQX hE cvX6_treeWith ml6_82 (c_X6_treeWith hi hst (by first | assumption | omega | decide) (by first | assumption | omega | decide) (by first | assumption | omega | decide) (by first | assumption | omega | decide)) dX6_levelOf_3 ⟨by decide, by decide⟩ ⟨by decide, by decide⟩ (by decide) (by decide) rfl rfl (Nat.le_of_ble_eq_true rfl) (by first | assumption | decide) rfl rfl rfl (fun _ _ h => h) (fun r3 h3 => ?_)
  obtain ⟨rfl, ⟨hd0, hd1⟩, hq0, hq1⟩ := h3
  have hv2 : vd 2 d := ⟨hd0, show d < 4 by omega⟩
  have ht1 := (hW.t hd0 hd1).1
  refine gf_2_1 G dX6_levelOf_6 lf6_112 (by first | assumption | decide) ?_
  refine j_iload_n G dX6_levelOf_9 rfl ?_
  refine al_4 G dX6_levelOf_10 (by first | assumption | decide) (by omega) (by omega) ?_
  refine jr_I G hQ hr dX6_levelOf_11 (by decide) (by decide) ?_
  exact ⟨⟨hd0, hd1, hq0, hq1⟩, by rw [hS.1 4 rfl]⟩
set_option maxRecDepth 100000 in
set_option maxHeartbeats 8000000 in
theorem c_X6_leaveOut {l : Launch} {D : va_G} {cys : Nat → ClassId} {ad : Nat → Int → Nat} {L : List Nat} {g : Nat → va_E} {X : Int64} {Z : ZT} (hi : injA ad) (hst : l.stackTraces = false) {S : ZT} {d q b : Int} (hS : SP S Z) (hW : WF S) (hd : inR d) (hq : inR q) (hb : b = 0 ∨ b = 1) : CX l D cys ad yX6_leaveOut cX6_leaveOut 6 (some .boolean) 8 134 2 12 [.ref (ad 0 0), .int (iI d), .int (iI q), .int (iI b)] L g X Z (PIZ L g X Z (fun r Z' => (0 ≤ d ∧ d < S 0 0 5 ∧ 0 ≤ q ∧ q < S 2 d 4) ∧ r = S 5 d q ∧ M_leaveOut S d q b Z')) (PXZ L g X (fun E Z' => E = exI ∧ ¬ (0 ≤ d ∧ d < S 0 0 5 ∧ 0 ≤ q ∧ q < S 2 d 4) ∧ Z' = Z)) := by
  refine cx_start hi (by decide +kernel) (Nat.le_of_ble_eq_true rfl) ?_
  intro p_ e_ s_ m_ args_ below_ meth_ c_ A_ Q_ hQX hE G hr
  have hQ := vq_of hQX
  have hn := hW.n
  refine j_aload_n G dX6_leaveOut_0 rfl ?_
  refine j_iload_n G dX6_leaveOut_1 rfl ?_
  refine j_iload_n G dX6_leaveOut_2 rfl ?_
  refine j_cVXR G hQX hE cvX6_treeWith ml6_82 (c_X6_treeWith hi hst (by first | assumption | omega | decide) (by first | assumption | omega | decide) (by first | assumption | omega | decide) (by first | assumption | omega | decide)) dX6_leaveOut_3 ⟨by decide, by decide⟩ ⟨by decide, by decide⟩ (by decide) (by decide) rfl rfl (Nat.le_of_ble_eq_true rfl) (by first | assumption | decide) rfl rfl rfl (fun _ _ h => h) (fun r3 h3 => ?_)
  obtain ⟨rfl, ⟨hd0, hd1⟩, hq0, hq1⟩ := h3
  have hv2 : vd 2 d := ⟨hd0, show d < 4 by omega⟩
  have ht := hW.t hd0 hd1
  have ht1 := ht.1
  have ho := ht.2.2 q hq0 (by omega)
  have e5 : Z 5 d q = S 5 d q := by rw [hS.1 5 rfl]
  refine j_astore G dX6_leaveOut_6 (by decide) rfl ?_
  refine j_aload G dX6_leaveOut_8 rfl ?_
  refine gf_2_2 G dX6_leaveOut_10 lf6_146 (by first | assumption | decide) ?_
  refine j_iload_n G dX6_leaveOut_13 rfl ?_
  refine al_5 G dX6_leaveOut_14 (by first | assumption | decide) (by omega) (by omega) ?_
  refine j_istore G dX6_leaveOut_15 (by decide) rfl ?_
  refine j_aload G dX6_leaveOut_17 rfl ?_
  refine gf_2_2 G dX6_leaveOut_19 lf6_146 (by first | assumption | decide) ?_
  refine j_iload_n G dX6_leaveOut_22 rfl ?_
  refine j_iload_n G dX6_leaveOut_23 rfl ?_
  refine as_5 G dX6_leaveOut_24 (by first | assumption | decide) (by omega) (by omega) (by omega) ?_
  refine j_iload G dX6_leaveOut_25 rfl ?_
  refine jr_BZ G hQ hr dX6_leaveOut_27 (by decide) (by decide) (by omega) ?_
  try simp (config := { decide := true }) only [zS_k, zS_s, zS_j, ne_eq]
  refine ⟨⟨hd0, hd1, hq0, hq1⟩, e5, (FRM.of hS _).st (k := 5) (by simp) (by decide) _ _ _, fun i j => ?_⟩
  rw [zS_w, hS.1 5 rfl]
set_option maxRecDepth 100000 in
set_option maxHeartbeats 8000000 in
theorem c_X6_goTo {l : Launch} {D : va_G} {cys : Nat → ClassId} {ad : Nat → Int → Nat} {L : List Nat} {g : Nat → va_E} {X : Int64} {Z : ZT} (hi : injA ad) (hst : l.stackTraces = false) {S : ZT} {d q : Int} (hS : SP S Z) (hW : WF S) (hd : inR d) (hq : inR q) : CX l D cys ad yX6_goTo cX6_goTo 5 (some .int) 8 134 2 12 [.ref (ad 0 0), .int (iI d), .int (iI q)] L g X Z (PIZ L g X Z (fun r Z' => (0 ≤ d ∧ d < S 0 0 5 ∧ 0 ≤ q ∧ q < S 2 d 4) ∧ r = S 2 d 5 ∧ M_goTo S d q Z')) (PXZ L g X (fun E Z' => E = exI ∧ ¬ (0 ≤ d ∧ d < S 0 0 5 ∧ 0 ≤ q ∧ q < S 2 d 4) ∧ Z' = Z)) := by
  refine cx_start hi (by decide +kernel) (Nat.le_of_ble_eq_true rfl) ?_
  intro p_ e_ s_ m_ args_ below_ meth_ c_ A_ Q_ hQX hE G hr
  have hQ := vq_of hQX
  have hn := hW.n
  refine j_aload_n G dX6_goTo_0 rfl ?_
  refine j_iload_n G dX6_goTo_1 rfl ?_
  refine j_iload_n G dX6_goTo_2 rfl ?_
  refine j_cVXR G hQX hE cvX6_treeWith ml6_82 (c_X6_treeWith hi hst (by first | assumption | omega | decide) (by first | assumption | omega | decide) (by first | assumption | omega | decide) (by first | assumption | omega | decide)) dX6_goTo_3 ⟨by decide, by decide⟩ ⟨by decide, by decide⟩ (by decide) (by decide) rfl rfl (Nat.le_of_ble_eq_true rfl) (by first | assumption | decide) rfl rfl rfl (fun _ _ h => h) (fun r3 h3 => ?_)
  obtain ⟨rfl, ⟨hd0, hd1⟩, hq0, hq1⟩ := h3
  have hv2 : vd 2 d := ⟨hd0, show d < 4 by omega⟩
  refine j_astore_n G dX6_goTo_6 (by decide) rfl ?_
  refine j_aload_n G dX6_goTo_7 rfl ?_
  refine gf_2_5 G dX6_goTo_8 lf6_150 (by first | assumption | decide) ?_
  refine j_istore G dX6_goTo_11 (by decide) rfl ?_
  refine j_aload_n G dX6_goTo_13 rfl ?_
  refine j_iload_n G dX6_goTo_14 rfl ?_
  refine pf_2_5 G dX6_goTo_15 lf6_150 (by first | assumption | decide) ?_
  refine j_iload G dX6_goTo_18 rfl ?_
  refine jr_IZ G hQ hr dX6_goTo_20 (by decide) (by decide) ?_
  try simp (config := { decide := true }) only [zS_k, zS_s, zS_j, ne_eq]
  refine ⟨⟨hd0, hd1, hq0, hq1⟩, by rw [hS.1 2 rfl], (FRM.of hS _).st (k := 2) (by simp) (by decide) _ _ _, fun i j => ?_⟩
  rw [zS_w, hS.1 2 rfl]
set_option maxRecDepth 100000 in
set_option maxHeartbeats 8000000 in
theorem c_X6_goUp {l : Launch} {D : va_G} {cys : Nat → ClassId} {ad : Nat → Int → Nat} {L : List Nat} {g : Nat → va_E} {X : Int64} {Z : ZT} (hi : injA ad) (hst : l.stackTraces = false) {S : ZT} {d : Int} (hS : SP S Z) (hW : WF S) (hd : inR d) : CX l D cys ad yX6_goUp cX6_goUp 3 (some .int) 7 111 1 6 [.ref (ad 0 0), .int (iI d)] L g X Z (PIZ L g X Z (fun r Z' => (0 ≤ d ∧ d < S 0 0 5) ∧ ((S 2 d 5 = 0 ∧ r = -1 ∧ SP S Z') ∨ (S 2 d 5 ≠ 0 ∧ r = S 3 d (S 2 d 5) ∧ M_goTo S d (S 3 d (S 2 d 5)) Z')))) (PXZ L g X (fun E Z' => E = exI ∧ ¬ (0 ≤ d ∧ d < S 0 0 5) ∧ Z' = Z)) := by
  refine cx_start hi (by decide +kernel) (Nat.le_of_ble_eq_true rfl) ?_
  intro p_ e_ s_ m_ args_ below_ meth_ c_ A_ Q_ hQX hE G hr
  have hQ := vq_of hQX
  have hn := hW.n
  refine j_aload_n G dX6_goUp_0 rfl ?_
  refine j_iload_n G dX6_goUp_1 rfl ?_
  refine j_cVXR G hQX hE cvX6_treeOf ml6_124 (c_X6_treeOf hi hst (by first | assumption | omega | decide) (by first | assumption | omega | decide) (by first | assumption | omega | decide)) dX6_goUp_2 ⟨by decide, by decide⟩ ⟨by decide, by decide⟩ (by decide) (by decide) rfl rfl (Nat.le_of_ble_eq_true rfl) (by first | assumption | decide) rfl rfl rfl (fun _ _ h => h) (fun r2 h2 => ?_)
  obtain ⟨rfl, hd0, hd1⟩ := h2
  have hv2 : vd 2 d := ⟨hd0, show d < 4 by omega⟩
  have ht := hW.t hd0 hd1
  have ht1 := ht.1
  have e2 : ∀ j, Z 2 d j = S 2 d j := fun j => by rw [hS.1 2 rfl]
  have e24 := e2 4
  have e25 := e2 5
  have hsz : inR (Z 2 d 4) := by omega
  have hpt : inR (Z 2 d 5) := by omega
  have e3 : Z 3 d (Z 2 d 5) = S 3 d (S 2 d 5) := by rw [e25, hS.1 3 rfl]
  refine j_astore_n G dX6_goUp_5 (by decide) rfl ?_
  refine j_aload_n G dX6_goUp_6 rfl ?_
  refine j_aload_n G dX6_goUp_7 rfl ?_
  refine gf_2_5 G dX6_goUp_8 lf6_150 (by first | assumption | decide) ?_
  refine j_cVI G cvX4_has ml6_102 (c_X4_has hi (by first | assumption | omega | decide) (by first | assumption | omega | decide) (by first | assumption | omega | decide)) dX6_goUp_11 ⟨by decide, by decide⟩ ⟨by decide, by decide⟩ rfl rfl (Nat.le_of_ble_eq_true rfl) (by first | assumption | decide) rfl rfl rfl (fun r11 h11 => ?_)
  refine j_if_eq G 24 dX6_goUp_14 (by decide) (by omega) (fun c14 => ?_) (fun c14 => ?_)
  · refine j_iconst G dX6_goUp_24 ?_
    refine jr_IZ G hQ hr dX6_goUp_25 (by decide) (by decide) ?_
    refine ⟨⟨hd0, hd1⟩, Or.inl ⟨by omega, rfl, hS⟩⟩
  · refine j_aload_n G dX6_goUp_17 rfl ?_
    refine gf_2_5 G dX6_goUp_18 lf6_150 (by first | assumption | decide) ?_
    refine j_if_ne G 26 dX6_goUp_21 (by decide) (by omega) (fun c21 => ?_) (fun c21 => ?_)
    · refine j_aload_n G dX6_goUp_26 rfl ?_
      refine j_aload_n G dX6_goUp_27 rfl ?_
      refine gf_2_0 G dX6_goUp_28 lf6_118 (by first | assumption | decide) ?_
      refine j_aload_n G dX6_goUp_31 rfl ?_
      refine gf_2_5 G dX6_goUp_32 lf6_150 (by first | assumption | decide) ?_
      refine al_3 G dX6_goUp_35 (by first | assumption | decide) (by omega) (by omega) ?_
      refine pf_2_5 G dX6_goUp_36 lf6_150 (by first | assumption | decide) ?_
      refine j_aload_n G dX6_goUp_39 rfl ?_
      refine gf_2_5 G dX6_goUp_40 lf6_150 (by first | assumption | decide) ?_
      try simp (config := { decide := true }) only [zS_k, zS_s, zS_j, ne_eq]
      refine jr_IZ G hQ hr dX6_goUp_43 (by decide) (by decide) ?_
      try simp (config := { decide := true }) only [zS_k, zS_s, zS_j, ne_eq]
      refine ⟨⟨hd0, hd1⟩, Or.inr ⟨by omega, e3, ?_⟩⟩
      rw [e3]
      refine ⟨(FRM.of hS _).st (k := 2) (by simp) (by decide) _ _ _, fun i j => ?_⟩
      rw [zS_w, hS.1 2 rfl]
    · refine j_iconst G dX6_goUp_24 ?_
      refine jr_IZ G hQ hr dX6_goUp_25 (by decide) (by decide) ?_
      refine ⟨⟨hd0, hd1⟩, Or.inl ⟨by omega, rfl, hS⟩⟩
set_option maxRecDepth 100000 in
set_option maxHeartbeats 8000000 in
theorem c_X6_add {l : Launch} {D : va_G} {cys : Nat → ClassId} {ad : Nat → Int → Nat} {L : List Nat} {g : Nat → va_E} {X : Int64} {Z : ZT} (hi : injA ad) (hst : l.stackTraces = false) {S : ZT} {v : Int} (hS : SP S Z) (hW : WF S) (hv : inR v) : CX l D cys ad yX6_add cX6_add 4 (some .int) 6 90 1 6 [.ref (ad 0 0), .int (iI v)] L g X Z (PIZ L g X Z (fun r Z' => (-10000 ≤ v ∧ v ≤ 10000) ∧ ((0 < S 0 0 5 ∧ ∀ d, 0 ≤ d → d < S 0 0 5 → S 4 d (S 2 d 5) = S 2 d 3) ∧ S 6 0 3 < 80) ∧ r = S 6 0 3 ∧ M_add S v Z')) (PXZ L g X (fun E Z' => ((E = exA ∧ ¬ (-10000 ≤ v ∧ v ≤ 10000)) ∨ (E = exS ∧ (-10000 ≤ v ∧ v ≤ 10000) ∧ ¬ ((0 < S 0 0 5 ∧ ∀ d, 0 ≤ d → d < S 0 0 5 → S 4 d (S 2 d 5) = S 2 d 3) ∧ S 6 0 3 < 80))) ∧ Z' = Z)) := by
  refine cx_start hi (by decide +kernel) (Nat.le_of_ble_eq_true rfl) ?_
  intro p_ e_ s_ m_ args_ below_ meth_ c_ A_ Q_ hQX hE G hr
  have hQ := vq_of hQX
  have hn := hW.n
  have hf := hW.f
  have hvv := hW.v
  have e63 : Z 6 0 3 = S 6 0 3 := by rw [hS.1 6 rfl]
  have e05 : Z 0 0 5 = S 0 0 5 := by rw [hS.1 0 rfl]
  refine j_iload_n G dX6_add_0 rfl ?_
  refine j_sipush G dX6_add_1 (by decide +kernel) ?_
  refine j_icmp_lt G 14 dX6_add_4 (by decide) (by omega) (by omega) (fun c4 => ?_) (fun c4 => ?_)
  · refine j_throw G hQX hE hst (E := exA) (names := xNm) (by decide +kernel) (by decide +kernel) xkA xiA (List.mem_of_getElem? (i := 7) rfl) xt1A xt2A xt3A dX6_add_14 dX6_add_17 dX6_add_18 dX6_add_20 dX6_add_23 ⟨by decide, Nat.le_of_ble_eq_true rfl, by decide, by decide⟩ (by decide) (by decide) ?_
    exact ⟨⟨Or.inl ⟨rfl, by omega⟩, rfl⟩, rfl, rfl, rfl⟩
  · refine j_iload_n G dX6_add_7 rfl ?_
    refine j_sipush G dX6_add_8 (by decide +kernel) ?_
    refine j_icmp_le G 24 dX6_add_11 (by decide) (by omega) (by omega) (fun c11 => ?_) (fun c11 => ?_)
    · refine j_aload_n G dX6_add_24 rfl ?_
      refine j_cVI G cvX6_isPointOfLeaves ml6_155 (c_X6_isPointOfLeaves hi hS hW) dX6_add_25 ⟨by decide, by decide⟩ ⟨by decide, by decide⟩ rfl rfl (Nat.le_of_ble_eq_true rfl) (by first | assumption | decide) rfl rfl rfl (fun r25 h25 => ?_)
      have h25a : r25 = 0 ∨ r25 = 1 := by rcases h25 with q | q <;> omega
      have h25b : r25 = 0 → ¬ (0 < S 0 0 5 ∧ ∀ d, 0 ≤ d → d < S 0 0 5 → S 4 d (S 2 d 5) = S 2 d 3) := by
        intro z
        rcases h25 with q | q
        · omega
        · exact q.2
      have h25c : r25 = 1 → (0 < S 0 0 5 ∧ ∀ d, 0 ≤ d → d < S 0 0 5 → S 4 d (S 2 d 5) = S 2 d 3) := by
        intro z
        rcases h25 with q | q
        · exact q.2
        · omega
      clear h25
      refine j_if_ne G 41 dX6_add_28 (by decide) (by omega) (fun c28 => ?_) (fun c28 => ?_)
      · refine j_aload_n G dX6_add_41 rfl ?_
        refine gf_0_1 G dX6_add_42 lf6_18 (by first | assumption | decide) ?_
        refine gf_6_3 G dX6_add_45 lf6_160 (by first | assumption | decide) ?_
        refine j_bipush G dX6_add_48 (by decide +kernel) ?_
        refine j_icmp_lt G 63 dX6_add_50 (by decide) (by omega) (by omega) (fun c50 => ?_) (fun c50 => ?_)
        · refine j_aload_n G dX6_add_63 rfl ?_
          refine gf_0_1 G dX6_add_64 lf6_18 (by first | assumption | decide) ?_
          refine gf_6_3 G dX6_add_67 lf6_160 (by first | assumption | decide) ?_
          refine j_istore_n G dX6_add_70 (by decide) rfl ?_
          refine j_aload_n G dX6_add_71 rfl ?_
          refine gf_0_1 G dX6_add_72 lf6_18 (by first | assumption | decide) ?_
          refine gf_6_1 G dX6_add_75 lf6_163 (by first | assumption | decide) ?_
          refine j_iload_n G dX6_add_78 rfl ?_
          refine j_iload_n G dX6_add_79 rfl ?_
          refine as_9 G dX6_add_80 (by first | assumption | decide) (by omega) (by omega) ?_
          refine j_iconst G dX6_add_81 ?_
          refine j_istore_n G dX6_add_82 (by decide) rfl ?_
          have hlv := h25c (by omega)
          have loop : ∀ (n : Nat) (a : Int) (Y : ZT), 0 ≤ a → a ≤ S 0 0 5 → (S 0 0 5 - a).toNat = n → FRM [6, 8, 9, 14] S Y → (∀ k, k ≠ 8 → k ≠ 9 → Y k = Z k) → (∀ j, Y 9 0 j = if j = S 6 0 3 then v else S 9 0 j) → (∀ d, 0 ≤ d → d < a → ∀ j, Y 8 d j = if j = S 6 0 3 then S 2 d 5 else S 8 d j) → (∀ d, a ≤ d → Y 8 d = S 8 d) → JJ p_ l e_ { frames := 6, cells := 1, slots := 6, locals := 90 } s_ m_ args_ below_ meth_ c_ D cys ad A_ Q_ 4 0 0 L g X Y 83 [(0, .ref (ad 0 0)), (1, .int (iI v)), (2, .int (iI (S 6 0 3))), (3, .int (iI a))] [] := by
            intro n
            induction n with
            | zero =>
              intro a Y h0 h1 h2 h3 h4 h5 h6 h7
              have ea : a = S 0 0 5 := by omega
              subst ea
              have y05 : Y 0 0 5 = S 0 0 5 := by rw [h4 0 (by decide) (by decide), e05]
              have y63 : Y 6 0 3 = S 6 0 3 := by rw [h4 6 (by decide) (by decide), e63]
              refine j_iload_n G dX6_add_83 rfl ?_
              refine j_aload_n G dX6_add_84 rfl ?_
              refine gf_0_5 G dX6_add_85 lf6_66 (by first | assumption | decide) ?_
              refine j_icmp_ge G 117 dX6_add_88 (by decide) (by omega) (by omega) (fun c88 => ?_) (fun c88 => ?_)
              · refine j_aload_n G dX6_add_117 rfl ?_
                refine gf_0_1 G dX6_add_118 lf6_18 (by first | assumption | decide) ?_
                refine j_dup G dX6_add_121 rfl ?_
                refine gf_6_3 G dX6_add_122 lf6_160 (by first | assumption | decide) ?_
                refine j_iconst G dX6_add_125 ?_
                refine j_iadd G dX6_add_126 ?_
                refine pf_6_3 G dX6_add_127 lf6_160 (by first | assumption | decide) ?_
                refine j_aload_n G dX6_add_130 rfl ?_
                refine gf_0_2 G dX6_add_131 lf6_25 (by first | assumption | decide) ?_
                have y11 : 0 ≤ zS Y 6 0 3 (Y 6 0 3 + 1) 11 0 3 ∧ zS Y 6 0 3 (Y 6 0 3 + 1) 11 0 3 ≤ 6 := by
                  rw [zS_k (by decide), h4 11 (by decide) (by decide), hS.1 11 rfl]; omega
                refine j_cVVZ G cvX5_makeAllStale ml6_121 (c_X5_makeAllStale hi (by first | assumption | omega | decide)) dX6_add_134 ⟨by decide, by decide⟩ ⟨by decide, by decide⟩ rfl rfl (Nat.le_of_ble_eq_true rfl) (by first | assumption | decide) rfl rfl rfl (fun Z134 h134 => ?_)
                refine j_iload_n G dX6_add_137 rfl ?_
                refine jr_IZ G hQ hr dX6_add_138 (by decide) (by decide) ?_
                try simp (config := { decide := true }) only [zS_k, zS_s, zS_j, ne_eq]
                obtain ⟨q1, q2⟩ := h134
                refine ⟨by omega, ⟨hlv, by omega⟩, by first | trivial | rfl, ?_, ?_, fun j => ?_, fun d d0 d1 j => ?_, fun w => ?_⟩
                · refine (h3.st (k := 6) (by simp) (by decide) 0 3 (Y 6 0 3 + 1)).tr (fun k hk hn => ?_) (fun i => ?_)
                  · exact q1 k (by rintro rfl; exact hn (by simp))
                  · rw [q1 15 (by decide)]; exact ⟨rfl, rfl⟩
                · rw [q1 6 (by decide), zS_s, y63]
                · rw [q1 9 (by decide), zS_k (by decide)]; exact h5 j
                · rw [q1 8 (by decide), zS_k (by decide)]; exact h6 d d0 d1 j
                · rw [q2 w, zS_k (by decide), zS_k (by decide), h4 11 (by decide) (by decide), h4 14 (by decide) (by decide), hS.1 11 rfl, hS.1 14 rfl]
                  rfl
              · exfalso; omega
            | succ n ih =>
              intro a Y h0 h1 h2 h3 h4 h5 h6 h7
              have y05 : Y 0 0 5 = S 0 0 5 := by rw [h4 0 (by decide) (by decide), e05]
              have y25 : Y 2 a 5 = S 2 a 5 := by rw [h4 2 (by decide) (by decide), hS.1 2 rfl]
              have hv2 : vd 2 a := ⟨h0, show a < 4 by omega⟩
              have hv8 : vd 8 a := ⟨h0, show a < 4 by omega⟩
              refine j_iload_n G dX6_add_83 rfl ?_
              refine j_aload_n G dX6_add_84 rfl ?_
              refine gf_0_5 G dX6_add_85 lf6_66 (by first | assumption | decide) ?_
              refine j_icmp_ge G 117 dX6_add_88 (by decide) (by omega) (by omega) (fun c88 => ?_) (fun c88 => ?_)
              · exfalso; omega
              · refine j_aload_n G dX6_add_91 rfl ?_
                refine gf_0_1 G dX6_add_92 lf6_18 (by first | assumption | decide) ?_
                refine gf_6_0 G dX6_add_95 lf6_166 (by first | assumption | decide) ?_
                refine j_iload_n G dX6_add_98 rfl ?_
                refine al_7 G dX6_add_99 (by first | assumption | decide) (by omega) (by omega) ?_
                refine j_iload_n G dX6_add_100 rfl ?_
                refine j_aload_n G dX6_add_101 rfl ?_
                refine gf_0_0 G dX6_add_102 lf6_11 (by first | assumption | decide) ?_
                refine j_iload_n G dX6_add_105 rfl ?_
                refine al_1 G dX6_add_106 (by first | assumption | decide) (by omega) (by omega) ?_
                refine gf_2_5 G dX6_add_107 lf6_150 (by first | assumption | decide) ?_
                refine as_8 G dX6_add_110 (by first | assumption | decide) (by omega) (by omega) ?_
                refine j_iinc G dX6_add_111 rfl (by decide) rfl ?_
                refine j_goto G 83 dX6_add_114 (by decide) ?_
                refine ih (a + 1) _ (by omega) (by omega) (by omega) (h3.st (k := 8) (by simp) (by decide) _ _ _) (fun k k1 k2 => ?_) (fun j => ?_) (fun d d0 d1 j => ?_) (fun d d0 => ?_)
                · rw [zS_k k1]; exact h4 k k1 k2
                · rw [zS_k (by decide)]; exact h5 j
                · by_cases e : d = a
                  · subst e
                    rw [zS_v, y25, h7 d (by omega)]
                  · rw [zS_o (fun q => e q.2)]
                    exact h6 d d0 (by omega) j
                · rw [zS_o (by omega)]; exact h7 d (by omega)
          rw [e63]
          refine loop _ 0 _ (by omega) (by omega) rfl ((FRM.of hS _).st (k := 9) (by simp) (by decide) _ _ _) (fun k k1 k2 => ?_) (fun j => ?_) (fun d d0 d1 => by omega) (fun d d0 => ?_)
          · exact zS_k k2
          · rw [zS_v, hS.1 9 rfl]
          · rw [zS_k (by decide), hS.1 8 rfl]
        · refine j_throw G hQX hE hst (E := exS) (names := xNm) (by decide +kernel) (by decide +kernel) xkS xiS (List.mem_of_getElem? (i := 9) rfl) xt1S xt2S xt3S dX6_add_53 dX6_add_56 dX6_add_57 dX6_add_59 dX6_add_62 ⟨by decide, Nat.le_of_ble_eq_true rfl, by decide, by decide⟩ (by decide) (by decide) ?_
          exact ⟨⟨Or.inr ⟨rfl, by omega, fun z => by have := z.2; omega⟩, rfl⟩, rfl, rfl, rfl⟩
      · refine j_throw G hQX hE hst (E := exS) (names := xNm) (by decide +kernel) (by decide +kernel) xkS xiS (List.mem_of_getElem? (i := 8) rfl) xt1S xt2S xt3S dX6_add_31 dX6_add_34 dX6_add_35 dX6_add_37 dX6_add_40 ⟨by decide, Nat.le_of_ble_eq_true rfl, by decide, by decide⟩ (by decide) (by decide) ?_
        exact ⟨⟨Or.inr ⟨rfl, by omega, fun z => h25b (by omega) z.1⟩, rfl⟩, rfl, rfl, rfl⟩
    · refine j_throw G hQX hE hst (E := exA) (names := xNm) (by decide +kernel) (by decide +kernel) xkA xiA (List.mem_of_getElem? (i := 7) rfl) xt1A xt2A xt3A dX6_add_14 dX6_add_17 dX6_add_18 dX6_add_20 dX6_add_23 ⟨by decide, Nat.le_of_ble_eq_true rfl, by decide, by decide⟩ (by decide) (by decide) ?_
      exact ⟨⟨Or.inl ⟨rfl, by omega⟩, rfl⟩, rfl, rfl, rfl⟩
set_option maxRecDepth 100000 in
set_option maxHeartbeats 8000000 in
theorem c_X6_drop {l : Launch} {D : va_G} {cys : Nat → ClassId} {ad : Nat → Int → Nat} {L : List Nat} {g : Nat → va_E} {X : Int64} {Z : ZT} (hi : injA ad) (hst : l.stackTraces = false) {S : ZT} {q : Int} (hS : SP S Z) (hW : WF S) (hq : inR q) : CX l D cys ad yX6_drop cX6_drop 3 (some .int) 6 90 1 6 [.ref (ad 0 0), .int (iI q)] L g X Z (PIZ L g X Z (fun r Z' => (0 ≤ q ∧ q < S 6 0 3) ∧ r = S 9 0 q ∧ M_drop S q Z')) (PXZ L g X (fun E Z' => E = exI ∧ ¬ (0 ≤ q ∧ q < S 6 0 3) ∧ Z' = Z)) := by
  refine cx_start hi (by decide +kernel) (Nat.le_of_ble_eq_true rfl) ?_
  intro p_ e_ s_ m_ args_ below_ meth_ c_ A_ Q_ hQX hE G hr
  have hQ := vq_of hQX
  have hf := hW.f
  have hvv := hW.v
  have e63 : Z 6 0 3 = S 6 0 3 := by rw [hS.1 6 rfl]
  have hi6 : inR (Z 6 0 3) := by omega
  refine j_aload_n G dX6_drop_0 rfl ?_
  refine gf_0_1 G dX6_drop_1 lf6_18 (by first | assumption | decide) ?_
  refine j_iload_n G dX6_drop_4 rfl ?_
  refine j_cVI G cvX1_has ml6_169 (c_X1_has hi (by first | assumption | omega | decide) (by first | assumption | omega | decide)) dX6_drop_5 ⟨by decide, by decide⟩ ⟨by decide, by decide⟩ rfl rfl (Nat.le_of_ble_eq_true rfl) (by first | assumption | decide) rfl rfl rfl (fun r5 h5 => ?_)
  refine j_if_ne G 21 dX6_drop_8 (by decide) (by omega) (fun c8 => ?_) (fun c8 => ?_)
  · have hqz : 0 ≤ q ∧ q < Z 6 0 3 := by omega
    have h80 : Z 6 0 3 ≤ 80 := by omega
    refine j_aload_n G dX6_drop_21 rfl ?_
    refine gf_0_1 G dX6_drop_22 lf6_18 (by first | assumption | decide) ?_
    refine gf_6_1 G dX6_drop_25 lf6_163 (by first | assumption | decide) ?_
    refine j_iload_n G dX6_drop_28 rfl ?_
    refine al_9 G dX6_drop_29 (by first | assumption | decide) (by omega) (by omega) ?_
    refine j_istore_n G dX6_drop_30 (by decide) rfl ?_
    refine j_aload_n G dX6_drop_31 rfl ?_
    refine gf_0_1 G dX6_drop_32 lf6_18 (by first | assumption | decide) ?_
    refine j_iload_n G dX6_drop_35 rfl ?_
    refine j_cVVZ G cvX1_closeGapAt ml6_172 (c_X1_closeGapAt hi (by first | assumption | omega | decide) (by first | assumption | omega | decide)) dX6_drop_36 ⟨by decide, by decide⟩ ⟨by decide, by decide⟩ rfl rfl (Nat.le_of_ble_eq_true rfl) (by first | assumption | decide) rfl rfl rfl (fun Z36 h36 => ?_)
    obtain ⟨g1, g2, g3, g4⟩ := h36
    have y11 : 0 ≤ Z36 11 0 3 ∧ Z36 11 0 3 ≤ 6 := by rw [g1 11 (by decide) (by decide) (by decide), hS.1 11 rfl]; omega
    refine j_aload_n G dX6_drop_39 rfl ?_
    refine gf_0_2 G dX6_drop_40 lf6_25 (by first | assumption | decide) ?_
    refine j_cVVZ G cvX5_makeAllStale ml6_121 (c_X5_makeAllStale hi (by first | assumption | omega | decide)) dX6_drop_43 ⟨by decide, by decide⟩ ⟨by decide, by decide⟩ rfl rfl (Nat.le_of_ble_eq_true rfl) (by first | assumption | decide) rfl rfl rfl (fun Z43 h43 => ?_)
    refine j_iload_n G dX6_drop_46 rfl ?_
    refine jr_IZ G hQ hr dX6_drop_47 (by decide) (by decide) ?_
    obtain ⟨q1, q2⟩ := h43
    rw [e63] at g2 g3 g4
    refine ⟨by omega, by rw [hS.1 9 rfl], ⟨fun k hk hn => ?_, fun i => ?_⟩, ?_, fun j => ?_, fun d d0 d1 j => ?_, fun v => ?_⟩
    · simp only [List.mem_cons, List.not_mem_nil, or_false, not_or] at hn
      rw [q1 k hn.2.2.2, g1 k hn.1 hn.2.1 hn.2.2.1, hS.1 k hk]
    · rw [q1 15 (by decide), g1 15 (by decide) (by decide) (by decide)]; exact hS.2 i
    · rw [q1 6 (by decide), g2]
    · rw [q1 9 (by decide), g3 j, hS.1 9 rfl]
    · rw [q1 8 (by decide), g4 d d0 d1 j, hS.1 8 rfl]
    · rw [q2 v, g1 11 (by decide) (by decide) (by decide), g1 14 (by decide) (by decide) (by decide), hS.1 11 rfl, hS.1 14 rfl]
      rfl
  · refine j_throw G hQX hE hst (E := exI) (names := xNm) (by decide +kernel) (by decide +kernel) xkI xiI (List.mem_of_getElem? (i := 13) rfl) xt1I xt2I xt3I dX6_drop_11 dX6_drop_14 dX6_drop_15 dX6_drop_17 dX6_drop_20 ⟨by decide, Nat.le_of_ble_eq_true rfl, by decide, by decide⟩ (by decide) (by decide) ?_
    exact ⟨⟨rfl, by omega, rfl⟩, rfl, rfl, rfl⟩

