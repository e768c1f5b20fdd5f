theorem dX7_addMember_0 : decode cX7_addMember 0 = .ok (.aload_n 0, 1) := by decide +kernel
theorem dX7_addMember_1 : decode cX7_addMember 1 = .ok (.iconst 0, 1) := by decide +kernel
theorem dX7_addMember_2 : decode cX7_addMember 2 = .ok (.putfield 52, 3) := by decide +kernel
theorem dX7_addMember_5 : decode cX7_addMember 5 = .ok (.aload_n 0, 1) := by decide +kernel
theorem dX7_addMember_6 : decode cX7_addMember 6 = .ok (.iload_n 1, 1) := by decide +kernel
theorem dX7_addMember_7 : decode cX7_addMember 7 = .ok (.iload_n 2, 1) := by decide +kernel
theorem dX7_addMember_8 : decode cX7_addMember 8 = .ok (.invokevirtual 99, 3) := by decide +kernel
theorem dX7_addMember_11 : decode cX7_addMember 11 = .ok (.ifCond .ne 9, 3) := by decide +kernel
theorem dX7_addMember_14 : decode cX7_addMember 14 = .ok (.aload_n 0, 1) := by decide +kernel
theorem dX7_addMember_15 : decode cX7_addMember 15 = .ok (.iconst 1, 1) := by decide +kernel
theorem dX7_addMember_16 : decode cX7_addMember 16 = .ok (.invokevirtual 85, 3) := by decide +kernel
theorem dX7_addMember_19 : decode cX7_addMember 19 = .ok (.ireturn, 1) := by decide +kernel
theorem dX7_addMember_20 : decode cX7_addMember 20 = .ok (.aload_n 0, 1) := by decide +kernel
theorem dX7_addMember_21 : decode cX7_addMember 21 = .ok (.iload_n 1, 1) := by decide +kernel
theorem dX7_addMember_22 : decode cX7_addMember 22 = .ok (.iload_n 2, 1) := by decide +kernel
theorem dX7_addMember_23 : decode cX7_addMember 23 = .ok (.invokevirtual 67, 3) := by decide +kernel
theorem dX7_addMember_26 : decode cX7_addMember 26 = .ok (.aload_n 0, 1) := by decide +kernel
theorem dX7_addMember_27 : decode cX7_addMember 27 = .ok (.getfield 9, 3) := by decide +kernel
theorem dX7_addMember_30 : decode cX7_addMember 30 = .ok (.iload_n 1, 1) := by decide +kernel
theorem dX7_addMember_31 : decode cX7_addMember 31 = .ok (.iaload, 1) := by decide +kernel
theorem dX7_addMember_32 : decode cX7_addMember 32 = .ok (.if_icmp .eq 14, 3) := by decide +kernel
theorem dX7_addMember_35 : decode cX7_addMember 35 = .ok (.aload_n 0, 1) := by decide +kernel
theorem dX7_addMember_36 : decode cX7_addMember 36 = .ok (.getfield 13, 3) := by decide +kernel
theorem dX7_addMember_39 : decode cX7_addMember 39 = .ok (.iload_n 1, 1) := by decide +kernel
theorem dX7_addMember_40 : decode cX7_addMember 40 = .ok (.iaload, 1) := by decide +kernel
theorem dX7_addMember_41 : decode cX7_addMember 41 = .ok (.bipush 24, 2) := by decide +kernel
theorem dX7_addMember_43 : decode cX7_addMember 43 = .ok (.if_icmp .ne 9, 3) := by decide +kernel
theorem dX7_addMember_46 : decode cX7_addMember 46 = .ok (.aload_n 0, 1) := by decide +kernel
theorem dX7_addMember_47 : decode cX7_addMember 47 = .ok (.iconst 2, 1) := by decide +kernel
theorem dX7_addMember_48 : decode cX7_addMember 48 = .ok (.invokevirtual 85, 3) := by decide +kernel
theorem dX7_addMember_51 : decode cX7_addMember 51 = .ok (.ireturn, 1) := by decide +kernel
theorem dX7_addMember_52 : decode cX7_addMember 52 = .ok (.aload_n 0, 1) := by decide +kernel
theorem dX7_addMember_53 : decode cX7_addMember 53 = .ok (.getfield 18, 3) := by decide +kernel
theorem dX7_addMember_56 : decode cX7_addMember 56 = .ok (.iload_n 1, 1) := by decide +kernel
theorem dX7_addMember_57 : decode cX7_addMember 57 = .ok (.aaload, 1) := by decide +kernel
theorem dX7_addMember_58 : decode cX7_addMember 58 = .ok (.aload_n 0, 1) := by decide +kernel
theorem dX7_addMember_59 : decode cX7_addMember 59 = .ok (.getfield 13, 3) := by decide +kernel
theorem dX7_addMember_62 : decode cX7_addMember 62 = .ok (.iload_n 1, 1) := by decide +kernel
theorem dX7_addMember_63 : decode cX7_addMember 63 = .ok (.iaload, 1) := by decide +kernel
theorem dX7_addMember_64 : decode cX7_addMember 64 = .ok (.iload_n 2, 1) := by decide +kernel
theorem dX7_addMember_65 : decode cX7_addMember 65 = .ok (.iastore, 1) := by decide +kernel
theorem dX7_addMember_66 : decode cX7_addMember 66 = .ok (.aload_n 0, 1) := by decide +kernel
theorem dX7_addMember_67 : decode cX7_addMember 67 = .ok (.getfield 13, 3) := by decide +kernel
theorem dX7_addMember_70 : decode cX7_addMember 70 = .ok (.iload_n 1, 1) := by decide +kernel
theorem dX7_addMember_71 : decode cX7_addMember 71 = .ok (.dup2, 1) := by decide +kernel
theorem dX7_addMember_72 : decode cX7_addMember 72 = .ok (.iaload, 1) := by decide +kernel
theorem dX7_addMember_73 : decode cX7_addMember 73 = .ok (.iconst 1, 1) := by decide +kernel
theorem dX7_addMember_74 : decode cX7_addMember 74 = .ok (.iadd, 1) := by decide +kernel
theorem dX7_addMember_75 : decode cX7_addMember 75 = .ok (.iastore, 1) := by decide +kernel
theorem dX7_addMember_76 : decode cX7_addMember 76 = .ok (.aload_n 0, 1) := by decide +kernel
theorem dX7_addMember_77 : decode cX7_addMember 77 = .ok (.getfield 13, 3) := by decide +kernel
theorem dX7_addMember_80 : decode cX7_addMember 80 = .ok (.iload_n 1, 1) := by decide +kernel
theorem dX7_addMember_81 : decode cX7_addMember 81 = .ok (.iaload, 1) := by decide +kernel
theorem dX7_addMember_82 : decode cX7_addMember 82 = .ok (.iconst 1, 1) := by decide +kernel
theorem dX7_addMember_83 : decode cX7_addMember 83 = .ok (.isub, 1) := by decide +kernel
theorem dX7_addMember_84 : decode cX7_addMember 84 = .ok (.ireturn, 1) := by decide +kernel
theorem dX7_dropView_0 : decode cX7_dropView 0 = .ok (.aload_n 0, 1) := by decide +kernel
theorem dX7_dropView_1 : decode cX7_dropView 1 = .ok (.iload_n 1, 1) := by decide +kernel
theorem dX7_dropView_2 : decode cX7_dropView 2 = .ok (.invokevirtual 223, 3) := by decide +kernel
theorem dX7_dropView_5 : decode cX7_dropView 5 = .ok (.ifCond .ne 5, 3) := by decide +kernel
theorem dX7_dropView_8 : decode cX7_dropView 8 = .ok (.iconst 0, 1) := by decide +kernel
theorem dX7_dropView_9 : decode cX7_dropView 9 = .ok (.ireturn, 1) := by decide +kernel
theorem dX7_dropView_10 : decode cX7_dropView 10 = .ok (.aload_n 0, 1) := by decide +kernel
theorem dX7_dropView_11 : decode cX7_dropView 11 = .ok (.dup, 1) := by decide +kernel
theorem dX7_dropView_12 : decode cX7_dropView 12 = .ok (.getfield 92, 3) := by decide +kernel
theorem dX7_dropView_15 : decode cX7_dropView 15 = .ok (.iconst 1, 1) := by decide +kernel
theorem dX7_dropView_16 : decode cX7_dropView 16 = .ok (.isub, 1) := by decide +kernel
theorem dX7_dropView_17 : decode cX7_dropView 17 = .ok (.putfield 92, 3) := by decide +kernel
theorem dX7_dropView_20 : decode cX7_dropView 20 = .ok (.iload_n 1, 1) := by decide +kernel
theorem dX7_dropView_21 : decode cX7_dropView 21 = .ok (.istore_n 2, 1) := by decide +kernel
theorem dX7_dropView_22 : decode cX7_dropView 22 = .ok (.iload_n 2, 1) := by decide +kernel
theorem dX7_dropView_23 : decode cX7_dropView 23 = .ok (.aload_n 0, 1) := by decide +kernel
theorem dX7_dropView_24 : decode cX7_dropView 24 = .ok (.getfield 92, 3) := by decide +kernel
theorem dX7_dropView_27 : decode cX7_dropView 27 = .ok (.if_icmp .ge 51, 3) := by decide +kernel
theorem dX7_dropView_30 : decode cX7_dropView 30 = .ok (.aload_n 0, 1) := by decide +kernel
theorem dX7_dropView_31 : decode cX7_dropView 31 = .ok (.getfield 42, 3) := by decide +kernel
theorem dX7_dropView_34 : decode cX7_dropView 34 = .ok (.iload_n 2, 1) := by decide +kernel
theorem dX7_dropView_35 : decode cX7_dropView 35 = .ok (.aload_n 0, 1) := by decide +kernel
theorem dX7_dropView_36 : decode cX7_dropView 36 = .ok (.getfield 42, 3) := by decide +kernel
theorem dX7_dropView_39 : decode cX7_dropView 39 = .ok (.iload_n 2, 1) := by decide +kernel
theorem dX7_dropView_40 : decode cX7_dropView 40 = .ok (.iconst 1, 1) := by decide +kernel
theorem dX7_dropView_41 : decode cX7_dropView 41 = .ok (.iadd, 1) := by decide +kernel
theorem dX7_dropView_42 : decode cX7_dropView 42 = .ok (.iaload, 1) := by decide +kernel
theorem dX7_dropView_43 : decode cX7_dropView 43 = .ok (.iastore, 1) := by decide +kernel
theorem dX7_dropView_44 : decode cX7_dropView 44 = .ok (.aload_n 0, 1) := by decide +kernel
theorem dX7_dropView_45 : decode cX7_dropView 45 = .ok (.getfield 45, 3) := by decide +kernel
theorem dX7_dropView_48 : decode cX7_dropView 48 = .ok (.iload_n 2, 1) := by decide +kernel
theorem dX7_dropView_49 : decode cX7_dropView 49 = .ok (.aload_n 0, 1) := by decide +kernel
theorem dX7_dropView_50 : decode cX7_dropView 50 = .ok (.getfield 45, 3) := by decide +kernel
theorem dX7_dropView_53 : decode cX7_dropView 53 = .ok (.iload_n 2, 1) := by decide +kernel
theorem dX7_dropView_54 : decode cX7_dropView 54 = .ok (.iconst 1, 1) := by decide +kernel
theorem dX7_dropView_55 : decode cX7_dropView 55 = .ok (.iadd, 1) := by decide +kernel
theorem dX7_dropView_56 : decode cX7_dropView 56 = .ok (.iaload, 1) := by decide +kernel
theorem dX7_dropView_57 : decode cX7_dropView 57 = .ok (.iastore, 1) := by decide +kernel
theorem dX7_dropView_58 : decode cX7_dropView 58 = .ok (.aload_n 0, 1) := by decide +kernel
theorem dX7_dropView_59 : decode cX7_dropView 59 = .ok (.getfield 48, 3) := by decide +kernel
theorem dX7_dropView_62 : decode cX7_dropView 62 = .ok (.iload_n 2, 1) := by decide +kernel
theorem dX7_dropView_63 : decode cX7_dropView 63 = .ok (.aload_n 0, 1) := by decide +kernel
theorem dX7_dropView_64 : decode cX7_dropView 64 = .ok (.getfield 48, 3) := by decide +kernel
theorem dX7_dropView_67 : decode cX7_dropView 67 = .ok (.iload_n 2, 1) := by decide +kernel
theorem dX7_dropView_68 : decode cX7_dropView 68 = .ok (.iconst 1, 1) := by decide +kernel
theorem dX7_dropView_69 : decode cX7_dropView 69 = .ok (.iadd, 1) := by decide +kernel
theorem dX7_dropView_70 : decode cX7_dropView 70 = .ok (.baload, 1) := by decide +kernel
theorem dX7_dropView_71 : decode cX7_dropView 71 = .ok (.bastore, 1) := by decide +kernel
theorem dX7_dropView_72 : decode cX7_dropView 72 = .ok (.iinc 2 1, 3) := by decide +kernel
theorem dX7_dropView_75 : decode cX7_dropView 75 = .ok (.goto (-53), 3) := by decide +kernel
theorem dX7_dropView_78 : decode cX7_dropView 78 = .ok (.aload_n 0, 1) := by decide +kernel
theorem dX7_dropView_79 : decode cX7_dropView 79 = .ok (.getfield 92, 3) := by decide +kernel
theorem dX7_dropView_82 : decode cX7_dropView 82 = .ok (.ireturn, 1) := by decide +kernel
theorem dX7_addDimension_0 : decode cX7_addDimension 0 = .ok (.aload_n 0, 1) := by decide +kernel
theorem dX7_addDimension_1 : decode cX7_addDimension 1 = .ok (.iconst 0, 1) := by decide +kernel
theorem dX7_addDimension_2 : decode cX7_addDimension 2 = .ok (.putfield 52, 3) := by decide +kernel
theorem dX7_addDimension_5 : decode cX7_addDimension 5 = .ok (.iload_n 1, 1) := by decide +kernel
theorem dX7_addDimension_6 : decode cX7_addDimension 6 = .ok (.iconst 1, 1) := by decide +kernel
theorem dX7_addDimension_7 : decode cX7_addDimension 7 = .ok (.iconst 3, 1) := by decide +kernel
theorem dX7_addDimension_8 : decode cX7_addDimension 8 = .ok (.invokestatic 59, 3) := by decide +kernel
theorem dX7_addDimension_11 : decode cX7_addDimension 11 = .ok (.ifCond .ne 9, 3) := by decide +kernel
theorem dX7_addDimension_14 : decode cX7_addDimension 14 = .ok (.aload_n 0, 1) := by decide +kernel
theorem dX7_addDimension_15 : decode cX7_addDimension 15 = .ok (.iconst 1, 1) := by decide +kernel
theorem dX7_addDimension_16 : decode cX7_addDimension 16 = .ok (.invokevirtual 85, 3) := by decide +kernel
theorem dX7_addDimension_19 : decode cX7_addDimension 19 = .ok (.ireturn, 1) := by decide +kernel
theorem dX7_addDimension_20 : decode cX7_addDimension 20 = .ok (.aload_n 0, 1) := by decide +kernel
theorem dX7_addDimension_21 : decode cX7_addDimension 21 = .ok (.getfield 56, 3) := by decide +kernel
theorem dX7_addDimension_24 : decode cX7_addDimension 24 = .ok (.iconst 4, 1) := by decide +kernel
theorem dX7_addDimension_25 : decode cX7_addDimension 25 = .ok (.if_icmp .ne 9, 3) := by decide +kernel
theorem dX7_addDimension_28 : decode cX7_addDimension 28 = .ok (.aload_n 0, 1) := by decide +kernel
theorem dX7_addDimension_29 : decode cX7_addDimension 29 = .ok (.iconst 2, 1) := by decide +kernel
theorem dX7_addDimension_30 : decode cX7_addDimension 30 = .ok (.invokevirtual 85, 3) := by decide +kernel
theorem dX7_addDimension_33 : decode cX7_addDimension 33 = .ok (.ireturn, 1) := by decide +kernel
theorem dX7_addDimension_34 : decode cX7_addDimension 34 = .ok (.aload_n 0, 1) := by decide +kernel
theorem dX7_addDimension_35 : decode cX7_addDimension 35 = .ok (.getfield 9, 3) := by decide +kernel
theorem dX7_addDimension_38 : decode cX7_addDimension 38 = .ok (.aload_n 0, 1) := by decide +kernel
theorem dX7_addDimension_39 : decode cX7_addDimension 39 = .ok (.getfield 56, 3) := by decide +kernel
theorem dX7_addDimension_42 : decode cX7_addDimension 42 = .ok (.iload_n 1, 1) := by decide +kernel
theorem dX7_addDimension_43 : decode cX7_addDimension 43 = .ok (.iastore, 1) := by decide +kernel
theorem dX7_addDimension_44 : decode cX7_addDimension 44 = .ok (.aload_n 0, 1) := by decide +kernel
theorem dX7_addDimension_45 : decode cX7_addDimension 45 = .ok (.getfield 13, 3) := by decide +kernel
theorem dX7_addDimension_48 : decode cX7_addDimension 48 = .ok (.aload_n 0, 1) := by decide +kernel
theorem dX7_addDimension_49 : decode cX7_addDimension 49 = .ok (.getfield 56, 3) := by decide +kernel
theorem dX7_addDimension_52 : decode cX7_addDimension 52 = .ok (.iconst 1, 1) := by decide +kernel
theorem dX7_addDimension_53 : decode cX7_addDimension 53 = .ok (.iastore, 1) := by decide +kernel
theorem dX7_addDimension_54 : decode cX7_addDimension 54 = .ok (.aload_n 0, 1) := by decide +kernel
theorem dX7_addDimension_55 : decode cX7_addDimension 55 = .ok (.dup, 1) := by decide +kernel
theorem dX7_addDimension_56 : decode cX7_addDimension 56 = .ok (.getfield 56, 3) := by decide +kernel
theorem dX7_addDimension_59 : decode cX7_addDimension 59 = .ok (.iconst 1, 1) := by decide +kernel
theorem dX7_addDimension_60 : decode cX7_addDimension 60 = .ok (.iadd, 1) := by decide +kernel
theorem dX7_addDimension_61 : decode cX7_addDimension 61 = .ok (.putfield 56, 3) := by decide +kernel
theorem dX7_addDimension_64 : decode cX7_addDimension 64 = .ok (.aload_n 0, 1) := by decide +kernel
theorem dX7_addDimension_65 : decode cX7_addDimension 65 = .ok (.iconst 0, 1) := by decide +kernel
theorem dX7_addDimension_66 : decode cX7_addDimension 66 = .ok (.putfield 89, 3) := by decide +kernel
theorem dX7_addDimension_69 : decode cX7_addDimension 69 = .ok (.aload_n 0, 1) := by decide +kernel
theorem dX7_addDimension_70 : decode cX7_addDimension 70 = .ok (.iconst 0, 1) := by decide +kernel
theorem dX7_addDimension_71 : decode cX7_addDimension 71 = .ok (.putfield 92, 3) := by decide +kernel
theorem dX7_addDimension_74 : decode cX7_addDimension 74 = .ok (.aload_n 0, 1) := by decide +kernel
theorem dX7_addDimension_75 : decode cX7_addDimension 75 = .ok (.iconst 0, 1) := by decide +kernel
theorem dX7_addDimension_76 : decode cX7_addDimension 76 = .ok (.putfield 95, 3) := by decide +kernel
theorem dX7_addDimension_79 : decode cX7_addDimension 79 = .ok (.aload_n 0, 1) := by decide +kernel
theorem dX7_addDimension_80 : decode cX7_addDimension 80 = .ok (.getfield 23, 3) := by decide +kernel
theorem dX7_addDimension_83 : decode cX7_addDimension 83 = .ok (.astore_n 2, 1) := by decide +kernel
theorem dX7_addDimension_84 : decode cX7_addDimension 84 = .ok (.aload_n 2, 1) := by decide +kernel
theorem dX7_addDimension_85 : decode cX7_addDimension 85 = .ok (.arraylength, 1) := by decide +kernel
theorem dX7_addDimension_86 : decode cX7_addDimension 86 = .ok (.istore_n 3, 1) := by decide +kernel
theorem dX7_addDimension_87 : decode cX7_addDimension 87 = .ok (.iconst 0, 1) := by decide +kernel
theorem dX7_addDimension_88 : decode cX7_addDimension 88 = .ok (.istore 4, 2) := by decide +kernel
theorem dX7_addDimension_90 : decode cX7_addDimension 90 = .ok (.iload 4, 2) := by decide +kernel
theorem dX7_addDimension_92 : decode cX7_addDimension 92 = .ok (.iload_n 3, 1) := by decide +kernel
theorem dX7_addDimension_93 : decode cX7_addDimension 93 = .ok (.if_icmp .ge 21, 3) := by decide +kernel
theorem dX7_addDimension_96 : decode cX7_addDimension 96 = .ok (.aload_n 2, 1) := by decide +kernel
theorem dX7_addDimension_97 : decode cX7_addDimension 97 = .ok (.iload 4, 2) := by decide +kernel
theorem dX7_addDimension_99 : decode cX7_addDimension 99 = .ok (.aaload, 1) := by decide +kernel
theorem dX7_addDimension_100 : decode cX7_addDimension 100 = .ok (.astore 5, 2) := by decide +kernel
theorem dX7_addDimension_102 : decode cX7_addDimension 102 = .ok (.aload 5, 2) := by decide +kernel
theorem dX7_addDimension_104 : decode cX7_addDimension 104 = .ok (.iconst 0, 1) := by decide +kernel
theorem dX7_addDimension_105 : decode cX7_addDimension 105 = .ok (.invokestatic 81, 3) := by decide +kernel
theorem dX7_addDimension_108 : decode cX7_addDimension 108 = .ok (.iinc 4 1, 3) := by decide +kernel
theorem dX7_addDimension_111 : decode cX7_addDimension 111 = .ok (.goto (-21), 3) := by decide +kernel
theorem dX7_addDimension_114 : decode cX7_addDimension 114 = .ok (.aload_n 0, 1) := by decide +kernel
theorem dX7_addDimension_115 : decode cX7_addDimension 115 = .ok (.getfield 56, 3) := by decide +kernel
theorem dX7_addDimension_118 : decode cX7_addDimension 118 = .ok (.iconst 1, 1) := by decide +kernel
theorem dX7_addDimension_119 : decode cX7_addDimension 119 = .ok (.isub, 1) := by decide +kernel
theorem dX7_addDimension_120 : decode cX7_addDimension 120 = .ok (.ireturn, 1) := by decide +kernel
/-! by program: wip/whole/gen.py out of wip/whole/src/42.muts.eb -/
/-! EbbTableModel: addMember, dropView, addDimension -/
set_option maxRecDepth 100000 in
set_option maxHeartbeats 8000000 in
theorem c_X7_addMember {l : Launch} {D : va_G} {cys : Nat → ClassId} {ad : Nat → Int → Nat} {L : List Nat} {g : Nat → va_E} {X : Int64} {Z : ZT} (hi : injA ad) {S : ZT} {d q : Int} (hS : RMZ S Z) (hW : WF S) (hd : inR d) (hq : inR q) : CM l D cys ad yX7_addMember cX7_addMember 3 (some .int) 3 65 0 0 [.ref (ad 24 0), .int (iI d), .int (iI q)] L g X Z (PIZ L g X Z (fun r Z' => ((0 ≤ d ∧ d < S 0 0 5 ∧ 0 ≤ q ∧ q < S 2 d 4) ∧ (S 4 d q ≠ S 2 d 3 ∧ S 2 d 4 < 24) ∧ r = S 2 d 4 ∧ Z' = zS (zS (zS Z 24 0 0 0) 28 d (S 2 d 4) q) 26 0 d (S 2 d 4 + 1)) ∨ (¬ (0 ≤ d ∧ d < S 0 0 5 ∧ 0 ≤ q ∧ q < S 2 d 4) ∧ r = 0 ∧ MTH 1 Z Z') ∨ ((0 ≤ d ∧ d < S 0 0 5 ∧ 0 ≤ q ∧ q < S 2 d 4) ∧ ¬ (S 4 d q ≠ S 2 d 3 ∧ S 2 d 4 < 24) ∧ r = 0 ∧ MTH 2 Z Z'))) := by
  refine cm_start hi (by decide +kernel) (Nat.le_of_ble_eq_true rfl) ?_
  intro p_ e_ s_ m_ args_ below_ meth_ c_ A_ Q_ hQ G hr hin
  have hn := hW.n
  have hS1 := hS.th 0
  refine j_aload_n G dX7_addMember_0 rfl ?_
  refine j_iconst G dX7_addMember_1 ?_
  refine pf_24_0 G dX7_addMember_2 lf7_52 (by first | assumption | decide) ?_
  refine j_aload_n G dX7_addMember_5 rfl ?_
  refine j_iload_n G dX7_addMember_6 rfl ?_
  refine j_iload_n G dX7_addMember_7 rfl ?_
  refine j_cVI G cvX7_isMember ml7_99 (c_X7_isMember hi hS1 hW hd hq) dX7_addMember_8 ⟨by decide, by decide⟩ ⟨by decide, by decide⟩ rfl rfl (Nat.le_of_ble_eq_true rfl) (by first | assumption | decide) rfl rfl rfl (fun r8 h8 => ?_)
  refine j_if_ne G 20 dX7_addMember_11 (by decide) (by omega) (fun c11 => ?_) (fun c11 => ?_)
  · have hdq : 0 ≤ d ∧ d < S 0 0 5 ∧ 0 ≤ q ∧ q < S 2 d 4 := by omega
    have hd0 : 0 ≤ d ∧ d < S 0 0 5 := by omega
    have hq0 : 0 ≤ q ∧ q < S 2 d 4 := by omega
    have ht := hW.t hd0.1 hd0.2
    have ht1 := ht.1
    have hmq := ht.at hq0.1 hq0.2
    unfold MOK at hmq
    have ed := hS.d hd0.1 (by omega)
    have e25 := ed.1
    have e26 := ed.2.1
    have hv27 : 0 ≤ d ∧ d < 4 := by omega
    have hv28 : vd 28 d := ⟨hd0.1, show d < 4 by omega⟩
    refine j_aload_n G dX7_addMember_20 rfl ?_
    refine j_iload_n G dX7_addMember_21 rfl ?_
    refine j_iload_n G dX7_addMember_22 rfl ?_
    refine j_cVI G cvX7_depth ml7_67 (c_X7_depth hi hS1 hW hd0 hq0) dX7_addMember_23 ⟨by decide, by decide⟩ ⟨by decide, by decide⟩ rfl rfl (Nat.le_of_ble_eq_true rfl) (by first | assumption | decide) rfl rfl rfl (fun r23 h23 => ?_)
    refine j_aload_n G dX7_addMember_26 rfl ?_
    refine gf_24_2 G dX7_addMember_27 lf7_9 (by first | assumption | decide) ?_
    refine j_iload_n G dX7_addMember_30 rfl ?_
    refine al_25 G dX7_addMember_31 (by first | assumption | decide) (by omega) (by omega) ?_
    try simp (config := { decide := true }) only [zS_k, zS_s, zS_j, ne_eq]
    refine j_icmp_eq G 46 dX7_addMember_32 (by decide) (by omega) (by omega) (fun c32 => ?_) (fun c32 => ?_)
    · refine j_aload_n G dX7_addMember_46 rfl ?_
      refine j_iconst G dX7_addMember_47 ?_
      refine j_cVIZ G cvX7_refuse ml7_85 (c_X7_refuse hi ) dX7_addMember_48 ⟨by decide, by decide⟩ ⟨by decide, by decide⟩ rfl rfl (Nat.le_of_ble_eq_true rfl) (by first | assumption | decide) rfl rfl rfl (fun r48 Z48 h48 => ?_)
      refine jr_IZ G hQ hr dX7_addMember_51 (by decide) (by decide) ?_
      try simp (config := { decide := true }) only [zS_k, zS_s, zS_j, ne_eq]
      exact Or.inr (Or.inr ⟨hdq, by omega, h48.1, MTH.up h48.2⟩)
    · refine j_aload_n G dX7_addMember_35 rfl ?_
      refine gf_24_3 G dX7_addMember_36 lf7_13 (by first | assumption | decide) ?_
      refine j_iload_n G dX7_addMember_39 rfl ?_
      refine al_26 G dX7_addMember_40 (by first | assumption | decide) (by omega) (by omega) ?_
      try simp (config := { decide := true }) only [zS_k, zS_s, zS_j, ne_eq]
      refine j_bipush G dX7_addMember_41 (by decide +kernel) ?_
      refine j_icmp_ne G 52 dX7_addMember_43 (by decide) (by omega) (by omega) (fun c43 => ?_) (fun c43 => ?_)
      · refine j_aload_n G dX7_addMember_52 rfl ?_
        refine gf_24_4 G dX7_addMember_53 lf7_18 (by first | assumption | decide) ?_
        refine j_iload_n G dX7_addMember_56 rfl ?_
        refine al_27 G dX7_addMember_57 (by first | assumption | decide) (by omega) (by omega) ?_
        refine j_aload_n G dX7_addMember_58 rfl ?_
        refine gf_24_3 G dX7_addMember_59 lf7_13 (by first | assumption | decide) ?_
        refine j_iload_n G dX7_addMember_62 rfl ?_
        refine al_26 G dX7_addMember_63 (by first | assumption | decide) (by omega) (by omega) ?_
        try simp (config := { decide := true }) only [zS_k, zS_s, zS_j, ne_eq]
        rw [e26]
        refine j_iload_n G dX7_addMember_64 rfl ?_
        refine as_28 G dX7_addMember_65 (by first | assumption | decide) (by omega) (by omega) ?_
        refine j_aload_n G dX7_addMember_66 rfl ?_
        refine gf_24_3 G dX7_addMember_67 lf7_13 (by first | assumption | decide) ?_
        refine j_iload_n G dX7_addMember_70 rfl ?_
        refine j_dup2 G dX7_addMember_71 rfl rfl ?_
        refine al_26 G dX7_addMember_72 (by first | assumption | decide) (by omega) (by omega) ?_
        try simp (config := { decide := true }) only [zS_k, zS_s, zS_j, ne_eq]
        rw [e26]
        refine j_iconst G dX7_addMember_73 ?_
        refine j_iadd G dX7_addMember_74 ?_
        refine as_26 G dX7_addMember_75 (by first | assumption | decide) (by omega) (by omega) ?_
        refine j_aload_n G dX7_addMember_76 rfl ?_
        refine gf_24_3 G dX7_addMember_77 lf7_13 (by first | assumption | decide) ?_
        refine j_iload_n G dX7_addMember_80 rfl ?_
        refine al_26 G dX7_addMember_81 (by first | assumption | decide) (by omega) (by omega) ?_
        try simp (config := { decide := true }) only [zS_k, zS_s, zS_j, ne_eq]
        refine j_iconst G dX7_addMember_82 ?_
        refine j_isub G dX7_addMember_83 ?_
        refine jr_IZ G hQ hr dX7_addMember_84 (by decide) (by decide) ?_
        try simp (config := { decide := true }) only [zS_k, zS_s, zS_j, ne_eq]
        exact Or.inl ⟨hdq, by omega, by omega, by first | rfl | trivial⟩
      · refine j_aload_n G dX7_addMember_46 rfl ?_
        refine j_iconst G dX7_addMember_47 ?_
        refine j_cVIZ G cvX7_refuse ml7_85 (c_X7_refuse hi ) dX7_addMember_48 ⟨by decide, by decide⟩ ⟨by decide, by decide⟩ rfl rfl (Nat.le_of_ble_eq_true rfl) (by first | assumption | decide) rfl rfl rfl (fun r48 Z48 h48 => ?_)
        refine jr_IZ G hQ hr dX7_addMember_51 (by decide) (by decide) ?_
        try simp (config := { decide := true }) only [zS_k, zS_s, zS_j, ne_eq]
        exact Or.inr (Or.inr ⟨hdq, by omega, h48.1, MTH.up h48.2⟩)
  · refine j_aload_n G dX7_addMember_14 rfl ?_
    refine j_iconst G dX7_addMember_15 ?_
    refine j_cVIZ G cvX7_refuse ml7_85 (c_X7_refuse hi ) dX7_addMember_16 ⟨by decide, by decide⟩ ⟨by decide, by decide⟩ rfl rfl (Nat.le_of_ble_eq_true rfl) (by first | assumption | decide) rfl rfl rfl (fun r16 Z16 h16 => ?_)
    refine jr_IZ G hQ hr dX7_addMember_19 (by decide) (by decide) ?_
    try simp (config := { decide := true }) only [zS_k, zS_s, zS_j, ne_eq]
    exact Or.inr (Or.inl ⟨by omega, h16.1, MTH.up h16.2⟩)
set_option maxRecDepth 100000 in
set_option maxHeartbeats 8000000 in
theorem c_X7_dropView {l : Launch} {D : va_G} {cys : Nat → ClassId} {ad : Nat → Int → Nat} {L : List Nat} {g : Nat → va_E} {X : Int64} {Z : ZT} (hi : injA ad) {S : ZT} {gap : Int} (hS : RMZ S Z) (hW : WF S) (hq : inR gap) : CM l D cys ad yX7_dropView cX7_dropView 3 (some .int) 2 43 0 0 [.ref (ad 24 0), .int (iI gap)] L g X Z (PIZ L g X Z (fun r Z' => ((0 ≤ gap ∧ gap < S 11 0 3) ∧ r = S 11 0 3 - 1 ∧ (∀ k, k ≠ 36 → k ≠ 37 → k ≠ 38 → Z' k = zS (zS Z 24 0 0 0) 24 0 14 (S 11 0 3 - 1) k) ∧ (∀ k, Z' 36 0 k = gapF gap (S 11 0 3 - 1) (Z 36 0) k) ∧ (∀ k, Z' 37 0 k = gapF gap (S 11 0 3 - 1) (Z 37 0) k) ∧ (∀ k, Z' 38 0 k = gapF gap (S 11 0 3 - 1) (Z 38 0) k)) ∨ (¬ (0 ≤ gap ∧ gap < S 11 0 3) ∧ r = 0 ∧ MTH 1 Z Z'))) := by
  refine cm_start hi (by decide +kernel) (Nat.le_of_ble_eq_true rfl) ?_
  intro p_ e_ s_ m_ args_ below_ meth_ c_ A_ Q_ hQ G hr hin
  have hv := hW.v
  have e14 := hS.a.2.2.2.2
  have hstep : ∀ (a : Int) (f h : Int → Int), gap ≤ a → (∀ k, f k = gapF gap a h k) → ∀ k, (if k = a then f (a + 1) else f k) = gapF gap (a + 1) h k := by
    intro a f h h0 h1 k
    rw [h1, h1]
    unfold gapF
    by_cases e2 : k = a
    · subst e2
      rw [if_pos rfl, if_neg (by omega), if_pos (by omega)]
    · rw [if_neg e2]
      by_cases e3 : gap ≤ k ∧ k < a
      · rw [if_pos e3, if_pos (by omega)]
      · rw [if_neg e3, if_neg (by omega)]
  refine j_aload_n G dX7_dropView_0 rfl ?_
  refine j_iload_n G dX7_dropView_1 rfl ?_
  refine j_cVIZ G cvX7_isView ml7_223 (c_X7_isView hi hS hW hq) dX7_dropView_2 ⟨by decide, by decide⟩ ⟨by decide, by decide⟩ rfl rfl (Nat.le_of_ble_eq_true rfl) (by first | assumption | decide) rfl rfl rfl (fun r2 Z2 h2 => ?_)
  have h2r : (r2 = 1 ∧ (0 ≤ gap ∧ gap < S 11 0 3) ∧ Z2 = zS Z 24 0 0 0) ∨ (r2 = 0 ∧ ¬ (0 ≤ gap ∧ gap < S 11 0 3) ∧ Z2 = zS Z 24 0 0 1) := by
    rcases h2 with z | z
    · exact Or.inl ⟨z.2.1, z.1, z.2.2⟩
    · exact Or.inr ⟨z.2.1, z.1, z.2.2⟩
  clear h2
  refine j_if_ne G 10 dX7_dropView_5 (by decide) (by omega) (fun c5 => ?_) (fun c5 => ?_)
  · have hg : 0 ≤ gap ∧ gap < S 11 0 3 := by omega
    have hm : Z2 = zS Z 24 0 0 0 := h2r.elim (fun z => z.2.2) (fun z => absurd hg z.2.1)
    subst hm
    refine j_aload_n G dX7_dropView_10 rfl ?_
    refine j_dup G dX7_dropView_11 rfl ?_
    refine gf_24_14 G dX7_dropView_12 lf7_92 (by first | assumption | decide) ?_
    refine j_iconst G dX7_dropView_15 ?_
    refine j_isub G dX7_dropView_16 ?_
    rw [zS_j (by decide), e14]
    refine pf_24_14 G dX7_dropView_17 lf7_92 (by first | assumption | decide) ?_
    refine j_iload_n G dX7_dropView_20 rfl ?_
    refine j_istore_n G dX7_dropView_21 (by decide) rfl ?_
    have loop : ∀ (n : Nat) (a : Int) (Y : ZT), gap ≤ a → a < S 11 0 3 → (S 11 0 3 - 1 - a).toNat = n → (∀ k, k ≠ 36 → k ≠ 37 → k ≠ 38 → Y k = zS (zS Z 24 0 0 0) 24 0 14 (S 11 0 3 - 1) k) → (∀ k, Y 36 0 k = gapF gap a (Z 36 0) k) → (∀ k, Y 37 0 k = gapF gap a (Z 37 0) k) → (∀ k, Y 38 0 k = gapF gap a (Z 38 0) k) → JJ p_ l e_ { frames := 2, cells := 0, slots := 0, locals := 43 } s_ m_ args_ below_ meth_ c_ D cys ad A_ Q_ 3 0 0 L g X Y 22 [(0, .ref (ad 24 0)), (1, .int (iI gap)), (2, .int (iI a))] [] := by
      intro n
      induction n with
      | zero =>
        intro a Y h0 h1 h2 h3 h4 h5 h6
        have e : Y 24 0 14 = S 11 0 3 - 1 := by rw [h3 24 (by decide) (by decide) (by decide), zS_s]
        have ea : a = S 11 0 3 - 1 := by omega
        subst ea
        refine j_iload_n G dX7_dropView_22 rfl ?_
        refine j_aload_n G dX7_dropView_23 rfl ?_
        refine gf_24_14 G dX7_dropView_24 lf7_92 (by first | assumption | decide) ?_
        refine j_icmp_ge G 78 dX7_dropView_27 (by decide) (by omega) (by omega) (fun c27 => ?_) (fun c27 => ?_)
        · refine j_aload_n G dX7_dropView_78 rfl ?_
          refine gf_24_14 G dX7_dropView_79 lf7_92 (by first | assumption | decide) ?_
          refine jr_IZ G hQ hr dX7_dropView_82 (by decide) (by decide) ?_
          exact Or.inl ⟨hg, e, h3, h4, h5, h6⟩
        · exfalso; omega
      | succ n ih =>
        intro a Y h0 h1 h2 h3 h4 h5 h6
        have e : Y 24 0 14 = S 11 0 3 - 1 := by rw [h3 24 (by decide) (by decide) (by decide), zS_s]
        have hbv : Y 38 0 (a + 1) = 0 ∨ Y 38 0 (a + 1) = 1 := by
          rw [h6]
          unfold gapF
          rw [if_neg (by omega), (hS.w (by omega : 0 ≤ a + 1) (by omega)).2.2]
          exact hW.st (by omega) (by omega)
        refine j_iload_n G dX7_dropView_22 rfl ?_
        refine j_aload_n G dX7_dropView_23 rfl ?_
        refine gf_24_14 G dX7_dropView_24 lf7_92 (by first | assumption | decide) ?_
        refine j_icmp_ge G 78 dX7_dropView_27 (by decide) (by omega) (by omega) (fun c27 => ?_) (fun c27 => ?_)
        · exfalso; omega
        · refine j_aload_n G dX7_dropView_30 rfl ?_
          refine gf_24_15 G dX7_dropView_31 lf7_42 (by first | assumption | decide) ?_
          refine j_iload_n G dX7_dropView_34 rfl ?_
          refine j_aload_n G dX7_dropView_35 rfl ?_
          refine gf_24_15 G dX7_dropView_36 lf7_42 (by first | assumption | decide) ?_
          refine j_iload_n G dX7_dropView_39 rfl ?_
          refine j_iconst G dX7_dropView_40 ?_
          refine j_iadd G dX7_dropView_41 ?_
          refine al_36 G dX7_dropView_42 (by first | assumption | decide) (by omega) (by omega) ?_
          refine as_36 G dX7_dropView_43 (by first | assumption | decide) (by omega) (by omega) ?_
          refine j_aload_n G dX7_dropView_44 rfl ?_
          refine gf_24_16 G dX7_dropView_45 lf7_45 (by first | assumption | decide) ?_
          refine j_iload_n G dX7_dropView_48 rfl ?_
          refine j_aload_n G dX7_dropView_49 rfl ?_
          refine gf_24_16 G dX7_dropView_50 lf7_45 (by first | assumption | decide) ?_
          refine j_iload_n G dX7_dropView_53 rfl ?_
          refine j_iconst G dX7_dropView_54 ?_
          refine j_iadd G dX7_dropView_55 ?_
          refine al_37 G dX7_dropView_56 (by first | assumption | decide) (by omega) (by omega) ?_
          try simp (config := { decide := true }) only [zS_k, zS_s, zS_j, ne_eq]
          refine as_37 G dX7_dropView_57 (by first | assumption | decide) (by omega) (by omega) ?_
          refine j_aload_n G dX7_dropView_58 rfl ?_
          refine gf_24_17 G dX7_dropView_59 lf7_48 (by first | assumption | decide) ?_
          refine j_iload_n G dX7_dropView_62 rfl ?_
          refine j_aload_n G dX7_dropView_63 rfl ?_
          refine gf_24_17 G dX7_dropView_64 lf7_48 (by first | assumption | decide) ?_
          refine j_iload_n G dX7_dropView_67 rfl ?_
          refine j_iconst G dX7_dropView_68 ?_
          refine j_iadd G dX7_dropView_69 ?_
          refine al_38 G dX7_dropView_70 (by first | assumption | decide) (by omega) (by omega) ?_
          try simp (config := { decide := true }) only [zS_k, zS_s, zS_j, ne_eq]
          refine as_38 G dX7_dropView_71 (by first | assumption | decide) (by omega) (by omega) (by omega) ?_
          refine j_iinc G dX7_dropView_72 rfl (by decide) rfl ?_
          refine j_goto G 22 dX7_dropView_75 (by decide) ?_
          refine ih (a + 1) _ (by omega) (by omega) (by omega) (fun k k1 k2 k3 => ?_) (fun k => ?_) (fun k => ?_) (fun k => ?_)
          · rw [zS_k k3, zS_k k2, zS_k k1]; exact h3 k k1 k2 k3
          · rw [zS_k (by decide), zS_k (by decide), zS_v]; exact hstep a _ _ h0 h4 k
          · rw [zS_k (by decide), zS_v, zS_k (by decide)]; exact hstep a _ _ h0 h5 k
          · rw [zS_v, zS_k (by decide), zS_k (by decide)]; exact hstep a _ _ h0 h6 k
    refine loop _ gap _ (by omega) hg.2 rfl (fun _ _ _ _ => rfl) (fun k => ?_) (fun k => ?_) (fun k => ?_)
    · rw [zS_k (by decide), zS_k (by decide)]; unfold gapF; rw [if_neg (by omega)]
    · rw [zS_k (by decide), zS_k (by decide)]; unfold gapF; rw [if_neg (by omega)]
    · rw [zS_k (by decide), zS_k (by decide)]; unfold gapF; rw [if_neg (by omega)]
  · refine j_iconst G dX7_dropView_8 ?_
    refine jr_IZ G hQ hr dX7_dropView_9 (by decide) (by decide) ?_
    rcases h2r with z | z
    · exfalso; omega
    · exact Or.inr ⟨z.2.1, by first | rfl | trivial, z.2.2⟩
set_option maxRecDepth 100000 in
set_option maxHeartbeats 8000000 in
theorem c_X7_addDimension {l : Launch} {D : va_G} {cys : Nat → ClassId} {ad : Nat → Int → Nat} {L : List Nat} {g : Nat → va_E} {X : Int64} {Z : ZT} (hi : injA ad) {S : ZT} {lv : Int} (hS : RMZ S Z) (hW : WF S) (hlv : inR lv) : CM l D cys ad yX7_addDimension cX7_addDimension 6 (some .int) 1 23 0 0 [.ref (ad 24 0), .int (iI lv)] L g X Z (PIZ L g X Z (fun r Z' => ((1 ≤ lv ∧ lv ≤ 3) ∧ S 0 0 5 < 4 ∧ r = S 0 0 5 ∧ (∀ k, k ≠ 30 → Z' k = zS (zS (zS (zS (zS (zS (zS Z 24 0 0 0) 25 0 (S 0 0 5) lv) 26 0 (S 0 0 5) 1) 24 0 1 (S 0 0 5 + 1)) 24 0 8 0) 24 0 14 0) 24 0 11 0 k) ∧ ∀ d j, 0 ≤ d → d < 4 → 0 ≤ j → j < 24 → Z' 30 d j = 0) ∨ (¬ (1 ≤ lv ∧ lv ≤ 3) ∧ r = 0 ∧ MTH 1 Z Z') ∨ ((1 ≤ lv ∧ lv ≤ 3) ∧ ¬ S 0 0 5 < 4 ∧ r = 0 ∧ MTH 2 Z Z'))) := by
  refine cm_start hi (by decide +kernel) (Nat.le_of_ble_eq_true rfl) ?_
  intro p_ e_ s_ m_ args_ below_ meth_ c_ A_ Q_ hQ G hr hin
  have hn := hW.n
  have e1 := hS.a.1
  have h1r : inR 1 := by decide
  have h3r : inR 3 := by decide
  refine j_aload_n G dX7_addDimension_0 rfl ?_
  refine j_iconst G dX7_addDimension_1 ?_
  refine pf_24_0 G dX7_addDimension_2 lf7_52 (by first | assumption | decide) ?_
  refine j_iload_n G dX7_addDimension_5 rfl ?_
  refine j_iconst G dX7_addDimension_6 ?_
  refine j_iconst G dX7_addDimension_7 ?_
  refine j_cSI G csX7_is ml7_59 rfl (c_X7_is hi hlv h1r h3r) dX7_addDimension_8 ⟨by decide, by decide⟩ ⟨by decide, by decide⟩ rfl rfl (Nat.le_of_ble_eq_true rfl) (fun r8 h8 => ?_)
  refine j_if_ne G 20 dX7_addDimension_11 (by decide) (by omega) (fun c11 => ?_) (fun c11 => ?_)
  · refine j_aload_n G dX7_addDimension_20 rfl ?_
    refine gf_24_1 G dX7_addDimension_21 lf7_56 (by first | assumption | decide) ?_
    try simp (config := { decide := true }) only [zS_k, zS_s, zS_j, ne_eq]
    refine j_iconst G dX7_addDimension_24 ?_
    refine j_icmp_ne G 34 dX7_addDimension_25 (by decide) (by omega) (by omega) (fun c25 => ?_) (fun c25 => ?_)
    · refine j_aload_n G dX7_addDimension_34 rfl ?_
      refine gf_24_2 G dX7_addDimension_35 lf7_9 (by first | assumption | decide) ?_
      refine j_aload_n G dX7_addDimension_38 rfl ?_
      refine gf_24_1 G dX7_addDimension_39 lf7_56 (by first | assumption | decide) ?_
      try simp (config := { decide := true }) only [zS_k, zS_s, zS_j, ne_eq]
      rw [e1]
      refine j_iload_n G dX7_addDimension_42 rfl ?_
      refine as_25 G dX7_addDimension_43 (by first | assumption | decide) (by omega) (by omega) ?_
      refine j_aload_n G dX7_addDimension_44 rfl ?_
      refine gf_24_3 G dX7_addDimension_45 lf7_13 (by first | assumption | decide) ?_
      refine j_aload_n G dX7_addDimension_48 rfl ?_
      refine gf_24_1 G dX7_addDimension_49 lf7_56 (by first | assumption | decide) ?_
      try simp (config := { decide := true }) only [zS_k, zS_s, zS_j, ne_eq]
      rw [e1]
      refine j_iconst G dX7_addDimension_52 ?_
      refine as_26 G dX7_addDimension_53 (by first | assumption | decide) (by omega) (by omega) ?_
      refine j_aload_n G dX7_addDimension_54 rfl ?_
      refine j_dup G dX7_addDimension_55 rfl ?_
      refine gf_24_1 G dX7_addDimension_56 lf7_56 (by first | assumption | decide) ?_
      try simp (config := { decide := true }) only [zS_k, zS_s, zS_j, ne_eq]
      refine j_iconst G dX7_addDimension_59 ?_
      rw [e1]
      refine j_iadd G dX7_addDimension_60 ?_
      refine pf_24_1 G dX7_addDimension_61 lf7_56 (by first | assumption | decide) ?_
      refine j_aload_n G dX7_addDimension_64 rfl ?_
      refine j_iconst G dX7_addDimension_65 ?_
      refine pf_24_8 G dX7_addDimension_66 lf7_89 (by first | assumption | decide) ?_
      refine j_aload_n G dX7_addDimension_69 rfl ?_
      refine j_iconst G dX7_addDimension_70 ?_
      refine pf_24_14 G dX7_addDimension_71 lf7_92 (by first | assumption | decide) ?_
      refine j_aload_n G dX7_addDimension_74 rfl ?_
      refine j_iconst G dX7_addDimension_75 ?_
      refine pf_24_11 G dX7_addDimension_76 lf7_95 (by first | assumption | decide) (by omega) ?_
      refine j_aload_n G dX7_addDimension_79 rfl ?_
      refine gf_24_5 G dX7_addDimension_80 lf7_23 (by first | assumption | decide) ?_
      refine j_astore_n G dX7_addDimension_83 (by decide) rfl ?_
      refine j_aload_n G dX7_addDimension_84 rfl ?_
      refine j_slenQ G 29 0 5 dX7_addDimension_85 rfl rfl (by decide) ?_
      refine j_istore_n G dX7_addDimension_86 (by decide) rfl ?_
      refine j_iconst G dX7_addDimension_87 ?_
      refine j_istore G dX7_addDimension_88 (by decide) rfl ?_
      have loop : ∀ (n : Nat) (a : Int) (Y : ZT) (vs5 : List (Nat × Value)), 0 ≤ a → a ≤ 4 → (4 - a).toNat = n → (∀ k, k ≠ 30 → Y k = zS (zS (zS (zS (zS (zS (zS Z 24 0 0 0) 25 0 (S 0 0 5) lv) 26 0 (S 0 0 5) 1) 24 0 1 (S 0 0 5 + 1)) 24 0 8 0) 24 0 14 0) 24 0 11 0 k) → (∀ d j, 0 ≤ d → d < a → 0 ≤ j → j < 24 → Y 30 d j = 0) → JJ p_ l e_ { frames := 1, cells := 0, slots := 0, locals := 23 } s_ m_ args_ below_ meth_ c_ D cys ad A_ Q_ 6 0 0 L g X Y 90 [(0, .ref (ad 24 0)), (1, .int (iI lv)), (2, .ref (ad 29 0)), (3, .int (iI 4)), (4, .int (iI a))] [] := by
        intro n
        induction n with
        | zero =>
          intro a Y vs5 h0 h1 h2 h3 h4
          have ea : a = 4 := by omega
          subst ea
          have e : Y 24 0 1 = S 0 0 5 + 1 := by rw [h3 24 (by decide), zS_v, if_neg (by decide), zS_v, if_neg (by decide), zS_v, if_neg (by decide), zS_s]
          refine j_iload G dX7_addDimension_90 rfl ?_
          refine j_iload_n G dX7_addDimension_92 rfl ?_
          refine j_icmp_ge G 114 dX7_addDimension_93 (by decide) (by omega) (by omega) (fun c93 => ?_) (fun c93 => ?_)
          · refine j_aload_n G dX7_addDimension_114 rfl ?_
            refine gf_24_1 G dX7_addDimension_115 lf7_56 (by first | assumption | decide) ?_
            refine j_iconst G dX7_addDimension_118 ?_
            refine j_isub G dX7_addDimension_119 ?_
            refine jr_IZ G hQ hr dX7_addDimension_120 (by decide) (by decide) ?_
            exact Or.inl ⟨by omega, by omega, by omega, h3, h4⟩
          · exfalso; omega
        | succ n ih =>
          intro a Y vs5 h0 h1 h2 h3 h4
          have hv30 : vd 30 a := ⟨h0, show a < 4 by omega⟩
          have hcc : ∀ (X : Int64) (z : Int → Int), cC cys ad 30 a X z = eI (cys 1) 24 z := fun _ _ => rfl
          have h24 : 24 ≤ 1000 := by decide
          have hb : (0 : Int) = 0 ∨ (0 : Int) = 1 := Or.inl rfl
          refine j_iload G dX7_addDimension_90 rfl ?_
          refine j_iload_n G dX7_addDimension_92 rfl ?_
          refine j_icmp_ge G 114 dX7_addDimension_93 (by decide) (by omega) (by omega) (fun c93 => ?_) (fun c93 => ?_)
          · exfalso; omega
          · refine j_aload_n G dX7_addDimension_96 rfl ?_
            refine j_iload G dX7_addDimension_97 rfl ?_
            refine al_29 G dX7_addDimension_99 (by first | assumption | decide) (by omega) (by omega) ?_
            refine j_astore G dX7_addDimension_100 (by decide) rfl ?_
            refine j_aload G dX7_addDimension_102 rfl ?_
            refine j_iconst G dX7_addDimension_104 ?_
            refine j_cTVZ G csJ7_fill_49daa ml7_81 (c_J7_fill_49daa hi hcc h24 hv30 hb) dX7_addDimension_105 ⟨by decide, by decide⟩ (by first | exact ⟨by decide, by decide⟩ | (constructor <;> dsimp only <;> omega)) rfl rfl (Nat.le_of_ble_eq_true rfl) (fun Z105 h105 => ?_)
            obtain ⟨f1, f2⟩ := h105
            refine j_iinc G dX7_addDimension_108 rfl (by decide) rfl ?_
            refine j_goto G 90 dX7_addDimension_111 (by decide) ?_
            refine j_keep [0, 1, 2, 3, 4] ?_
            refine ih (a + 1) _ [] (by omega) (by omega) (by omega) (fun k hk => ?_) (fun d j d0 d1 j0 j1 => ?_)
            · rw [← h3 k hk]
              funext i'
              exact f1 k i' (fun q => hk q.1)
            · by_cases e : d = a
              · subst e; rw [f2, if_pos ⟨j0, j1⟩]
              · rw [f1 30 d (fun q => e q.2)]; exact h4 d j d0 (by omega) j0 j1
      exact loop _ 0 _ [] (by omega) (by omega) rfl (fun _ _ => rfl) (fun d j d0 d1 => by omega)
    · refine j_aload_n G dX7_addDimension_28 rfl ?_
      refine j_iconst G dX7_addDimension_29 ?_
      refine j_cVIZ G cvX7_refuse ml7_85 (c_X7_refuse hi ) dX7_addDimension_30 ⟨by decide, by decide⟩ ⟨by decide, by decide⟩ rfl rfl (Nat.le_of_ble_eq_true rfl) (by first | assumption | decide) rfl rfl rfl (fun r30 Z30 h30 => ?_)
      refine jr_IZ G hQ hr dX7_addDimension_33 (by decide) (by decide) ?_
      try simp (config := { decide := true }) only [zS_k, zS_s, zS_j, ne_eq]
      exact Or.inr (Or.inr ⟨by omega, by omega, h30.1, MTH.up h30.2⟩)
  · refine j_aload_n G dX7_addDimension_14 rfl ?_
    refine j_iconst G dX7_addDimension_15 ?_
    refine j_cVIZ G cvX7_refuse ml7_85 (c_X7_refuse hi ) dX7_addDimension_16 ⟨by decide, by decide⟩ ⟨by decide, by decide⟩ rfl rfl (Nat.le_of_ble_eq_true rfl) (by first | assumption | decide) rfl rfl rfl (fun r16 Z16 h16 => ?_)
    refine jr_IZ G hQ hr dX7_addDimension_19 (by decide) (by decide) ?_
    try simp (config := { decide := true }) only [zS_k, zS_s, zS_j, ne_eq]
    exact Or.inr (Or.inl ⟨by omega, h16.1, MTH.up h16.2⟩)

