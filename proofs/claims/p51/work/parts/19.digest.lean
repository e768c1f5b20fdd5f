theorem dX6_mixViews_0 : decode cX6_mixViews 0 = .ok (.lload_n 1, 1) := by decide +kernel
theorem dX6_mixViews_1 : decode cX6_mixViews 1 = .ok (.aload_n 0, 1) := by decide +kernel
theorem dX6_mixViews_2 : decode cX6_mixViews 2 = .ok (.getfield 25, 3) := by decide +kernel
theorem dX6_mixViews_5 : decode cX6_mixViews 5 = .ok (.getfield 261, 3) := by decide +kernel
theorem dX6_mixViews_8 : decode cX6_mixViews 8 = .ok (.i2l, 1) := by decide +kernel
theorem dX6_mixViews_9 : decode cX6_mixViews 9 = .ok (.invokestatic 294, 3) := by decide +kernel
theorem dX6_mixViews_12 : decode cX6_mixViews 12 = .ok (.lstore_n 3, 1) := by decide +kernel
theorem dX6_mixViews_13 : decode cX6_mixViews 13 = .ok (.iconst 0, 1) := by decide +kernel
theorem dX6_mixViews_14 : decode cX6_mixViews 14 = .ok (.istore 5, 2) := by decide +kernel
theorem dX6_mixViews_16 : decode cX6_mixViews 16 = .ok (.iload 5, 2) := by decide +kernel
theorem dX6_mixViews_18 : decode cX6_mixViews 18 = .ok (.aload_n 0, 1) := by decide +kernel
theorem dX6_mixViews_19 : decode cX6_mixViews 19 = .ok (.getfield 25, 3) := by decide +kernel
theorem dX6_mixViews_22 : decode cX6_mixViews 22 = .ok (.getfield 261, 3) := by decide +kernel
theorem dX6_mixViews_25 : decode cX6_mixViews 25 = .ok (.if_icmp .ge 48, 3) := by decide +kernel
theorem dX6_mixViews_28 : decode cX6_mixViews 28 = .ok (.lload_n 3, 1) := by decide +kernel
theorem dX6_mixViews_29 : decode cX6_mixViews 29 = .ok (.aload_n 0, 1) := by decide +kernel
theorem dX6_mixViews_30 : decode cX6_mixViews 30 = .ok (.getfield 25, 3) := by decide +kernel
theorem dX6_mixViews_33 : decode cX6_mixViews 33 = .ok (.getfield 274, 3) := by decide +kernel
theorem dX6_mixViews_36 : decode cX6_mixViews 36 = .ok (.iload 5, 2) := by decide +kernel
theorem dX6_mixViews_38 : decode cX6_mixViews 38 = .ok (.iaload, 1) := by decide +kernel
theorem dX6_mixViews_39 : decode cX6_mixViews 39 = .ok (.i2l, 1) := by decide +kernel
theorem dX6_mixViews_40 : decode cX6_mixViews 40 = .ok (.invokestatic 294, 3) := by decide +kernel
theorem dX6_mixViews_43 : decode cX6_mixViews 43 = .ok (.lstore_n 3, 1) := by decide +kernel
theorem dX6_mixViews_44 : decode cX6_mixViews 44 = .ok (.lload_n 3, 1) := by decide +kernel
theorem dX6_mixViews_45 : decode cX6_mixViews 45 = .ok (.aload_n 0, 1) := by decide +kernel
theorem dX6_mixViews_46 : decode cX6_mixViews 46 = .ok (.getfield 25, 3) := by decide +kernel
theorem dX6_mixViews_49 : decode cX6_mixViews 49 = .ok (.getfield 277, 3) := by decide +kernel
theorem dX6_mixViews_52 : decode cX6_mixViews 52 = .ok (.iload 5, 2) := by decide +kernel
theorem dX6_mixViews_54 : decode cX6_mixViews 54 = .ok (.baload, 1) := by decide +kernel
theorem dX6_mixViews_55 : decode cX6_mixViews 55 = .ok (.ifCond .eq 7, 3) := by decide +kernel
theorem dX6_mixViews_58 : decode cX6_mixViews 58 = .ok (.lconst 1, 1) := by decide +kernel
theorem dX6_mixViews_59 : decode cX6_mixViews 59 = .ok (.goto 4, 3) := by decide +kernel
theorem dX6_mixViews_62 : decode cX6_mixViews 62 = .ok (.lconst 0, 1) := by decide +kernel
theorem dX6_mixViews_63 : decode cX6_mixViews 63 = .ok (.invokestatic 294, 3) := by decide +kernel
theorem dX6_mixViews_66 : decode cX6_mixViews 66 = .ok (.lstore_n 3, 1) := by decide +kernel
theorem dX6_mixViews_67 : decode cX6_mixViews 67 = .ok (.iinc 5 1, 3) := by decide +kernel
theorem dX6_mixViews_70 : decode cX6_mixViews 70 = .ok (.goto (-54), 3) := by decide +kernel
theorem dX6_mixViews_73 : decode cX6_mixViews 73 = .ok (.lload_n 3, 1) := by decide +kernel
theorem dX6_mixViews_74 : decode cX6_mixViews 74 = .ok (.lreturn, 1) := by decide +kernel
theorem dX6_mixTable_0 : decode cX6_mixTable 0 = .ok (.aload_n 0, 1) := by decide +kernel
theorem dX6_mixTable_1 : decode cX6_mixTable 1 = .ok (.invokevirtual 226, 3) := by decide +kernel
theorem dX6_mixTable_4 : decode cX6_mixTable 4 = .ok (.lload_n 1, 1) := by decide +kernel
theorem dX6_mixTable_5 : decode cX6_mixTable 5 = .ok (.aload_n 0, 1) := by decide +kernel
theorem dX6_mixTable_6 : decode cX6_mixTable 6 = .ok (.getfield 32, 3) := by decide +kernel
theorem dX6_mixTable_9 : decode cX6_mixTable 9 = .ok (.getfield 229, 3) := by decide +kernel
theorem dX6_mixTable_12 : decode cX6_mixTable 12 = .ok (.i2l, 1) := by decide +kernel
theorem dX6_mixTable_13 : decode cX6_mixTable 13 = .ok (.invokestatic 294, 3) := by decide +kernel
theorem dX6_mixTable_16 : decode cX6_mixTable 16 = .ok (.lstore_n 3, 1) := by decide +kernel
theorem dX6_mixTable_17 : decode cX6_mixTable 17 = .ok (.lload_n 3, 1) := by decide +kernel
theorem dX6_mixTable_18 : decode cX6_mixTable 18 = .ok (.aload_n 0, 1) := by decide +kernel
theorem dX6_mixTable_19 : decode cX6_mixTable 19 = .ok (.getfield 36, 3) := by decide +kernel
theorem dX6_mixTable_22 : decode cX6_mixTable 22 = .ok (.getfield 229, 3) := by decide +kernel
theorem dX6_mixTable_25 : decode cX6_mixTable 25 = .ok (.i2l, 1) := by decide +kernel
theorem dX6_mixTable_26 : decode cX6_mixTable 26 = .ok (.invokestatic 294, 3) := by decide +kernel
theorem dX6_mixTable_29 : decode cX6_mixTable 29 = .ok (.lstore_n 3, 1) := by decide +kernel
theorem dX6_mixTable_30 : decode cX6_mixTable 30 = .ok (.iconst 0, 1) := by decide +kernel
theorem dX6_mixTable_31 : decode cX6_mixTable 31 = .ok (.istore 5, 2) := by decide +kernel
theorem dX6_mixTable_33 : decode cX6_mixTable 33 = .ok (.iload 5, 2) := by decide +kernel
theorem dX6_mixTable_35 : decode cX6_mixTable 35 = .ok (.aload_n 0, 1) := by decide +kernel
theorem dX6_mixTable_36 : decode cX6_mixTable 36 = .ok (.getfield 32, 3) := by decide +kernel
theorem dX6_mixTable_39 : decode cX6_mixTable 39 = .ok (.getfield 229, 3) := by decide +kernel
theorem dX6_mixTable_42 : decode cX6_mixTable 42 = .ok (.if_icmp .ge 24, 3) := by decide +kernel
theorem dX6_mixTable_45 : decode cX6_mixTable 45 = .ok (.lload_n 3, 1) := by decide +kernel
theorem dX6_mixTable_46 : decode cX6_mixTable 46 = .ok (.aload_n 0, 1) := by decide +kernel
theorem dX6_mixTable_47 : decode cX6_mixTable 47 = .ok (.getfield 32, 3) := by decide +kernel
theorem dX6_mixTable_50 : decode cX6_mixTable 50 = .ok (.iload 5, 2) := by decide +kernel
theorem dX6_mixTable_52 : decode cX6_mixTable 52 = .ok (.invokevirtual 242, 3) := by decide +kernel
theorem dX6_mixTable_55 : decode cX6_mixTable 55 = .ok (.i2l, 1) := by decide +kernel
theorem dX6_mixTable_56 : decode cX6_mixTable 56 = .ok (.invokestatic 294, 3) := by decide +kernel
theorem dX6_mixTable_59 : decode cX6_mixTable 59 = .ok (.lstore_n 3, 1) := by decide +kernel
theorem dX6_mixTable_60 : decode cX6_mixTable 60 = .ok (.iinc 5 1, 3) := by decide +kernel
theorem dX6_mixTable_63 : decode cX6_mixTable 63 = .ok (.goto (-30), 3) := by decide +kernel
theorem dX6_mixTable_66 : decode cX6_mixTable 66 = .ok (.iconst 0, 1) := by decide +kernel
theorem dX6_mixTable_67 : decode cX6_mixTable 67 = .ok (.istore 5, 2) := by decide +kernel
theorem dX6_mixTable_69 : decode cX6_mixTable 69 = .ok (.iload 5, 2) := by decide +kernel
theorem dX6_mixTable_71 : decode cX6_mixTable 71 = .ok (.aload_n 0, 1) := by decide +kernel
theorem dX6_mixTable_72 : decode cX6_mixTable 72 = .ok (.getfield 36, 3) := by decide +kernel
theorem dX6_mixTable_75 : decode cX6_mixTable 75 = .ok (.getfield 229, 3) := by decide +kernel
theorem dX6_mixTable_78 : decode cX6_mixTable 78 = .ok (.if_icmp .ge 24, 3) := by decide +kernel
theorem dX6_mixTable_81 : decode cX6_mixTable 81 = .ok (.lload_n 3, 1) := by decide +kernel
theorem dX6_mixTable_82 : decode cX6_mixTable 82 = .ok (.aload_n 0, 1) := by decide +kernel
theorem dX6_mixTable_83 : decode cX6_mixTable 83 = .ok (.getfield 36, 3) := by decide +kernel
theorem dX6_mixTable_86 : decode cX6_mixTable 86 = .ok (.iload 5, 2) := by decide +kernel
theorem dX6_mixTable_88 : decode cX6_mixTable 88 = .ok (.invokevirtual 242, 3) := by decide +kernel
theorem dX6_mixTable_91 : decode cX6_mixTable 91 = .ok (.i2l, 1) := by decide +kernel
theorem dX6_mixTable_92 : decode cX6_mixTable 92 = .ok (.invokestatic 294, 3) := by decide +kernel
theorem dX6_mixTable_95 : decode cX6_mixTable 95 = .ok (.lstore_n 3, 1) := by decide +kernel
theorem dX6_mixTable_96 : decode cX6_mixTable 96 = .ok (.iinc 5 1, 3) := by decide +kernel
theorem dX6_mixTable_99 : decode cX6_mixTable 99 = .ok (.goto (-30), 3) := by decide +kernel
theorem dX6_mixTable_102 : decode cX6_mixTable 102 = .ok (.iconst 0, 1) := by decide +kernel
theorem dX6_mixTable_103 : decode cX6_mixTable 103 = .ok (.istore 5, 2) := by decide +kernel
theorem dX6_mixTable_105 : decode cX6_mixTable 105 = .ok (.iload 5, 2) := by decide +kernel
theorem dX6_mixTable_107 : decode cX6_mixTable 107 = .ok (.aload_n 0, 1) := by decide +kernel
theorem dX6_mixTable_108 : decode cX6_mixTable 108 = .ok (.getfield 32, 3) := by decide +kernel
theorem dX6_mixTable_111 : decode cX6_mixTable 111 = .ok (.getfield 229, 3) := by decide +kernel
theorem dX6_mixTable_114 : decode cX6_mixTable 114 = .ok (.if_icmp .ge 44, 3) := by decide +kernel
theorem dX6_mixTable_117 : decode cX6_mixTable 117 = .ok (.iconst 0, 1) := by decide +kernel
theorem dX6_mixTable_118 : decode cX6_mixTable 118 = .ok (.istore 6, 2) := by decide +kernel
theorem dX6_mixTable_120 : decode cX6_mixTable 120 = .ok (.iload 6, 2) := by decide +kernel
theorem dX6_mixTable_122 : decode cX6_mixTable 122 = .ok (.aload_n 0, 1) := by decide +kernel
theorem dX6_mixTable_123 : decode cX6_mixTable 123 = .ok (.getfield 36, 3) := by decide +kernel
theorem dX6_mixTable_126 : decode cX6_mixTable 126 = .ok (.getfield 229, 3) := by decide +kernel
theorem dX6_mixTable_129 : decode cX6_mixTable 129 = .ok (.if_icmp .ge 23, 3) := by decide +kernel
theorem dX6_mixTable_132 : decode cX6_mixTable 132 = .ok (.lload_n 3, 1) := by decide +kernel
theorem dX6_mixTable_133 : decode cX6_mixTable 133 = .ok (.aload_n 0, 1) := by decide +kernel
theorem dX6_mixTable_134 : decode cX6_mixTable 134 = .ok (.iload 5, 2) := by decide +kernel
theorem dX6_mixTable_136 : decode cX6_mixTable 136 = .ok (.iload 6, 2) := by decide +kernel
theorem dX6_mixTable_138 : decode cX6_mixTable 138 = .ok (.invokevirtual 245, 3) := by decide +kernel
theorem dX6_mixTable_141 : decode cX6_mixTable 141 = .ok (.i2l, 1) := by decide +kernel
theorem dX6_mixTable_142 : decode cX6_mixTable 142 = .ok (.invokestatic 294, 3) := by decide +kernel
theorem dX6_mixTable_145 : decode cX6_mixTable 145 = .ok (.lstore_n 3, 1) := by decide +kernel
theorem dX6_mixTable_146 : decode cX6_mixTable 146 = .ok (.iinc 6 1, 3) := by decide +kernel
theorem dX6_mixTable_149 : decode cX6_mixTable 149 = .ok (.goto (-29), 3) := by decide +kernel
theorem dX6_mixTable_152 : decode cX6_mixTable 152 = .ok (.iinc 5 1, 3) := by decide +kernel
theorem dX6_mixTable_155 : decode cX6_mixTable 155 = .ok (.goto (-50), 3) := by decide +kernel
theorem dX6_mixTable_158 : decode cX6_mixTable 158 = .ok (.lload_n 3, 1) := by decide +kernel
theorem dX6_mixTable_159 : decode cX6_mixTable 159 = .ok (.lreturn, 1) := by decide +kernel
theorem dX6_digest_0 : decode cX6_digest 0 = .ok (.ldc2_w 292, 3) := by decide +kernel
theorem dX6_digest_3 : decode cX6_digest 3 = .ok (.lstore_n 1, 1) := by decide +kernel
theorem dX6_digest_4 : decode cX6_digest 4 = .ok (.lload_n 1, 1) := by decide +kernel
theorem dX6_digest_5 : decode cX6_digest 5 = .ok (.aload_n 0, 1) := by decide +kernel
theorem dX6_digest_6 : decode cX6_digest 6 = .ok (.getfield 66, 3) := by decide +kernel
theorem dX6_digest_9 : decode cX6_digest 9 = .ok (.i2l, 1) := by decide +kernel
theorem dX6_digest_10 : decode cX6_digest 10 = .ok (.invokestatic 294, 3) := by decide +kernel
theorem dX6_digest_13 : decode cX6_digest 13 = .ok (.lstore_n 1, 1) := by decide +kernel
theorem dX6_digest_14 : decode cX6_digest 14 = .ok (.iconst 0, 1) := by decide +kernel
theorem dX6_digest_15 : decode cX6_digest 15 = .ok (.istore_n 3, 1) := by decide +kernel
theorem dX6_digest_16 : decode cX6_digest 16 = .ok (.iload_n 3, 1) := by decide +kernel
theorem dX6_digest_17 : decode cX6_digest 17 = .ok (.aload_n 0, 1) := by decide +kernel
theorem dX6_digest_18 : decode cX6_digest 18 = .ok (.getfield 66, 3) := by decide +kernel
theorem dX6_digest_21 : decode cX6_digest 21 = .ok (.if_icmp .ge 16, 3) := by decide +kernel
theorem dX6_digest_24 : decode cX6_digest 24 = .ok (.aload_n 0, 1) := by decide +kernel
theorem dX6_digest_25 : decode cX6_digest 25 = .ok (.lload_n 1, 1) := by decide +kernel
theorem dX6_digest_26 : decode cX6_digest 26 = .ok (.iload_n 3, 1) := by decide +kernel
theorem dX6_digest_27 : decode cX6_digest 27 = .ok (.invokevirtual 298, 3) := by decide +kernel
theorem dX6_digest_30 : decode cX6_digest 30 = .ok (.lstore_n 1, 1) := by decide +kernel
theorem dX6_digest_31 : decode cX6_digest 31 = .ok (.iinc 3 1, 3) := by decide +kernel
theorem dX6_digest_34 : decode cX6_digest 34 = .ok (.goto (-18), 3) := by decide +kernel
theorem dX6_digest_37 : decode cX6_digest 37 = .ok (.lload_n 1, 1) := by decide +kernel
theorem dX6_digest_38 : decode cX6_digest 38 = .ok (.aload_n 0, 1) := by decide +kernel
theorem dX6_digest_39 : decode cX6_digest 39 = .ok (.getfield 18, 3) := by decide +kernel
theorem dX6_digest_42 : decode cX6_digest 42 = .ok (.getfield 160, 3) := by decide +kernel
theorem dX6_digest_45 : decode cX6_digest 45 = .ok (.i2l, 1) := by decide +kernel
theorem dX6_digest_46 : decode cX6_digest 46 = .ok (.invokestatic 294, 3) := by decide +kernel
theorem dX6_digest_49 : decode cX6_digest 49 = .ok (.lstore_n 1, 1) := by decide +kernel
theorem dX6_digest_50 : decode cX6_digest 50 = .ok (.lload_n 1, 1) := by decide +kernel
theorem dX6_digest_51 : decode cX6_digest 51 = .ok (.aload_n 0, 1) := by decide +kernel
theorem dX6_digest_52 : decode cX6_digest 52 = .ok (.invokevirtual 178, 3) := by decide +kernel
theorem dX6_digest_55 : decode cX6_digest 55 = .ok (.i2l, 1) := by decide +kernel
theorem dX6_digest_56 : decode cX6_digest 56 = .ok (.invokestatic 294, 3) := by decide +kernel
theorem dX6_digest_59 : decode cX6_digest 59 = .ok (.lstore_n 1, 1) := by decide +kernel
theorem dX6_digest_60 : decode cX6_digest 60 = .ok (.lload_n 1, 1) := by decide +kernel
theorem dX6_digest_61 : decode cX6_digest 61 = .ok (.aload_n 0, 1) := by decide +kernel
theorem dX6_digest_62 : decode cX6_digest 62 = .ok (.invokevirtual 182, 3) := by decide +kernel
theorem dX6_digest_65 : decode cX6_digest 65 = .ok (.i2l, 1) := by decide +kernel
theorem dX6_digest_66 : decode cX6_digest 66 = .ok (.invokestatic 294, 3) := by decide +kernel
theorem dX6_digest_69 : decode cX6_digest 69 = .ok (.lstore_n 1, 1) := by decide +kernel
theorem dX6_digest_70 : decode cX6_digest 70 = .ok (.lload_n 1, 1) := by decide +kernel
theorem dX6_digest_71 : decode cX6_digest 71 = .ok (.aload_n 0, 1) := by decide +kernel
theorem dX6_digest_72 : decode cX6_digest 72 = .ok (.invokevirtual 302, 3) := by decide +kernel
theorem dX6_digest_75 : decode cX6_digest 75 = .ok (.i2l, 1) := by decide +kernel
theorem dX6_digest_76 : decode cX6_digest 76 = .ok (.invokestatic 294, 3) := by decide +kernel
theorem dX6_digest_79 : decode cX6_digest 79 = .ok (.lstore_n 1, 1) := by decide +kernel
theorem dX6_digest_80 : decode cX6_digest 80 = .ok (.lload_n 1, 1) := by decide +kernel
theorem dX6_digest_81 : decode cX6_digest 81 = .ok (.aload_n 0, 1) := by decide +kernel
theorem dX6_digest_82 : decode cX6_digest 82 = .ok (.invokevirtual 305, 3) := by decide +kernel
theorem dX6_digest_85 : decode cX6_digest 85 = .ok (.i2l, 1) := by decide +kernel
theorem dX6_digest_86 : decode cX6_digest 86 = .ok (.invokestatic 294, 3) := by decide +kernel
theorem dX6_digest_89 : decode cX6_digest 89 = .ok (.lstore_n 1, 1) := by decide +kernel
theorem dX6_digest_90 : decode cX6_digest 90 = .ok (.iconst 0, 1) := by decide +kernel
theorem dX6_digest_91 : decode cX6_digest 91 = .ok (.istore_n 3, 1) := by decide +kernel
theorem dX6_digest_92 : decode cX6_digest 92 = .ok (.iload_n 3, 1) := by decide +kernel
theorem dX6_digest_93 : decode cX6_digest 93 = .ok (.aload_n 0, 1) := by decide +kernel
theorem dX6_digest_94 : decode cX6_digest 94 = .ok (.getfield 66, 3) := by decide +kernel
theorem dX6_digest_97 : decode cX6_digest 97 = .ok (.if_icmp .ge 16, 3) := by decide +kernel
theorem dX6_digest_100 : decode cX6_digest 100 = .ok (.aload_n 0, 1) := by decide +kernel
theorem dX6_digest_101 : decode cX6_digest 101 = .ok (.lload_n 1, 1) := by decide +kernel
theorem dX6_digest_102 : decode cX6_digest 102 = .ok (.iload_n 3, 1) := by decide +kernel
theorem dX6_digest_103 : decode cX6_digest 103 = .ok (.invokevirtual 308, 3) := by decide +kernel
theorem dX6_digest_106 : decode cX6_digest 106 = .ok (.lstore_n 1, 1) := by decide +kernel
theorem dX6_digest_107 : decode cX6_digest 107 = .ok (.iinc 3 1, 3) := by decide +kernel
theorem dX6_digest_110 : decode cX6_digest 110 = .ok (.goto (-18), 3) := by decide +kernel
theorem dX6_digest_113 : decode cX6_digest 113 = .ok (.aload_n 0, 1) := by decide +kernel
theorem dX6_digest_114 : decode cX6_digest 114 = .ok (.getfield 222, 3) := by decide +kernel
theorem dX6_digest_117 : decode cX6_digest 117 = .ok (.ifCond .eq 9, 3) := by decide +kernel
theorem dX6_digest_120 : decode cX6_digest 120 = .ok (.aload_n 0, 1) := by decide +kernel
theorem dX6_digest_121 : decode cX6_digest 121 = .ok (.lload_n 1, 1) := by decide +kernel
theorem dX6_digest_122 : decode cX6_digest 122 = .ok (.invokevirtual 311, 3) := by decide +kernel
theorem dX6_digest_125 : decode cX6_digest 125 = .ok (.lstore_n 1, 1) := by decide +kernel
theorem dX6_digest_126 : decode cX6_digest 126 = .ok (.aload_n 0, 1) := by decide +kernel
theorem dX6_digest_127 : decode cX6_digest 127 = .ok (.lload_n 1, 1) := by decide +kernel
theorem dX6_digest_128 : decode cX6_digest 128 = .ok (.invokevirtual 315, 3) := by decide +kernel
theorem dX6_digest_131 : decode cX6_digest 131 = .ok (.lstore_n 1, 1) := by decide +kernel
theorem dX6_digest_132 : decode cX6_digest 132 = .ok (.lload_n 1, 1) := by decide +kernel
theorem dX6_digest_133 : decode cX6_digest 133 = .ok (.aload_n 0, 1) := by decide +kernel
theorem dX6_digest_134 : decode cX6_digest 134 = .ok (.aload_n 0, 1) := by decide +kernel
theorem dX6_digest_135 : decode cX6_digest 135 = .ok (.getfield 249, 3) := by decide +kernel
theorem dX6_digest_138 : decode cX6_digest 138 = .ok (.invokevirtual 258, 3) := by decide +kernel
theorem dX6_digest_141 : decode cX6_digest 141 = .ok (.i2l, 1) := by decide +kernel
theorem dX6_digest_142 : decode cX6_digest 142 = .ok (.invokestatic 294, 3) := by decide +kernel
theorem dX6_digest_145 : decode cX6_digest 145 = .ok (.lstore_n 1, 1) := by decide +kernel
theorem dX6_digest_146 : decode cX6_digest 146 = .ok (.lload_n 1, 1) := by decide +kernel
theorem dX6_digest_147 : decode cX6_digest 147 = .ok (.aload_n 0, 1) := by decide +kernel
theorem dX6_digest_148 : decode cX6_digest 148 = .ok (.aload_n 0, 1) := by decide +kernel
theorem dX6_digest_149 : decode cX6_digest 149 = .ok (.getfield 249, 3) := by decide +kernel
theorem dX6_digest_152 : decode cX6_digest 152 = .ok (.invokevirtual 280, 3) := by decide +kernel
theorem dX6_digest_155 : decode cX6_digest 155 = .ok (.i2l, 1) := by decide +kernel
theorem dX6_digest_156 : decode cX6_digest 156 = .ok (.invokestatic 294, 3) := by decide +kernel
theorem dX6_digest_159 : decode cX6_digest 159 = .ok (.lstore_n 1, 1) := by decide +kernel
theorem dX6_digest_160 : decode cX6_digest 160 = .ok (.lload_n 1, 1) := by decide +kernel
theorem dX6_digest_161 : decode cX6_digest 161 = .ok (.aload_n 0, 1) := by decide +kernel
theorem dX6_digest_162 : decode cX6_digest 162 = .ok (.aload_n 0, 1) := by decide +kernel
theorem dX6_digest_163 : decode cX6_digest 163 = .ok (.getfield 249, 3) := by decide +kernel
theorem dX6_digest_166 : decode cX6_digest 166 = .ok (.invokevirtual 283, 3) := by decide +kernel
theorem dX6_digest_169 : decode cX6_digest 169 = .ok (.i2l, 1) := by decide +kernel
theorem dX6_digest_170 : decode cX6_digest 170 = .ok (.invokestatic 294, 3) := by decide +kernel
theorem dX6_digest_173 : decode cX6_digest 173 = .ok (.lstore_n 1, 1) := by decide +kernel
theorem dX6_digest_174 : decode cX6_digest 174 = .ok (.lload_n 1, 1) := by decide +kernel
theorem dX6_digest_175 : decode cX6_digest 175 = .ok (.aload_n 0, 1) := by decide +kernel
theorem dX6_digest_176 : decode cX6_digest 176 = .ok (.aload_n 0, 1) := by decide +kernel
theorem dX6_digest_177 : decode cX6_digest 177 = .ok (.getfield 249, 3) := by decide +kernel
theorem dX6_digest_180 : decode cX6_digest 180 = .ok (.invokevirtual 286, 3) := by decide +kernel
theorem dX6_digest_183 : decode cX6_digest 183 = .ok (.i2l, 1) := by decide +kernel
theorem dX6_digest_184 : decode cX6_digest 184 = .ok (.invokestatic 294, 3) := by decide +kernel
theorem dX6_digest_187 : decode cX6_digest 187 = .ok (.lreturn, 1) := by decide +kernel
theorem dX6_forgetWhatNeedsAllDimensions_0 : decode cX6_forgetWhatNeedsAllDimensions 0 = .ok (.aload_n 0, 1) := by decide +kernel
theorem dX6_forgetWhatNeedsAllDimensions_1 : decode cX6_forgetWhatNeedsAllDimensions 1 = .ok (.getfield 18, 3) := by decide +kernel
theorem dX6_forgetWhatNeedsAllDimensions_4 : decode cX6_forgetWhatNeedsAllDimensions 4 = .ok (.iconst 0, 1) := by decide +kernel
theorem dX6_forgetWhatNeedsAllDimensions_5 : decode cX6_forgetWhatNeedsAllDimensions 5 = .ok (.putfield 160, 3) := by decide +kernel
theorem dX6_forgetWhatNeedsAllDimensions_8 : decode cX6_forgetWhatNeedsAllDimensions 8 = .ok (.aload_n 0, 1) := by decide +kernel
theorem dX6_forgetWhatNeedsAllDimensions_9 : decode cX6_forgetWhatNeedsAllDimensions 9 = .ok (.getfield 25, 3) := by decide +kernel
theorem dX6_forgetWhatNeedsAllDimensions_12 : decode cX6_forgetWhatNeedsAllDimensions 12 = .ok (.iconst 0, 1) := by decide +kernel
theorem dX6_forgetWhatNeedsAllDimensions_13 : decode cX6_forgetWhatNeedsAllDimensions 13 = .ok (.putfield 261, 3) := by decide +kernel
theorem dX6_forgetWhatNeedsAllDimensions_16 : decode cX6_forgetWhatNeedsAllDimensions 16 = .ok (.aload_n 0, 1) := by decide +kernel
theorem dX6_forgetWhatNeedsAllDimensions_17 : decode cX6_forgetWhatNeedsAllDimensions 17 = .ok (.iconst 0, 1) := by decide +kernel
theorem dX6_forgetWhatNeedsAllDimensions_18 : decode cX6_forgetWhatNeedsAllDimensions 18 = .ok (.putfield 222, 3) := by decide +kernel
theorem dX6_forgetWhatNeedsAllDimensions_21 : decode cX6_forgetWhatNeedsAllDimensions 21 = .ok (.iconst 0, 1) := by decide +kernel
theorem dX6_forgetWhatNeedsAllDimensions_22 : decode cX6_forgetWhatNeedsAllDimensions 22 = .ok (.istore_n 1, 1) := by decide +kernel
theorem dX6_forgetWhatNeedsAllDimensions_23 : decode cX6_forgetWhatNeedsAllDimensions 23 = .ok (.iload_n 1, 1) := by decide +kernel
theorem dX6_forgetWhatNeedsAllDimensions_24 : decode cX6_forgetWhatNeedsAllDimensions 24 = .ok (.aload_n 0, 1) := by decide +kernel
theorem dX6_forgetWhatNeedsAllDimensions_25 : decode cX6_forgetWhatNeedsAllDimensions 25 = .ok (.getfield 66, 3) := by decide +kernel
theorem dX6_forgetWhatNeedsAllDimensions_28 : decode cX6_forgetWhatNeedsAllDimensions 28 = .ok (.if_icmp .ge 18, 3) := by decide +kernel
theorem dX6_forgetWhatNeedsAllDimensions_31 : decode cX6_forgetWhatNeedsAllDimensions 31 = .ok (.aload_n 0, 1) := by decide +kernel
theorem dX6_forgetWhatNeedsAllDimensions_32 : decode cX6_forgetWhatNeedsAllDimensions 32 = .ok (.getfield 11, 3) := by decide +kernel
theorem dX6_forgetWhatNeedsAllDimensions_35 : decode cX6_forgetWhatNeedsAllDimensions 35 = .ok (.iload_n 1, 1) := by decide +kernel
theorem dX6_forgetWhatNeedsAllDimensions_36 : decode cX6_forgetWhatNeedsAllDimensions 36 = .ok (.aaload, 1) := by decide +kernel
theorem dX6_forgetWhatNeedsAllDimensions_37 : decode cX6_forgetWhatNeedsAllDimensions 37 = .ok (.invokevirtual 327, 3) := by decide +kernel
theorem dX6_forgetWhatNeedsAllDimensions_40 : decode cX6_forgetWhatNeedsAllDimensions 40 = .ok (.iinc 1 1, 3) := by decide +kernel
theorem dX6_forgetWhatNeedsAllDimensions_43 : decode cX6_forgetWhatNeedsAllDimensions 43 = .ok (.goto (-20), 3) := by decide +kernel
theorem dX6_forgetWhatNeedsAllDimensions_46 : decode cX6_forgetWhatNeedsAllDimensions 46 = .ok (.return_, 1) := by decide +kernel
/-! by program: wip/whole/gen.py out of wip/whole/src/19.digest.eb -/
/-! EbbTable: the checksum; what is forgotten -/
set_option maxRecDepth 100000 in
set_option maxHeartbeats 8000000 in
theorem c_X6_mixViews {l : Launch} {D : va_G} {cys : Nat → ClassId} {ad : Nat → Int → Nat} {L : List Nat} {g : Nat → va_E} {X : Int64} {Z : ZT} (hi : injA ad) {S : ZT} {x : Int64} (hS : SP S Z) (hW : WF S) : CM l D cys ad yX6_mixViews cX6_mixViews 6 (some .long) 1 23 0 0 [.ref (ad 0 0), .long x] L g X Z (PJ L g X Z (fun r => r = DV S x)) := by
  refine cm_start hi (by decide +kernel) (Nat.le_of_ble_eq_true rfl) ?_
  intro p_ e_ s_ m_ args_ below_ meth_ c_ A_ Q_ hQ G hr hin
  have hv := hW.v
  have e11 : Z 11 = S 11 := hS.1 11 rfl
  have e113 : Z 11 0 3 = S 11 0 3 := by rw [e11]
  have e13 : Z 13 = S 13 := hS.1 13 rfl
  have e14 : Z 14 = S 14 := hS.1 14 rfl
  have loop : ∀ (n : Nat) (a : Int) (y : Int64), 0 ≤ a → a ≤ S 11 0 3 → (S 11 0 3 - a).toNat = n → y = dvF S (mI x (S 11 0 3)) a.toNat → JJ p_ l e_ { frames := 1, cells := 0, slots := 0, locals := 23 } s_ m_ args_ below_ meth_ c_ D cys ad A_ Q_ 6 0 0 L g X Z 16 [(0, .ref (ad 0 0)), (1, .long x), (3, .long y), (5, .int (iI a))] [] := by
    intro n
    induction n with
    | zero =>
      intro a y h0 h1 h2 h3
      have ea : a = S 11 0 3 := by omega
      subst ea
      refine j_iload G dX6_mixViews_16 rfl ?_
      refine j_aload_n G dX6_mixViews_18 rfl ?_
      refine gf_0_2 G dX6_mixViews_19 lf6_25 (by first | assumption | decide) ?_
      refine gf_11_3 G dX6_mixViews_22 lf6_261 (by first | assumption | decide) ?_
      refine j_icmp_ge G 73 dX6_mixViews_25 (by decide) (by omega) (by omega) (fun c25 => ?_) (fun c25 => ?_)
      · refine j_lload_n G dX6_mixViews_73 rfl ?_
        refine jr_J G hQ hr dX6_mixViews_74 (by decide) (by decide) ?_
        exact h3
      · exfalso; omega
    | succ n ih =>
      intro a y h0 h1 h2 h3
      have hst := hW.st h0 (by omega)
      have e14a : Z 14 0 a = S 14 0 a := by rw [e14]
      have hst : Z 14 0 a = 0 ∨ Z 14 0 a = 1 := by omega
      refine j_iload G dX6_mixViews_16 rfl ?_
      refine j_aload_n G dX6_mixViews_18 rfl ?_
      refine gf_0_2 G dX6_mixViews_19 lf6_25 (by first | assumption | decide) ?_
      refine gf_11_3 G dX6_mixViews_22 lf6_261 (by first | assumption | decide) ?_
      refine j_icmp_ge G 73 dX6_mixViews_25 (by decide) (by omega) (by omega) (fun c25 => ?_) (fun c25 => ?_)
      · exfalso; omega
      · refine j_lload_n G dX6_mixViews_28 rfl ?_
        refine j_aload_n G dX6_mixViews_29 rfl ?_
        refine gf_0_2 G dX6_mixViews_30 lf6_25 (by first | assumption | decide) ?_
        refine gf_11_1 G dX6_mixViews_33 lf6_274 (by first | assumption | decide) ?_
        refine j_iload G dX6_mixViews_36 rfl ?_
        refine al_13 G dX6_mixViews_38 (by first | assumption | decide) (by omega) (by omega) ?_
        refine j_i2l G dX6_mixViews_39 ?_
        refine j_cSJ G csX6_mix ml6_294 rfl (c_X6_mix hi ) dX6_mixViews_40 ⟨by decide, by decide⟩ ⟨by decide, by decide⟩ rfl rfl (Nat.le_of_ble_eq_true rfl) (fun r40 h40 => ?_)
        refine j_lstore_n G dX6_mixViews_43 (by decide) rfl ?_
        refine j_lload_n G dX6_mixViews_44 rfl ?_
        refine j_aload_n G dX6_mixViews_45 rfl ?_
        refine gf_0_2 G dX6_mixViews_46 lf6_25 (by first | assumption | decide) ?_
        refine gf_11_2 G dX6_mixViews_49 lf6_277 (by first | assumption | decide) ?_
        refine j_iload G dX6_mixViews_52 rfl ?_
        refine al_14 G dX6_mixViews_54 (by first | assumption | decide) (by omega) (by omega) ?_
        refine j_if_eq G 62 dX6_mixViews_55 (by decide) (by omega) (fun c55 => ?_) (fun c55 => ?_)
        · refine j_lconst G dX6_mixViews_62 rfl ?_
          refine j_cSJ G csX6_mix ml6_294 rfl (c_X6_mix hi ) dX6_mixViews_63 ⟨by decide, by decide⟩ ⟨by decide, by decide⟩ rfl rfl (Nat.le_of_ble_eq_true rfl) (fun r63 h63 => ?_)
          refine j_lstore_n G dX6_mixViews_66 (by decide) rfl ?_
          refine j_iinc G dX6_mixViews_67 rfl (by decide) rfl ?_
          refine j_goto G 16 dX6_mixViews_70 (by decide) ?_
          refine ih (a + 1) _ (by omega) (by omega) (by omega) ?_
          rw [nat_s (dvF S (mI x (S 11 0 3))) h0]
          show _ = mI (mI (dvF S _ a.toNat) (S 13 0 (a.toNat : Int))) (S 14 0 (a.toNat : Int))
          rw [Int.toNat_of_nonneg h0, ← h3, h63, h40, e13, ← e14]
          first
          | (rw [show Z 14 0 a = 0 by omega]; rfl)
          | (rw [show Z 14 0 a = 1 by omega]; rfl)
        · refine j_lconst G dX6_mixViews_58 rfl ?_
          refine j_goto G 63 dX6_mixViews_59 (by decide) ?_
          refine j_cSJ G csX6_mix ml6_294 rfl (c_X6_mix hi ) dX6_mixViews_63 ⟨by decide, by decide⟩ ⟨by decide, by decide⟩ rfl rfl (Nat.le_of_ble_eq_true rfl) (fun r63 h63 => ?_)
          refine j_lstore_n G dX6_mixViews_66 (by decide) rfl ?_
          refine j_iinc G dX6_mixViews_67 rfl (by decide) rfl ?_
          refine j_goto G 16 dX6_mixViews_70 (by decide) ?_
          refine ih (a + 1) _ (by omega) (by omega) (by omega) ?_
          rw [nat_s (dvF S (mI x (S 11 0 3))) h0]
          show _ = mI (mI (dvF S _ a.toNat) (S 13 0 (a.toNat : Int))) (S 14 0 (a.toNat : Int))
          rw [Int.toNat_of_nonneg h0, ← h3, h63, h40, e13, ← e14]
          first
          | (rw [show Z 14 0 a = 0 by omega]; rfl)
          | (rw [show Z 14 0 a = 1 by omega]; rfl)
  refine j_lload_n G dX6_mixViews_0 rfl ?_
  refine j_aload_n G dX6_mixViews_1 rfl ?_
  refine gf_0_2 G dX6_mixViews_2 lf6_25 (by first | assumption | decide) ?_
  refine gf_11_3 G dX6_mixViews_5 lf6_261 (by first | assumption | decide) ?_
  refine j_i2l G dX6_mixViews_8 ?_
  refine j_cSJ G csX6_mix ml6_294 rfl (c_X6_mix hi ) dX6_mixViews_9 ⟨by decide, by decide⟩ ⟨by decide, by decide⟩ rfl rfl (Nat.le_of_ble_eq_true rfl) (fun r9 h9 => ?_)
  refine j_lstore_n G dX6_mixViews_12 (by decide) rfl ?_
  refine j_iconst G dX6_mixViews_13 ?_
  refine j_istore G dX6_mixViews_14 (by decide) rfl ?_
  refine loop _ 0 _ (by omega) (by omega) rfl ?_
  rw [h9, e11]
  rfl
set_option maxRecDepth 100000 in
set_option maxHeartbeats 8000000 in
theorem c_X6_mixTable {l : Launch} {D : va_G} {cys : Nat → ClassId} {ad : Nat → Int → Nat} {L : List Nat} {g : Nat → va_E} {X : Int64} {Z : ZT} (hi : injA ad) {S : ZT} {x : Int64} (hS : SP S Z) (hW : WF S) (ha : S 0 0 7 = 1) : CM l D cys ad yX6_mixTable cX6_mixTable 7 (some .long) 5 116 0 0 [.ref (ad 0 0), .long x] L g X Z (PJZ L g X Z (fun r Z' => r = DTB S x ∧ SP S Z')) := by
  refine cm_start hi (by decide +kernel) (Nat.le_of_ble_eq_true rfl) ?_
  intro p_ e_ s_ m_ args_ below_ meth_ c_ A_ Q_ hQ G hr hin
  have ha0 := allL_ok hW ha (i := 0) (by omega) (by omega)
  have ha1 := allL_ok hW ha (i := 1) (by omega) (by omega)
  have hl0 : (LN S 0).length ≤ (allL S 0).length := by unfold LN; exact List.length_filter_le _ _
  have hl1 : (LN S 1).length ≤ (allL S 1).length := by unfold LN; exact List.length_filter_le _ _
  refine j_aload_n G dX6_mixTable_0 rfl ?_
  refine j_cVVZ G cvX6_layTable ml6_226 (c_X6_layTable hi hS hW ha) dX6_mixTable_1 ⟨by decide, by decide⟩ ⟨by decide, by decide⟩ rfl rfl (Nat.le_of_ble_eq_true rfl) (by first | assumption | decide) rfl rfl rfl (fun Z1 h1 => ?_)
  have hT := h1
  obtain ⟨hSt, hI, hC⟩ := h1
  have i0 := hI 0 (by omega) (by omega)
  have i1 := hI 1 (by omega) (by omega)
  have s0 := i0.2.1
  have s1 := i1.2.1
  have b0 : 0 ≤ Z1 15 0 3 ∧ Z1 15 0 3 ≤ 24 := by omega
  have b1 : 0 ≤ Z1 15 1 3 ∧ Z1 15 1 3 ≤ 24 := by omega
  have v0 : ∀ j, 0 ≤ j → j < Z1 15 0 3 → 0 ≤ Z1 19 0 j ∧ Z1 19 0 j < 24 := fun j j0 j1 => by have := i0.2.2 j j0 j1; omega
  have v1 : ∀ j, 0 ≤ j → j < Z1 15 1 3 → 0 ≤ Z1 19 1 j ∧ Z1 19 1 j < 24 := fun j j0 j1 => by have := i1.2.2 j j0 j1; omega
  refine j_lload_n G dX6_mixTable_4 rfl ?_
  refine j_aload_n G dX6_mixTable_5 rfl ?_
  refine gf_0_3 G dX6_mixTable_6 lf6_32 (by first | assumption | decide) ?_
  refine gf_15_3 G dX6_mixTable_9 lf6_229 (by first | assumption | decide) ?_
  refine j_i2l G dX6_mixTable_12 ?_
  refine j_cSJ G csX6_mix ml6_294 rfl (c_X6_mix hi ) dX6_mixTable_13 ⟨by decide, by decide⟩ ⟨by decide, by decide⟩ rfl rfl (Nat.le_of_ble_eq_true rfl) (fun r13 h13 => ?_)
  refine j_lstore_n G dX6_mixTable_16 (by decide) rfl ?_
  refine j_lload_n G dX6_mixTable_17 rfl ?_
  refine j_aload_n G dX6_mixTable_18 rfl ?_
  refine gf_0_4 G dX6_mixTable_19 lf6_36 (by first | assumption | decide) ?_
  refine gf_15_3 G dX6_mixTable_22 lf6_229 (by first | assumption | decide) ?_
  refine j_i2l G dX6_mixTable_25 ?_
  refine j_cSJ G csX6_mix ml6_294 rfl (c_X6_mix hi ) dX6_mixTable_26 ⟨by decide, by decide⟩ ⟨by decide, by decide⟩ rfl rfl (Nat.le_of_ble_eq_true rfl) (fun r26 h26 => ?_)
  refine j_lstore_n G dX6_mixTable_29 (by decide) rfl ?_
  refine j_iconst G dX6_mixTable_30 ?_
  refine j_istore G dX6_mixTable_31 (by decide) rfl ?_
  have loop3 : ∀ (n : Nat) (a : Int) (y : Int64), 0 ≤ a → a ≤ (LN S 0).length → ((LN S 0).length - a).toNat = n → y = rtF S (LN S 0) (LN S 1) (ltF (LN S 1) (ltF (LN S 0) (mI (mI x (LN S 0).length) (LN S 1).length) (LN S 0).length) (LN S 1).length) a.toNat → JJ p_ l e_ { frames := 5, cells := 0, slots := 0, locals := 116 } s_ m_ args_ below_ meth_ c_ D cys ad A_ Q_ 7 0 0 L g X Z1 105 [(0, .ref (ad 0 0)), (1, .long x), (3, .long y), (5, .int (iI a))] [] := by
    intro n
    induction n with
    | zero =>
      intro a y h0 h1 h2 h3
      have ea : a = (LN S 0).length := by omega
      subst ea
      refine j_iload G dX6_mixTable_105 rfl ?_
      refine j_aload_n G dX6_mixTable_107 rfl ?_
      refine gf_0_3 G dX6_mixTable_108 lf6_32 (by first | assumption | decide) ?_
      refine gf_15_3 G dX6_mixTable_111 lf6_229 (by first | assumption | decide) ?_
      refine j_icmp_ge G 158 dX6_mixTable_114 (by decide) (by omega) (by omega) (fun c114 => ?_) (fun c114 => ?_)
      · refine j_lload_n G dX6_mixTable_158 rfl ?_
        refine jr_JZ G hQ hr dX6_mixTable_159 (by decide) (by decide) ?_
        exact ⟨h3, hSt⟩
      · exfalso; omega
    | succ n ih =>
      intro a y h0 h1 h2 h3
      have haq : 0 ≤ a ∧ a < (LN S 0).length := by omega
      refine j_iload G dX6_mixTable_105 rfl ?_
      refine j_aload_n G dX6_mixTable_107 rfl ?_
      refine gf_0_3 G dX6_mixTable_108 lf6_32 (by first | assumption | decide) ?_
      refine gf_15_3 G dX6_mixTable_111 lf6_229 (by first | assumption | decide) ?_
      refine j_icmp_ge G 158 dX6_mixTable_114 (by decide) (by omega) (by omega) (fun c114 => ?_) (fun c114 => ?_)
      · exfalso; omega
      · refine j_iconst G dX6_mixTable_117 ?_
        refine j_istore G dX6_mixTable_118 (by decide) rfl ?_
        have inner : ∀ (n : Nat) (b : Int) (z : Int64), 0 ≤ b → b ≤ (LN S 1).length → ((LN S 1).length - b).toNat = n → z = ctF S ((LN S 0).getD a.toNat 0) (LN S 1) y b.toNat → JJ p_ l e_ { frames := 5, cells := 0, slots := 0, locals := 116 } s_ m_ args_ below_ meth_ c_ D cys ad A_ Q_ 7 0 0 L g X Z1 120 [(0, .ref (ad 0 0)), (1, .long x), (3, .long z), (5, .int (iI a)), (6, .int (iI b))] [] := by
          intro n2
          induction n2 with
          | zero =>
            intro b z g0 g1 g2 g3
            have eb : b = (LN S 1).length := by omega
            subst eb
            refine j_iload G dX6_mixTable_120 rfl ?_
            refine j_aload_n G dX6_mixTable_122 rfl ?_
            refine gf_0_4 G dX6_mixTable_123 lf6_36 (by first | assumption | decide) ?_
            refine gf_15_3 G dX6_mixTable_126 lf6_229 (by first | assumption | decide) ?_
            refine j_icmp_ge G 152 dX6_mixTable_129 (by decide) (by omega) (by omega) (fun c129 => ?_) (fun c129 => ?_)
            · refine j_iinc G dX6_mixTable_152 rfl (by decide) rfl ?_
              refine j_goto G 105 dX6_mixTable_155 (by decide) ?_
              refine j_keep [0, 1, 3, 5] ?_
              refine ih (a + 1) z (by omega) (by omega) (by omega) ?_
              rw [nat_s (rtF S (LN S 0) (LN S 1) _) h0]
              show _ = ctF S ((LN S 0).getD a.toNat 0) (LN S 1) (rtF S (LN S 0) (LN S 1) _ a.toNat) (LN S 1).length
              rw [← h3, g3]
              rfl
            · exfalso; omega
          | succ n2 ih2 =>
            intro b z g0 g1 g2 g3
            have hbq : 0 ≤ b ∧ b < (LN S 1).length := by omega
            refine j_iload G dX6_mixTable_120 rfl ?_
            refine j_aload_n G dX6_mixTable_122 rfl ?_
            refine gf_0_4 G dX6_mixTable_123 lf6_36 (by first | assumption | decide) ?_
            refine gf_15_3 G dX6_mixTable_126 lf6_229 (by first | assumption | decide) ?_
            refine j_icmp_ge G 152 dX6_mixTable_129 (by decide) (by omega) (by omega) (fun c129 => ?_) (fun c129 => ?_)
            · exfalso; omega
            · refine j_lload_n G dX6_mixTable_132 rfl ?_
              refine j_aload_n G dX6_mixTable_133 rfl ?_
              refine j_iload G dX6_mixTable_134 rfl ?_
              refine j_iload G dX6_mixTable_136 rfl ?_
              refine j_cVI G cvX6_cellOfLines ml6_245 (c_X6_cellOfLines hi hT hW ha haq hbq) dX6_mixTable_138 ⟨by decide, by decide⟩ ⟨by decide, by decide⟩ rfl rfl (Nat.le_of_ble_eq_true rfl) (by first | assumption | decide) rfl rfl rfl (fun r138 h138 => ?_)
              refine j_i2l G dX6_mixTable_141 ?_
              refine j_cSJ G csX6_mix ml6_294 rfl (c_X6_mix hi ) dX6_mixTable_142 ⟨by decide, by decide⟩ ⟨by decide, by decide⟩ rfl rfl (Nat.le_of_ble_eq_true rfl) (fun r142 h142 => ?_)
              refine j_lstore_n G dX6_mixTable_145 (by decide) rfl ?_
              refine j_iinc G dX6_mixTable_146 rfl (by decide) rfl ?_
              refine j_goto G 120 dX6_mixTable_149 (by decide) ?_
              refine ih2 (b + 1) _ (by omega) (by omega) (by omega) ?_
              rw [nat_s (ctF S ((LN S 0).getD a.toNat 0) (LN S 1) y) g0]
              show _ = mI (ctF S _ (LN S 1) y b.toNat) (tsum S _ ((LN S 1).getD b.toNat 0))
              rw [← g3, h142, h138]
              rfl
        exact inner _ 0 y (by omega) (by omega) rfl rfl
  have loop2 : ∀ (n : Nat) (a : Int) (y : Int64), 0 ≤ a → a ≤ (LN S 1).length → ((LN S 1).length - a).toNat = n → y = ltF (LN S 1) (ltF (LN S 0) (mI (mI x (LN S 0).length) (LN S 1).length) (LN S 0).length) a.toNat → JJ p_ l e_ { frames := 5, cells := 0, slots := 0, locals := 116 } s_ m_ args_ below_ meth_ c_ D cys ad A_ Q_ 7 0 0 L g X Z1 69 [(0, .ref (ad 0 0)), (1, .long x), (3, .long y), (5, .int (iI a))] [] := by
    intro n
    induction n with
    | zero =>
      intro a y h0 h1 h2 h3
      have ea : a = (LN S 1).length := by omega
      subst ea
      refine j_iload G dX6_mixTable_69 rfl ?_
      refine j_aload_n G dX6_mixTable_71 rfl ?_
      refine gf_0_4 G dX6_mixTable_72 lf6_36 (by first | assumption | decide) ?_
      refine gf_15_3 G dX6_mixTable_75 lf6_229 (by first | assumption | decide) ?_
      refine j_icmp_ge G 102 dX6_mixTable_78 (by decide) (by omega) (by omega) (fun c78 => ?_) (fun c78 => ?_)
      · refine j_iconst G dX6_mixTable_102 ?_
        refine j_istore G dX6_mixTable_103 (by decide) rfl ?_
        exact loop3 _ 0 y (by omega) (by omega) rfl h3
      · exfalso; omega
    | succ n ih =>
      intro a y h0 h1 h2 h3
      have hia : inR a := by omega
      refine j_iload G dX6_mixTable_69 rfl ?_
      refine j_aload_n G dX6_mixTable_71 rfl ?_
      refine gf_0_4 G dX6_mixTable_72 lf6_36 (by first | assumption | decide) ?_
      refine gf_15_3 G dX6_mixTable_75 lf6_229 (by first | assumption | decide) ?_
      refine j_icmp_ge G 102 dX6_mixTable_78 (by decide) (by omega) (by omega) (fun c78 => ?_) (fun c78 => ?_)
      · exfalso; omega
      · refine j_lload_n G dX6_mixTable_81 rfl ?_
        refine j_aload_n G dX6_mixTable_82 rfl ?_
        refine gf_0_4 G dX6_mixTable_83 lf6_36 (by first | assumption | decide) ?_
        refine j_iload G dX6_mixTable_86 rfl ?_
        refine j_cVI G cvX0_memberOfLine ml6_242 (c_X0_memberOfLine hi (by decide) (by decide) hia b1 v1) dX6_mixTable_88 ⟨by decide, by decide⟩ ⟨by decide, by decide⟩ rfl rfl (Nat.le_of_ble_eq_true rfl) (by first | assumption | decide) rfl rfl rfl (fun r88 h88 => ?_)
        refine j_i2l G dX6_mixTable_91 ?_
        refine j_cSJ G csX6_mix ml6_294 rfl (c_X6_mix hi ) dX6_mixTable_92 ⟨by decide, by decide⟩ ⟨by decide, by decide⟩ rfl rfl (Nat.le_of_ble_eq_true rfl) (fun r92 h92 => ?_)
        refine j_lstore_n G dX6_mixTable_95 (by decide) rfl ?_
        refine j_iinc G dX6_mixTable_96 rfl (by decide) rfl ?_
        refine j_goto G 69 dX6_mixTable_99 (by decide) ?_
        refine ih (a + 1) _ (by omega) (by omega) (by omega) ?_
        rw [nat_s (ltF (LN S 1) _) h0]
        show _ = mI (ltF (LN S 1) _ a.toNat) ((LN S 1).getD a.toNat 0)
        have hx : r88 = (LN S 1).getD a.toNat 0 := by
          rcases h88 with q | q
          · have w := i1.2.2 a h0 (by omega)
            rw [q.2.2, w.2.2, (i1.1.at w.1 w.2.1).2.2]
          · exact absurd ⟨h0, by omega⟩ q.1
        rw [← h3, h92, hx]
        rfl
  have loop1 : ∀ (n : Nat) (a : Int) (y : Int64), 0 ≤ a → a ≤ (LN S 0).length → ((LN S 0).length - a).toNat = n → y = ltF (LN S 0) (mI (mI x (LN S 0).length) (LN S 1).length) a.toNat → JJ p_ l e_ { frames := 5, cells := 0, slots := 0, locals := 116 } s_ m_ args_ below_ meth_ c_ D cys ad A_ Q_ 7 0 0 L g X Z1 33 [(0, .ref (ad 0 0)), (1, .long x), (3, .long y), (5, .int (iI a))] [] := by
    intro n
    induction n with
    | zero =>
      intro a y h0 h1 h2 h3
      have ea : a = (LN S 0).length := by omega
      subst ea
      refine j_iload G dX6_mixTable_33 rfl ?_
      refine j_aload_n G dX6_mixTable_35 rfl ?_
      refine gf_0_3 G dX6_mixTable_36 lf6_32 (by first | assumption | decide) ?_
      refine gf_15_3 G dX6_mixTable_39 lf6_229 (by first | assumption | decide) ?_
      refine j_icmp_ge G 66 dX6_mixTable_42 (by decide) (by omega) (by omega) (fun c42 => ?_) (fun c42 => ?_)
      · refine j_iconst G dX6_mixTable_66 ?_
        refine j_istore G dX6_mixTable_67 (by decide) rfl ?_
        exact loop2 _ 0 y (by omega) (by omega) rfl h3
      · exfalso; omega
    | succ n ih =>
      intro a y h0 h1 h2 h3
      have hia : inR a := by omega
      refine j_iload G dX6_mixTable_33 rfl ?_
      refine j_aload_n G dX6_mixTable_35 rfl ?_
      refine gf_0_3 G dX6_mixTable_36 lf6_32 (by first | assumption | decide) ?_
      refine gf_15_3 G dX6_mixTable_39 lf6_229 (by first | assumption | decide) ?_
      refine j_icmp_ge G 66 dX6_mixTable_42 (by decide) (by omega) (by omega) (fun c42 => ?_) (fun c42 => ?_)
      · exfalso; omega
      · refine j_lload_n G dX6_mixTable_45 rfl ?_
        refine j_aload_n G dX6_mixTable_46 rfl ?_
        refine gf_0_3 G dX6_mixTable_47 lf6_32 (by first | assumption | decide) ?_
        refine j_iload G dX6_mixTable_50 rfl ?_
        refine j_cVI G cvX0_memberOfLine ml6_242 (c_X0_memberOfLine hi (by decide) (by decide) hia b0 v0) dX6_mixTable_52 ⟨by decide, by decide⟩ ⟨by decide, by decide⟩ rfl rfl (Nat.le_of_ble_eq_true rfl) (by first | assumption | decide) rfl rfl rfl (fun r52 h52 => ?_)
        refine j_i2l G dX6_mixTable_55 ?_
        refine j_cSJ G csX6_mix ml6_294 rfl (c_X6_mix hi ) dX6_mixTable_56 ⟨by decide, by decide⟩ ⟨by decide, by decide⟩ rfl rfl (Nat.le_of_ble_eq_true rfl) (fun r56 h56 => ?_)
        refine j_lstore_n G dX6_mixTable_59 (by decide) rfl ?_
        refine j_iinc G dX6_mixTable_60 rfl (by decide) rfl ?_
        refine j_goto G 33 dX6_mixTable_63 (by decide) ?_
        refine ih (a + 1) _ (by omega) (by omega) (by omega) ?_
        rw [nat_s (ltF (LN S 0) _) h0]
        show _ = mI (ltF (LN S 0) _ a.toNat) ((LN S 0).getD a.toNat 0)
        have hx : r52 = (LN S 0).getD a.toNat 0 := by
          rcases h52 with q | q
          · have w := i0.2.2 a h0 (by omega)
            rw [q.2.2, w.2.2, (i0.1.at w.1 w.2.1).2.2]
          · exact absurd ⟨h0, by omega⟩ q.1
        rw [← h3, h56, hx]
        rfl
  refine loop1 _ 0 _ (by omega) (by omega) rfl ?_
  rw [h26, h13, s0, s1]
  rfl
set_option maxRecDepth 100000 in
set_option maxHeartbeats 8000000 in
theorem c_X6_digest {l : Launch} {D : va_G} {cys : Nat → ClassId} {ad : Nat → Int → Nat} {L : List Nat} {g : Nat → va_E} {X : Int64} {Z : ZT} (hi : injA ad) {S : ZT} (hS : SP S Z) (hW : WF S) : CM l D cys ad yX6_digest cX6_digest 4 (some .long) 6 142 0 0 [.ref (ad 0 0)] L g X Z (PJZ L g X Z (fun r Z' => r = DIG S ∧ SP S Z')) := by
  refine cm_start hi (by decide +kernel) (Nat.le_of_ble_eq_true rfl) ?_
  intro p_ e_ s_ m_ args_ below_ meth_ c_ A_ Q_ hQ G hr hin
  have hn := hW.n
  have hf := hW.f
  have hax := hW.ax
  have e0 : ∀ Y, SP S Y → Y 0 0 5 = S 0 0 5 := fun Y h => by rw [h.1 0 rfl]
  have e7 : ∀ Y, SP S Y → Y 0 0 7 = S 0 0 7 := fun Y h => by rw [h.1 0 rfl]
  have e6 : ∀ Y, SP S Y → Y 0 0 6 = S 0 0 6 := fun Y h => by rw [h.1 0 rfl]
  have e05 := e0 Z hS
  have e63 : Z 6 0 3 = S 6 0 3 := by rw [hS.1 6 rfl]
  have hl := hW.lv
  have hq : 0 ≤ S 0 0 6 ∧ S 0 0 6 < 256 := ⟨hl.1, hl.2.1⟩
  have loop2 : ∀ (n : Nat) (a : Int) (y b : Int64) (Y : ZT), 0 ≤ a → a ≤ S 0 0 5 → (S 0 0 5 - a).toNat = n → SP S Y → b = mI (mI (mI (mI (mI (ddF (DT S) (mI 2539 (S 0 0 5)) (S 0 0 5).toNat) (S 6 0 3)) (CNT S)) (SUM S)) (LEAST S)) (GREAT S) → y = ddF (DL S) b a.toNat → JJ p_ l e_ { frames := 6, cells := 0, slots := 0, locals := 142 } s_ m_ args_ below_ meth_ c_ D cys ad A_ Q_ 4 0 0 L g X Y 92 [(0, .ref (ad 0 0)), (1, .long y), (3, .int (iI a))] [] := by
    intro n
    induction n with
    | zero =>
      intro a y b Y h0 h1 h2 h3 h4 h5
      have ea : a = S 0 0 5 := by omega
      subst ea
      have e05 := e0 Y h3
      have e07 := e7 Y h3
      have e06 := e6 Y h3
      have fin : ∀ (V : ZT) (t : Int64), SP S V → t = (if S 0 0 7 = 1 then DTB S y else y) → JJ p_ l e_ { frames := 6, cells := 0, slots := 0, locals := 142 } s_ m_ args_ below_ meth_ c_ D cys ad A_ Q_ 4 0 0 L g X V 126 [(0, .ref (ad 0 0)), (1, .long t), (3, .int (iI (S 0 0 5)))] [] := by
        intro V t hV ht
        have e06 := e6 V hV
        refine j_aload_n G dX6_digest_126 rfl ?_
        refine j_lload_n G dX6_digest_127 rfl ?_
        refine j_cVJ G cvX6_mixViews ml6_315 (c_X6_mixViews hi hV hW) dX6_digest_128 ⟨by decide, by decide⟩ ⟨by decide, by decide⟩ rfl rfl (Nat.le_of_ble_eq_true rfl) (by first | assumption | decide) rfl rfl rfl (fun r128 h128 => ?_)
        refine j_lstore_n G dX6_digest_131 (by decide) rfl ?_
        refine j_lload_n G dX6_digest_132 rfl ?_
        refine j_aload_n G dX6_digest_133 rfl ?_
        refine j_aload_n G dX6_digest_134 rfl ?_
        refine gf_0_6 G dX6_digest_135 lf6_249 (by first | assumption | decide) ?_
        rw [e06]
        refine j_cVIZ G cvX6_cellsOf ml6_258 (c_X6_cellsOf hi hV hW hq) dX6_digest_138 ⟨by decide, by decide⟩ ⟨by decide, by decide⟩ rfl rfl (Nat.le_of_ble_eq_true rfl) (by first | assumption | decide) rfl rfl rfl (fun r138 Z138 h138 => ?_)
        have e06b := e6 Z138 h138.2
        refine j_i2l G dX6_digest_141 ?_
        refine j_cSJ G csX6_mix ml6_294 rfl (c_X6_mix hi ) dX6_digest_142 ⟨by decide, by decide⟩ ⟨by decide, by decide⟩ rfl rfl (Nat.le_of_ble_eq_true rfl) (fun r142 h142 => ?_)
        refine j_lstore_n G dX6_digest_145 (by decide) rfl ?_
        refine j_lload_n G dX6_digest_146 rfl ?_
        refine j_aload_n G dX6_digest_147 rfl ?_
        refine j_aload_n G dX6_digest_148 rfl ?_
        refine gf_0_6 G dX6_digest_149 lf6_249 (by first | assumption | decide) ?_
        rw [e06b]
        refine j_cVI G cvX6_costOf ml6_280 (c_X6_costOf hi h138.2 hW hq) dX6_digest_152 ⟨by decide, by decide⟩ ⟨by decide, by decide⟩ rfl rfl (Nat.le_of_ble_eq_true rfl) (by first | assumption | decide) rfl rfl rfl (fun r152 h152 => ?_)
        refine j_i2l G dX6_digest_155 ?_
        refine j_cSJ G csX6_mix ml6_294 rfl (c_X6_mix hi ) dX6_digest_156 ⟨by decide, by decide⟩ ⟨by decide, by decide⟩ rfl rfl (Nat.le_of_ble_eq_true rfl) (fun r156 h156 => ?_)
        refine j_lstore_n G dX6_digest_159 (by decide) rfl ?_
        refine j_lload_n G dX6_digest_160 rfl ?_
        refine j_aload_n G dX6_digest_161 rfl ?_
        refine j_aload_n G dX6_digest_162 rfl ?_
        refine gf_0_6 G dX6_digest_163 lf6_249 (by first | assumption | decide) ?_
        rw [e06b]
        refine j_cVI G cvX6_viewFor ml6_283 (c_X6_viewFor hi h138.2 hW hq) dX6_digest_166 ⟨by decide, by decide⟩ ⟨by decide, by decide⟩ rfl rfl (Nat.le_of_ble_eq_true rfl) (by first | assumption | decide) rfl rfl rfl (fun r166 h166 => ?_)
        refine j_i2l G dX6_digest_169 ?_
        refine j_cSJ G csX6_mix ml6_294 rfl (c_X6_mix hi ) dX6_digest_170 ⟨by decide, by decide⟩ ⟨by decide, by decide⟩ rfl rfl (Nat.le_of_ble_eq_true rfl) (fun r170 h170 => ?_)
        refine j_lstore_n G dX6_digest_173 (by decide) rfl ?_
        refine j_lload_n G dX6_digest_174 rfl ?_
        refine j_aload_n G dX6_digest_175 rfl ?_
        refine j_aload_n G dX6_digest_176 rfl ?_
        refine gf_0_6 G dX6_digest_177 lf6_249 (by first | assumption | decide) ?_
        rw [e06b]
        refine j_cVIZ G cvX6_gainOf ml6_286 (c_X6_gainOf hi h138.2 hW hq) dX6_digest_180 ⟨by decide, by decide⟩ ⟨by decide, by decide⟩ rfl rfl (Nat.le_of_ble_eq_true rfl) (by first | assumption | decide) rfl rfl rfl (fun r180 Z180 h180 => ?_)
        refine j_i2l G dX6_digest_183 ?_
        refine j_cSJ G csX6_mix ml6_294 rfl (c_X6_mix hi ) dX6_digest_184 ⟨by decide, by decide⟩ ⟨by decide, by decide⟩ rfl rfl (Nat.le_of_ble_eq_true rfl) (fun r184 h184 => ?_)
        refine jr_JZ G hQ hr dX6_digest_187 (by decide) (by decide) ?_
        refine ⟨?_, h180.2⟩
        rw [h184, h170, h156, h142, h180.1, h166, h152, h138.1, h128, ht, h5, h4]
        rfl
      refine j_iload_n G dX6_digest_92 rfl ?_
      refine j_aload_n G dX6_digest_93 rfl ?_
      refine gf_0_5 G dX6_digest_94 lf6_66 (by first | assumption | decide) ?_
      refine j_icmp_ge G 113 dX6_digest_97 (by decide) (by omega) (by omega) (fun c97 => ?_) (fun c97 => ?_)
      · refine j_aload_n G dX6_digest_113 rfl ?_
        refine gf_0_7 G dX6_digest_114 lf6_222 (by first | assumption | decide) ?_
        refine j_if_eq G 126 dX6_digest_117 (by decide) (by omega) (fun c117 => ?_) (fun c117 => ?_)
        · first
          | (exact fin Z122 _ h122.2 (by rw [h122.1, if_pos (by omega)]))
          | (exact fin Y y h3 (by rw [if_neg (by omega)]))
        · refine j_aload_n G dX6_digest_120 rfl ?_
          refine j_lload_n G dX6_digest_121 rfl ?_
          refine j_cVJZ G cvX6_mixTable ml6_311 (c_X6_mixTable hi h3 hW (by omega)) dX6_digest_122 ⟨by decide, by decide⟩ ⟨by decide, by decide⟩ rfl rfl (Nat.le_of_ble_eq_true rfl) (by first | assumption | decide) rfl rfl rfl (fun r122 Z122 h122 => ?_)
          refine j_lstore_n G dX6_digest_125 (by decide) rfl ?_
          first
          | (exact fin Z122 _ h122.2 (by rw [h122.1, if_pos (by omega)]))
          | (exact fin Y y h3 (by rw [if_neg (by omega)]))
      · exfalso; omega
    | succ n ih =>
      intro a y b Y h0 h1 h2 h3 h4 h5
      have e05 := e0 Y h3
      have had : 0 ≤ a ∧ a < S 0 0 5 := by omega
      refine j_iload_n G dX6_digest_92 rfl ?_
      refine j_aload_n G dX6_digest_93 rfl ?_
      refine gf_0_5 G dX6_digest_94 lf6_66 (by first | assumption | decide) ?_
      refine j_icmp_ge G 113 dX6_digest_97 (by decide) (by omega) (by omega) (fun c97 => ?_) (fun c97 => ?_)
      · exfalso; omega
      · refine j_aload_n G dX6_digest_100 rfl ?_
        refine j_lload_n G dX6_digest_101 rfl ?_
        refine j_iload_n G dX6_digest_102 rfl ?_
        refine j_cVJZ G cvX6_mixLineup ml6_308 (c_X6_mixLineup hi h3 hW had) dX6_digest_103 ⟨by decide, by decide⟩ ⟨by decide, by decide⟩ rfl rfl (Nat.le_of_ble_eq_true rfl) (by first | assumption | decide) rfl rfl rfl (fun r103 Z103 h103 => ?_)
        refine j_lstore_n G dX6_digest_106 (by decide) rfl ?_
        refine j_iinc G dX6_digest_107 rfl (by decide) rfl ?_
        refine j_goto G 92 dX6_digest_110 (by decide) ?_
        refine ih (a + 1) _ b _ (by omega) (by omega) (by omega) h103.2 h4 ?_
        rw [nat_s (ddF (DL S) b) h0]
        show _ = DL S (a.toNat : Int) (ddF (DL S) b a.toNat)
        rw [Int.toNat_of_nonneg h0, ← h5]
        exact h103.1
  have loop1 : ∀ (n : Nat) (a : Int) (y : Int64), 0 ≤ a → a ≤ S 0 0 5 → (S 0 0 5 - a).toNat = n → y = ddF (DT S) (mI 2539 (S 0 0 5)) a.toNat → JJ p_ l e_ { frames := 6, cells := 0, slots := 0, locals := 142 } s_ m_ args_ below_ meth_ c_ D cys ad A_ Q_ 4 0 0 L g X Z 16 [(0, .ref (ad 0 0)), (1, .long y), (3, .int (iI a))] [] := by
    intro n
    induction n with
    | zero =>
      intro a y h0 h1 h2 h3
      have ea : a = S 0 0 5 := by omega
      subst ea
      refine j_iload_n G dX6_digest_16 rfl ?_
      refine j_aload_n G dX6_digest_17 rfl ?_
      refine gf_0_5 G dX6_digest_18 lf6_66 (by first | assumption | decide) ?_
      refine j_icmp_ge G 37 dX6_digest_21 (by decide) (by omega) (by omega) (fun c21 => ?_) (fun c21 => ?_)
      · refine j_lload_n G dX6_digest_37 rfl ?_
        refine j_aload_n G dX6_digest_38 rfl ?_
        refine gf_0_1 G dX6_digest_39 lf6_18 (by first | assumption | decide) ?_
        refine gf_6_3 G dX6_digest_42 lf6_160 (by first | assumption | decide) ?_
        refine j_i2l G dX6_digest_45 ?_
        refine j_cSJ G csX6_mix ml6_294 rfl (c_X6_mix hi ) dX6_digest_46 ⟨by decide, by decide⟩ ⟨by decide, by decide⟩ rfl rfl (Nat.le_of_ble_eq_true rfl) (fun r46 h46 => ?_)
        refine j_lstore_n G dX6_digest_49 (by decide) rfl ?_
        refine j_lload_n G dX6_digest_50 rfl ?_
        refine j_aload_n G dX6_digest_51 rfl ?_
        refine j_cVI G cvX6_count ml6_178 (c_X6_count hi hS hW) dX6_digest_52 ⟨by decide, by decide⟩ ⟨by decide, by decide⟩ rfl rfl (Nat.le_of_ble_eq_true rfl) (by first | assumption | decide) rfl rfl rfl (fun r52 h52 => ?_)
        refine j_i2l G dX6_digest_55 ?_
        refine j_cSJ G csX6_mix ml6_294 rfl (c_X6_mix hi ) dX6_digest_56 ⟨by decide, by decide⟩ ⟨by decide, by decide⟩ rfl rfl (Nat.le_of_ble_eq_true rfl) (fun r56 h56 => ?_)
        refine j_lstore_n G dX6_digest_59 (by decide) rfl ?_
        refine j_lload_n G dX6_digest_60 rfl ?_
        refine j_aload_n G dX6_digest_61 rfl ?_
        refine j_cVI G cvX6_sum ml6_182 (c_X6_sum hi hS hW) dX6_digest_62 ⟨by decide, by decide⟩ ⟨by decide, by decide⟩ rfl rfl (Nat.le_of_ble_eq_true rfl) (by first | assumption | decide) rfl rfl rfl (fun r62 h62 => ?_)
        refine j_i2l G dX6_digest_65 ?_
        refine j_cSJ G csX6_mix ml6_294 rfl (c_X6_mix hi ) dX6_digest_66 ⟨by decide, by decide⟩ ⟨by decide, by decide⟩ rfl rfl (Nat.le_of_ble_eq_true rfl) (fun r66 h66 => ?_)
        refine j_lstore_n G dX6_digest_69 (by decide) rfl ?_
        refine j_lload_n G dX6_digest_70 rfl ?_
        refine j_aload_n G dX6_digest_71 rfl ?_
        refine j_cVI G cvX6_least ml6_302 (c_X6_least hi hS hW) dX6_digest_72 ⟨by decide, by decide⟩ ⟨by decide, by decide⟩ rfl rfl (Nat.le_of_ble_eq_true rfl) (by first | assumption | decide) rfl rfl rfl (fun r72 h72 => ?_)
        refine j_i2l G dX6_digest_75 ?_
        refine j_cSJ G csX6_mix ml6_294 rfl (c_X6_mix hi ) dX6_digest_76 ⟨by decide, by decide⟩ ⟨by decide, by decide⟩ rfl rfl (Nat.le_of_ble_eq_true rfl) (fun r76 h76 => ?_)
        refine j_lstore_n G dX6_digest_79 (by decide) rfl ?_
        refine j_lload_n G dX6_digest_80 rfl ?_
        refine j_aload_n G dX6_digest_81 rfl ?_
        refine j_cVI G cvX6_greatest ml6_305 (c_X6_greatest hi hS hW) dX6_digest_82 ⟨by decide, by decide⟩ ⟨by decide, by decide⟩ rfl rfl (Nat.le_of_ble_eq_true rfl) (by first | assumption | decide) rfl rfl rfl (fun r82 h82 => ?_)
        refine j_i2l G dX6_digest_85 ?_
        refine j_cSJ G csX6_mix ml6_294 rfl (c_X6_mix hi ) dX6_digest_86 ⟨by decide, by decide⟩ ⟨by decide, by decide⟩ rfl rfl (Nat.le_of_ble_eq_true rfl) (fun r86 h86 => ?_)
        refine j_lstore_n G dX6_digest_89 (by decide) rfl ?_
        refine j_iconst G dX6_digest_90 ?_
        refine j_istore_n G dX6_digest_91 (by decide) rfl ?_
        refine loop2 _ 0 _ _ Z (by omega) (by omega) rfl hS rfl ?_
        rw [h86, h76, h66, h56, h46, h82, h72, h62, h52, e63, h3]
        rfl
      · exfalso; omega
    | succ n ih =>
      intro a y h0 h1 h2 h3
      have had : 0 ≤ a ∧ a < S 0 0 5 := by omega
      refine j_iload_n G dX6_digest_16 rfl ?_
      refine j_aload_n G dX6_digest_17 rfl ?_
      refine gf_0_5 G dX6_digest_18 lf6_66 (by first | assumption | decide) ?_
      refine j_icmp_ge G 37 dX6_digest_21 (by decide) (by omega) (by omega) (fun c21 => ?_) (fun c21 => ?_)
      · exfalso; omega
      · refine j_aload_n G dX6_digest_24 rfl ?_
        refine j_lload_n G dX6_digest_25 rfl ?_
        refine j_iload_n G dX6_digest_26 rfl ?_
        refine j_cVJ G cvX6_mixTree ml6_298 (c_X6_mixTree hi hS hW had) dX6_digest_27 ⟨by decide, by decide⟩ ⟨by decide, by decide⟩ rfl rfl (Nat.le_of_ble_eq_true rfl) (by first | assumption | decide) rfl rfl rfl (fun r27 h27 => ?_)
        refine j_lstore_n G dX6_digest_30 (by decide) rfl ?_
        refine j_iinc G dX6_digest_31 rfl (by decide) rfl ?_
        refine j_goto G 16 dX6_digest_34 (by decide) ?_
        refine ih (a + 1) _ (by omega) (by omega) (by omega) ?_
        rw [nat_s (ddF (DT S) (mI 2539 (S 0 0 5))) h0]
        show _ = DT S (a.toNat : Int) (ddF (DT S) _ a.toNat)
        rw [Int.toNat_of_nonneg h0, ← h3]
        exact h27
  refine j_ldc2 G dX6_digest_0 (v := (2539 : Int64)) (TW_of 410 (by decide +kernel) (by decide +kernel)) ?_
  refine j_lstore_n G dX6_digest_3 (by decide) rfl ?_
  refine j_lload_n G dX6_digest_4 rfl ?_
  refine j_aload_n G dX6_digest_5 rfl ?_
  refine gf_0_5 G dX6_digest_6 lf6_66 (by first | assumption | decide) ?_
  refine j_i2l G dX6_digest_9 ?_
  refine j_cSJ G csX6_mix ml6_294 rfl (c_X6_mix hi ) dX6_digest_10 ⟨by decide, by decide⟩ ⟨by decide, by decide⟩ rfl rfl (Nat.le_of_ble_eq_true rfl) (fun r10 h10 => ?_)
  refine j_lstore_n G dX6_digest_13 (by decide) rfl ?_
  refine j_iconst G dX6_digest_14 ?_
  refine j_istore_n G dX6_digest_15 (by decide) rfl ?_
  refine loop1 _ 0 _ (by omega) (by omega) rfl ?_
  rw [h10, e05]
  rfl
set_option maxRecDepth 100000 in
set_option maxHeartbeats 8000000 in
theorem c_X6_forgetWhatNeedsAllDimensions {l : Launch} {D : va_G} {cys : Nat → ClassId} {ad : Nat → Int → Nat} {L : List Nat} {g : Nat → va_E} {X : Int64} {Z : ZT} (hi : injA ad)  (hn : 0 ≤ Z 0 0 5 ∧ Z 0 0 5 ≤ 4) : CM l D cys ad yX6_forgetWhatNeedsAllDimensions cX6_forgetWhatNeedsAllDimensions 2 none 1 21 0 0 [.ref (ad 0 0)] L g X Z (PVZ L g X Z (fun Z' => (∀ k i j, ¬ (k = 6 ∧ i = 0 ∧ j = 3) → ¬ (k = 11 ∧ i = 0 ∧ j = 3) → ¬ (k = 0 ∧ i = 0 ∧ j = 7) → k ≠ 5 → Z' k i j = Z k i j) ∧ Z' 6 0 3 = 0 ∧ Z' 11 0 3 = 0 ∧ Z' 0 0 7 = 0 ∧ ∀ d j, 0 ≤ d → d < Z 0 0 5 → 0 ≤ j → j < 24 → Z' 5 d j = 0)) := by
  refine cm_start hi (by decide +kernel) (Nat.le_of_ble_eq_true rfl) ?_
  intro p_ e_ s_ m_ args_ below_ meth_ c_ A_ Q_ hQ G hr hin
  have loop : ∀ (n : Nat) (a : Int) (Y : ZT), 0 ≤ a → a ≤ Z 0 0 5 → (Z 0 0 5 - a).toNat = n → (∀ k i j, ¬ (k = 6 ∧ i = 0 ∧ j = 3) → ¬ (k = 11 ∧ i = 0 ∧ j = 3) → ¬ (k = 0 ∧ i = 0 ∧ j = 7) → k ≠ 5 → Y k i j = Z k i j) → Y 6 0 3 = 0 → Y 11 0 3 = 0 → Y 0 0 7 = 0 → (∀ d j, 0 ≤ d → d < a → 0 ≤ j → j < 24 → Y 5 d j = 0) → JJ p_ l e_ { frames := 1, cells := 0, slots := 0, locals := 21 } s_ m_ args_ below_ meth_ c_ D cys ad A_ Q_ 2 0 0 L g X Y 23 [(0, .ref (ad 0 0)), (1, .int (iI a))] [] := by
    intro n
    induction n with
    | zero =>
      intro a Y h0 h1 h2 h3 h4 h5 h6 h7
      have ea : a = Z 0 0 5 := by omega
      subst ea
      have e5 : Y 0 0 5 = Z 0 0 5 := h3 0 0 5 (by omega) (by omega) (by omega) (by omega)
      refine j_iload_n G dX6_forgetWhatNeedsAllDimensions_23 rfl ?_
      refine j_aload_n G dX6_forgetWhatNeedsAllDimensions_24 rfl ?_
      refine gf_0_5 G dX6_forgetWhatNeedsAllDimensions_25 lf6_66 (by first | assumption | decide) ?_
      refine j_icmp_ge G 46 dX6_forgetWhatNeedsAllDimensions_28 (by decide) (by omega) (by omega) (fun c28 => ?_) (fun c28 => ?_)
      · refine jr_VZ G hQ hr dX6_forgetWhatNeedsAllDimensions_46 (by decide) (by decide) ?_
        exact ⟨h3, h4, h5, h6, h7⟩
      · exfalso; omega
    | succ n ih =>
      intro a Y h0 h1 h2 h3 h4 h5 h6 h7
      have e5 : Y 0 0 5 = Z 0 0 5 := h3 0 0 5 (by omega) (by omega) (by omega) (by omega)
      have hv2 : vd 2 a := ⟨h0, show a < 4 by omega⟩
      refine j_iload_n G dX6_forgetWhatNeedsAllDimensions_23 rfl ?_
      refine j_aload_n G dX6_forgetWhatNeedsAllDimensions_24 rfl ?_
      refine gf_0_5 G dX6_forgetWhatNeedsAllDimensions_25 lf6_66 (by first | assumption | decide) ?_
      refine j_icmp_ge G 46 dX6_forgetWhatNeedsAllDimensions_28 (by decide) (by omega) (by omega) (fun c28 => ?_) (fun c28 => ?_)
      · exfalso; omega
      · refine j_aload_n G dX6_forgetWhatNeedsAllDimensions_31 rfl ?_
        refine gf_0_0 G dX6_forgetWhatNeedsAllDimensions_32 lf6_11 (by first | assumption | decide) ?_
        refine j_iload_n G dX6_forgetWhatNeedsAllDimensions_35 rfl ?_
        refine al_1 G dX6_forgetWhatNeedsAllDimensions_36 (by first | assumption | decide) (by omega) (by omega) ?_
        refine j_cVVZ G cvX4_leaveNothingOut ml6_327 (c_X4_leaveNothingOut hi (by first | assumption | omega | decide)) dX6_forgetWhatNeedsAllDimensions_37 ⟨by decide, by decide⟩ ⟨by decide, by decide⟩ rfl rfl (Nat.le_of_ble_eq_true rfl) (by first | assumption | decide) rfl rfl rfl (fun Z37 h37 => ?_)
        refine j_iinc G dX6_forgetWhatNeedsAllDimensions_40 rfl (by decide) rfl ?_
        refine j_goto G 23 dX6_forgetWhatNeedsAllDimensions_43 (by decide) ?_
        obtain ⟨q1, q2⟩ := h37
        refine ih (a + 1) Z37 (by omega) (by omega) (by omega) (fun k i j k1 k2 k3 k4 => ?_) ?_ ?_ ?_ (fun d j d0 d1 j0 j1 => ?_)
        · rw [q1 k i (fun z => k4 z.1)]; exact h3 k i j k1 k2 k3 k4
        · rw [q1 6 0 (by omega)]; exact h4
        · rw [q1 11 0 (by omega)]; exact h5
        · rw [q1 0 0 (by omega)]; exact h6
        · by_cases e : d = a
          · subst e; exact q2 j j0 j1
          · rw [q1 5 d (by omega)]; exact h7 d j d0 (by omega) j0 j1
  refine j_aload_n G dX6_forgetWhatNeedsAllDimensions_0 rfl ?_
  refine gf_0_1 G dX6_forgetWhatNeedsAllDimensions_1 lf6_18 (by first | assumption | decide) ?_
  refine j_iconst G dX6_forgetWhatNeedsAllDimensions_4 ?_
  refine pf_6_3 G dX6_forgetWhatNeedsAllDimensions_5 lf6_160 (by first | assumption | decide) ?_
  refine j_aload_n G dX6_forgetWhatNeedsAllDimensions_8 rfl ?_
  refine gf_0_2 G dX6_forgetWhatNeedsAllDimensions_9 lf6_25 (by first | assumption | decide) ?_
  refine j_iconst G dX6_forgetWhatNeedsAllDimensions_12 ?_
  refine pf_11_3 G dX6_forgetWhatNeedsAllDimensions_13 lf6_261 (by first | assumption | decide) ?_
  refine j_aload_n G dX6_forgetWhatNeedsAllDimensions_16 rfl ?_
  refine j_iconst G dX6_forgetWhatNeedsAllDimensions_17 ?_
  refine pf_0_7 G dX6_forgetWhatNeedsAllDimensions_18 lf6_222 (by first | assumption | decide) (by omega) ?_
  refine j_iconst G dX6_forgetWhatNeedsAllDimensions_21 ?_
  refine j_istore_n G dX6_forgetWhatNeedsAllDimensions_22 (by decide) rfl ?_
  refine loop _ 0 _ (by omega) (by omega) rfl (fun k i j k1 k2 k3 k4 => ?_) ?_ ?_ ?_ (fun d j d0 d1 => by omega)
  · by_cases e : k = 0
    · subst e
      by_cases e2 : i = 0
      · subst e2
        rw [zS_j (by omega), zS_k (by decide), zS_k (by decide)]
      · rw [zS_o (by omega), zS_k (by decide), zS_k (by decide)]
    · rw [zS_k e]
      by_cases e3 : k = 11
      · subst e3
        by_cases e2 : i = 0
        · subst e2
          rw [zS_j (by omega), zS_k (by decide)]
        · rw [zS_o (by omega), zS_k (by decide)]
      · rw [zS_k e3]
        by_cases e4 : k = 6
        · subst e4
          by_cases e2 : i = 0
          · subst e2
            rw [zS_j (by omega)]
          · rw [zS_o (by omega)]
        · rw [zS_k e4]
  · rw [zS_k (by decide), zS_k (by decide), zS_s]
  · rw [zS_k (by decide), zS_s]
  · rw [zS_s]

