theorem dX7_odds_84 : decode cX7_odds 84 = .ok (.aload_n 0, 1) := by decide +kernel
theorem dX7_odds_85 : decode cX7_odds 85 = .ok (.lload_n 3, 1) := by decide +kernel
theorem dX7_odds_86 : decode cX7_odds 86 = .ok (.lload 5, 2) := by decide +kernel
theorem dX7_odds_88 : decode cX7_odds 88 = .ok (.invokevirtual 217, 3) := by decide +kernel
theorem dX7_odds_91 : decode cX7_odds 91 = .ok (.iconst 1, 1) := by decide +kernel
theorem dX7_odds_92 : decode cX7_odds 92 = .ok (.ireturn, 1) := by decide +kernel
theorem dX7_mid_0 : decode cX7_mid 0 = .ok (.aload_n 0, 1) := by decide +kernel
theorem dX7_mid_1 : decode cX7_mid 1 = .ok (.iload_n 1, 1) := by decide +kernel
theorem dX7_mid_2 : decode cX7_mid 2 = .ok (.invokevirtual 282, 3) := by decide +kernel
theorem dX7_mid_5 : decode cX7_mid 5 = .ok (.istore_n 2, 1) := by decide +kernel
theorem dX7_mid_6 : decode cX7_mid 6 = .ok (.iload_n 2, 1) := by decide +kernel
theorem dX7_mid_7 : decode cX7_mid 7 = .ok (.ifCond .eq 5, 3) := by decide +kernel
theorem dX7_mid_10 : decode cX7_mid 10 = .ok (.iload_n 2, 1) := by decide +kernel
theorem dX7_mid_11 : decode cX7_mid 11 = .ok (.ireturn, 1) := by decide +kernel
theorem dX7_mid_12 : decode cX7_mid 12 = .ok (.lconst 0, 1) := by decide +kernel
theorem dX7_mid_13 : decode cX7_mid 13 = .ok (.lstore_n 3, 1) := by decide +kernel
theorem dX7_mid_14 : decode cX7_mid 14 = .ok (.iconst 0, 1) := by decide +kernel
theorem dX7_mid_15 : decode cX7_mid 15 = .ok (.istore 5, 2) := by decide +kernel
theorem dX7_mid_17 : decode cX7_mid 17 = .ok (.iload 5, 2) := by decide +kernel
theorem dX7_mid_19 : decode cX7_mid 19 = .ok (.aload_n 0, 1) := by decide +kernel
theorem dX7_mid_20 : decode cX7_mid 20 = .ok (.getfield 28, 3) := by decide +kernel
theorem dX7_mid_23 : decode cX7_mid 23 = .ok (.getfield 121, 3) := by decide +kernel
theorem dX7_mid_26 : decode cX7_mid 26 = .ok (.if_icmp .ge 58, 3) := by decide +kernel
theorem dX7_mid_29 : decode cX7_mid 29 = .ok (.aload_n 0, 1) := by decide +kernel
theorem dX7_mid_30 : decode cX7_mid 30 = .ok (.getfield 28, 3) := by decide +kernel
theorem dX7_mid_33 : decode cX7_mid 33 = .ok (.getfield 126, 3) := by decide +kernel
theorem dX7_mid_36 : decode cX7_mid 36 = .ok (.iload 5, 2) := by decide +kernel
theorem dX7_mid_38 : decode cX7_mid 38 = .ok (.aaload, 1) := by decide +kernel
theorem dX7_mid_39 : decode cX7_mid 39 = .ok (.astore 6, 2) := by decide +kernel
theorem dX7_mid_41 : decode cX7_mid 41 = .ok (.aload 6, 2) := by decide +kernel
theorem dX7_mid_43 : decode cX7_mid 43 = .ok (.invokevirtual 180, 3) := by decide +kernel
theorem dX7_mid_46 : decode cX7_mid 46 = .ok (.ifCond .ne 32, 3) := by decide +kernel
theorem dX7_mid_49 : decode cX7_mid 49 = .ok (.aload 6, 2) := by decide +kernel
theorem dX7_mid_51 : decode cX7_mid 51 = .ok (.aload_n 0, 1) := by decide +kernel
theorem dX7_mid_52 : decode cX7_mid 52 = .ok (.getfield 28, 3) := by decide +kernel
theorem dX7_mid_55 : decode cX7_mid 55 = .ok (.getfield 151, 3) := by decide +kernel
theorem dX7_mid_58 : decode cX7_mid 58 = .ok (.invokevirtual 290, 3) := by decide +kernel
theorem dX7_mid_61 : decode cX7_mid 61 = .ok (.ifCond .eq 17, 3) := by decide +kernel
theorem dX7_mid_64 : decode cX7_mid 64 = .ok (.lload_n 3, 1) := by decide +kernel
theorem dX7_mid_65 : decode cX7_mid 65 = .ok (.aload_n 0, 1) := by decide +kernel
theorem dX7_mid_66 : decode cX7_mid 66 = .ok (.getfield 28, 3) := by decide +kernel
theorem dX7_mid_69 : decode cX7_mid 69 = .ok (.aload 6, 2) := by decide +kernel
theorem dX7_mid_71 : decode cX7_mid 71 = .ok (.iload_n 1, 1) := by decide +kernel
theorem dX7_mid_72 : decode cX7_mid 72 = .ok (.invokevirtual 285, 3) := by decide +kernel
theorem dX7_mid_75 : decode cX7_mid 75 = .ok (.i2l, 1) := by decide +kernel
theorem dX7_mid_76 : decode cX7_mid 76 = .ok (.ladd, 1) := by decide +kernel
theorem dX7_mid_77 : decode cX7_mid 77 = .ok (.lstore_n 3, 1) := by decide +kernel
theorem dX7_mid_78 : decode cX7_mid 78 = .ok (.iinc 5 1, 3) := by decide +kernel
theorem dX7_mid_81 : decode cX7_mid 81 = .ok (.goto (-64), 3) := by decide +kernel
theorem dX7_mid_84 : decode cX7_mid 84 = .ok (.aload_n 0, 1) := by decide +kernel
theorem dX7_mid_85 : decode cX7_mid 85 = .ok (.lload_n 3, 1) := by decide +kernel
theorem dX7_mid_86 : decode cX7_mid 86 = .ok (.ldc2_w 288, 3) := by decide +kernel
theorem dX7_mid_89 : decode cX7_mid 89 = .ok (.invokevirtual 217, 3) := by decide +kernel
theorem dX7_mid_92 : decode cX7_mid 92 = .ok (.iconst 1, 1) := by decide +kernel
theorem dX7_mid_93 : decode cX7_mid 93 = .ok (.ireturn, 1) := by decide +kernel
theorem dX7_lots_0 : decode cX7_lots 0 = .ok (.iload_n 1, 1) := by decide +kernel
theorem dX7_lots_1 : decode cX7_lots 1 = .ok (.iconst 1, 1) := by decide +kernel
theorem dX7_lots_2 : decode cX7_lots 2 = .ok (.if_icmp .lt 21, 3) := by decide +kernel
theorem dX7_lots_5 : decode cX7_lots 5 = .ok (.iload_n 1, 1) := by decide +kernel
theorem dX7_lots_6 : decode cX7_lots 6 = .ok (.bipush 20, 2) := by decide +kernel
theorem dX7_lots_8 : decode cX7_lots 8 = .ok (.if_icmp .gt 15, 3) := by decide +kernel
theorem dX7_lots_11 : decode cX7_lots 11 = .ok (.iload_n 2, 1) := by decide +kernel
theorem dX7_lots_12 : decode cX7_lots 12 = .ok (.iconst 1, 1) := by decide +kernel
theorem dX7_lots_13 : decode cX7_lots 13 = .ok (.if_icmp .lt 10, 3) := by decide +kernel
theorem dX7_lots_16 : decode cX7_lots 16 = .ok (.iload_n 2, 1) := by decide +kernel
theorem dX7_lots_17 : decode cX7_lots 17 = .ok (.ldc_w 293, 3) := by decide +kernel
theorem dX7_lots_20 : decode cX7_lots 20 = .ok (.if_icmp .le 5, 3) := by decide +kernel
theorem dX7_lots_23 : decode cX7_lots 23 = .ok (.iconst (-1), 1) := by decide +kernel
theorem dX7_lots_24 : decode cX7_lots 24 = .ok (.ireturn, 1) := by decide +kernel
theorem dX7_lots_25 : decode cX7_lots 25 = .ok (.aload_n 0, 1) := by decide +kernel
theorem dX7_lots_26 : decode cX7_lots 26 = .ok (.getfield 28, 3) := by decide +kernel
theorem dX7_lots_29 : decode cX7_lots 29 = .ok (.getfield 121, 3) := by decide +kernel
theorem dX7_lots_32 : decode cX7_lots 32 = .ok (.ifCond .ne 6, 3) := by decide +kernel
theorem dX7_lots_35 : decode cX7_lots 35 = .ok (.bipush (-4), 2) := by decide +kernel
theorem dX7_lots_37 : decode cX7_lots 37 = .ok (.ireturn, 1) := by decide +kernel
theorem dX7_lots_38 : decode cX7_lots 38 = .ok (.aload_n 0, 1) := by decide +kernel
theorem dX7_lots_39 : decode cX7_lots 39 = .ok (.getfield 28, 3) := by decide +kernel
theorem dX7_lots_42 : decode cX7_lots 42 = .ok (.getfield 166, 3) := by decide +kernel
theorem dX7_lots_45 : decode cX7_lots 45 = .ok (.iload_n 1, 1) := by decide +kernel
theorem dX7_lots_46 : decode cX7_lots 46 = .ok (.invokevirtual 170, 3) := by decide +kernel
theorem dX7_lots_49 : decode cX7_lots 49 = .ok (.ifCond .ne 6, 3) := by decide +kernel
theorem dX7_lots_52 : decode cX7_lots 52 = .ok (.bipush (-2), 2) := by decide +kernel
theorem dX7_lots_54 : decode cX7_lots 54 = .ok (.ireturn, 1) := by decide +kernel
theorem dX7_lots_55 : decode cX7_lots 55 = .ok (.aload_n 0, 1) := by decide +kernel
theorem dX7_lots_56 : decode cX7_lots 56 = .ok (.getfield 28, 3) := by decide +kernel
theorem dX7_lots_59 : decode cX7_lots 59 = .ok (.invokevirtual 294, 3) := by decide +kernel
theorem dX7_lots_62 : decode cX7_lots 62 = .ok (.istore_n 3, 1) := by decide +kernel
theorem dX7_lots_63 : decode cX7_lots 63 = .ok (.iload_n 2, 1) := by decide +kernel
theorem dX7_lots_64 : decode cX7_lots 64 = .ok (.i2l, 1) := by decide +kernel
theorem dX7_lots_65 : decode cX7_lots 65 = .ok (.lstore 4, 2) := by decide +kernel
theorem dX7_lots_67 : decode cX7_lots 67 = .ok (.iconst 0, 1) := by decide +kernel
theorem dX7_lots_68 : decode cX7_lots 68 = .ok (.istore 6, 2) := by decide +kernel
theorem dX7_lots_70 : decode cX7_lots 70 = .ok (.iload 6, 2) := by decide +kernel
theorem dX7_lots_72 : decode cX7_lots 72 = .ok (.iload_n 1, 1) := by decide +kernel
theorem dX7_lots_73 : decode cX7_lots 73 = .ok (.if_icmp .ge 93, 3) := by decide +kernel
theorem dX7_lots_76 : decode cX7_lots 76 = .ok (.lload 4, 2) := by decide +kernel
theorem dX7_lots_78 : decode cX7_lots 78 = .ok (.ldc2_w 297, 3) := by decide +kernel
theorem dX7_lots_81 : decode cX7_lots 81 = .ok (.lmul, 1) := by decide +kernel
theorem dX7_lots_82 : decode cX7_lots 82 = .ok (.ldc2_w 299, 3) := by decide +kernel
theorem dX7_lots_85 : decode cX7_lots 85 = .ok (.lrem, 1) := by decide +kernel
theorem dX7_lots_86 : decode cX7_lots 86 = .ok (.lstore 4, 2) := by decide +kernel
theorem dX7_lots_88 : decode cX7_lots 88 = .ok (.lload 4, 2) := by decide +kernel
theorem dX7_lots_90 : decode cX7_lots 90 = .ok (.ldc2_w 301, 3) := by decide +kernel
theorem dX7_lots_93 : decode cX7_lots 93 = .ok (.ldiv, 1) := by decide +kernel
theorem dX7_lots_94 : decode cX7_lots 94 = .ok (.l2i, 1) := by decide +kernel
theorem dX7_lots_95 : decode cX7_lots 95 = .ok (.istore 7, 2) := by decide +kernel
theorem dX7_lots_97 : decode cX7_lots 97 = .ok (.lload 4, 2) := by decide +kernel
theorem dX7_lots_99 : decode cX7_lots 99 = .ok (.ldc2_w 303, 3) := by decide +kernel
theorem dX7_lots_102 : decode cX7_lots 102 = .ok (.lrem, 1) := by decide +kernel
theorem dX7_lots_103 : decode cX7_lots 103 = .ok (.lconst 0, 1) := by decide +kernel
theorem dX7_lots_104 : decode cX7_lots 104 = .ok (.lcmp, 1) := by decide +kernel
theorem dX7_lots_105 : decode cX7_lots 105 = .ok (.ifCond .ne 21, 3) := by decide +kernel
theorem dX7_lots_108 : decode cX7_lots 108 = .ok (.aload_n 0, 1) := by decide +kernel
theorem dX7_lots_109 : decode cX7_lots 109 = .ok (.getfield 28, 3) := by decide +kernel
theorem dX7_lots_112 : decode cX7_lots 112 = .ok (.iconst 0, 1) := by decide +kernel
theorem dX7_lots_113 : decode cX7_lots 113 = .ok (.iload 7, 2) := by decide +kernel
theorem dX7_lots_115 : decode cX7_lots 115 = .ok (.bipush 11, 2) := by decide +kernel
theorem dX7_lots_117 : decode cX7_lots 117 = .ok (.irem, 1) := by decide +kernel
theorem dX7_lots_118 : decode cX7_lots 118 = .ok (.iconst 5, 1) := by decide +kernel
theorem dX7_lots_119 : decode cX7_lots 119 = .ok (.isub, 1) := by decide +kernel
theorem dX7_lots_120 : decode cX7_lots 120 = .ok (.invokevirtual 173, 3) := by decide +kernel
theorem dX7_lots_123 : decode cX7_lots 123 = .ok (.goto 37, 3) := by decide +kernel
theorem dX7_lots_126 : decode cX7_lots 126 = .ok (.iload 7, 2) := by decide +kernel
theorem dX7_lots_128 : decode cX7_lots 128 = .ok (.aload_n 0, 1) := by decide +kernel
theorem dX7_lots_129 : decode cX7_lots 129 = .ok (.getfield 28, 3) := by decide +kernel
theorem dX7_lots_132 : decode cX7_lots 132 = .ok (.getfield 121, 3) := by decide +kernel
theorem dX7_lots_135 : decode cX7_lots 135 = .ok (.irem, 1) := by decide +kernel
theorem dX7_lots_136 : decode cX7_lots 136 = .ok (.istore 8, 2) := by decide +kernel
theorem dX7_lots_138 : decode cX7_lots 138 = .ok (.aload_n 0, 1) := by decide +kernel
theorem dX7_lots_139 : decode cX7_lots 139 = .ok (.getfield 28, 3) := by decide +kernel
theorem dX7_lots_142 : decode cX7_lots 142 = .ok (.aload_n 0, 1) := by decide +kernel
theorem dX7_lots_143 : decode cX7_lots 143 = .ok (.getfield 28, 3) := by decide +kernel
theorem dX7_lots_146 : decode cX7_lots 146 = .ok (.getfield 126, 3) := by decide +kernel
theorem dX7_lots_149 : decode cX7_lots 149 = .ok (.iload 8, 2) := by decide +kernel
theorem dX7_lots_151 : decode cX7_lots 151 = .ok (.aaload, 1) := by decide +kernel
theorem dX7_lots_152 : decode cX7_lots 152 = .ok (.invokevirtual 305, 3) := by decide +kernel
theorem dX7_lots_155 : decode cX7_lots 155 = .ok (.iload 8, 2) := by decide +kernel
theorem dX7_lots_157 : decode cX7_lots 157 = .ok (.invokevirtual 173, 3) := by decide +kernel
theorem dX7_lots_160 : decode cX7_lots 160 = .ok (.iinc 6 1, 3) := by decide +kernel
theorem dX7_lots_163 : decode cX7_lots 163 = .ok (.goto (-93), 3) := by decide +kernel
theorem dX7_lots_166 : decode cX7_lots 166 = .ok (.aload_n 0, 1) := by decide +kernel
theorem dX7_lots_167 : decode cX7_lots 167 = .ok (.getfield 28, 3) := by decide +kernel
theorem dX7_lots_170 : decode cX7_lots 170 = .ok (.invokevirtual 294, 3) := by decide +kernel
theorem dX7_lots_173 : decode cX7_lots 173 = .ok (.iload_n 3, 1) := by decide +kernel
theorem dX7_lots_174 : decode cX7_lots 174 = .ok (.isub, 1) := by decide +kernel
theorem dX7_lots_175 : decode cX7_lots 175 = .ok (.ireturn, 1) := by decide +kernel
theorem dX7_asked_0 : decode cX7_asked 0 = .ok (.aload_n 0, 1) := by decide +kernel
theorem dX7_asked_1 : decode cX7_asked 1 = .ok (.getfield 75, 3) := by decide +kernel
theorem dX7_asked_4 : decode cX7_asked 4 = .ok (.ireturn, 1) := by decide +kernel
theorem dX7_upper_0 : decode cX7_upper 0 = .ok (.aload_n 0, 1) := by decide +kernel
theorem dX7_upper_1 : decode cX7_upper 1 = .ok (.getfield 308, 3) := by decide +kernel
theorem dX7_upper_4 : decode cX7_upper 4 = .ok (.lreturn, 1) := by decide +kernel
theorem dX7_lower_0 : decode cX7_lower 0 = .ok (.aload_n 0, 1) := by decide +kernel
theorem dX7_lower_1 : decode cX7_lower 1 = .ok (.getfield 56, 3) := by decide +kernel
theorem dX7_lower_4 : decode cX7_lower 4 = .ok (.lreturn, 1) := by decide +kernel
theorem dX7_count_0 : decode cX7_count 0 = .ok (.iload_n 1, 1) := by decide +kernel
theorem dX7_count_1 : decode cX7_count 1 = .ok (.tableswitch 147 0 10 #[59, 67, 75, 86, 94, 102, 110, 118, 126, 134, 142], 59) := by decide +kernel
theorem dX7_count_60 : decode cX7_count 60 = .ok (.aload_n 0, 1) := by decide +kernel
theorem dX7_count_61 : decode cX7_count 61 = .ok (.getfield 28, 3) := by decide +kernel
theorem dX7_count_64 : decode cX7_count 64 = .ok (.getfield 121, 3) := by decide +kernel
theorem dX7_count_67 : decode cX7_count 67 = .ok (.ireturn, 1) := by decide +kernel
theorem dX7_count_68 : decode cX7_count 68 = .ok (.aload_n 0, 1) := by decide +kernel
theorem dX7_count_69 : decode cX7_count 69 = .ok (.getfield 28, 3) := by decide +kernel
theorem dX7_count_72 : decode cX7_count 72 = .ok (.getfield 151, 3) := by decide +kernel
theorem dX7_count_75 : decode cX7_count 75 = .ok (.ireturn, 1) := by decide +kernel
theorem dX7_count_76 : decode cX7_count 76 = .ok (.aload_n 0, 1) := by decide +kernel
theorem dX7_count_77 : decode cX7_count 77 = .ok (.getfield 28, 3) := by decide +kernel
theorem dX7_count_80 : decode cX7_count 80 = .ok (.getfield 166, 3) := by decide +kernel
theorem dX7_count_83 : decode cX7_count 83 = .ok (.getfield 120, 3) := by decide +kernel
theorem dX7_count_86 : decode cX7_count 86 = .ok (.ireturn, 1) := by decide +kernel
theorem dX7_count_87 : decode cX7_count 87 = .ok (.aload_n 0, 1) := by decide +kernel
theorem dX7_count_88 : decode cX7_count 88 = .ok (.getfield 28, 3) := by decide +kernel
theorem dX7_count_91 : decode cX7_count 91 = .ok (.invokevirtual 311, 3) := by decide +kernel
theorem dX7_count_94 : decode cX7_count 94 = .ok (.ireturn, 1) := by decide +kernel
theorem dX7_count_95 : decode cX7_count 95 = .ok (.aload_n 0, 1) := by decide +kernel
theorem dX7_count_96 : decode cX7_count 96 = .ok (.getfield 28, 3) := by decide +kernel
theorem dX7_count_99 : decode cX7_count 99 = .ok (.invokevirtual 231, 3) := by decide +kernel
theorem dX7_count_102 : decode cX7_count 102 = .ok (.ireturn, 1) := by decide +kernel
theorem dX7_count_103 : decode cX7_count 103 = .ok (.aload_n 0, 1) := by decide +kernel
theorem dX7_count_104 : decode cX7_count 104 = .ok (.getfield 28, 3) := by decide +kernel
theorem dX7_count_107 : decode cX7_count 107 = .ok (.invokevirtual 294, 3) := by decide +kernel
theorem dX7_count_110 : decode cX7_count 110 = .ok (.ireturn, 1) := by decide +kernel
theorem dX7_count_111 : decode cX7_count 111 = .ok (.aload_n 0, 1) := by decide +kernel
theorem dX7_count_112 : decode cX7_count 112 = .ok (.getfield 28, 3) := by decide +kernel
theorem dX7_count_115 : decode cX7_count 115 = .ok (.invokevirtual 314, 3) := by decide +kernel
theorem dX7_count_118 : decode cX7_count 118 = .ok (.ireturn, 1) := by decide +kernel
theorem dX7_count_119 : decode cX7_count 119 = .ok (.aload_n 0, 1) := by decide +kernel
theorem dX7_count_120 : decode cX7_count 120 = .ok (.getfield 28, 3) := by decide +kernel
theorem dX7_count_123 : decode cX7_count 123 = .ok (.invokevirtual 317, 3) := by decide +kernel
theorem dX7_count_126 : decode cX7_count 126 = .ok (.ireturn, 1) := by decide +kernel
theorem dX7_count_127 : decode cX7_count 127 = .ok (.aload_n 0, 1) := by decide +kernel
theorem dX7_count_128 : decode cX7_count 128 = .ok (.getfield 11, 3) := by decide +kernel
theorem dX7_count_131 : decode cX7_count 131 = .ok (.invokestatic 320, 3) := by decide +kernel
theorem dX7_count_134 : decode cX7_count 134 = .ok (.ireturn, 1) := by decide +kernel
theorem dX7_count_135 : decode cX7_count 135 = .ok (.aload_n 0, 1) := by decide +kernel
theorem dX7_count_136 : decode cX7_count 136 = .ok (.getfield 15, 3) := by decide +kernel
theorem dX7_count_139 : decode cX7_count 139 = .ok (.invokestatic 320, 3) := by decide +kernel
theorem dX7_count_142 : decode cX7_count 142 = .ok (.ireturn, 1) := by decide +kernel
theorem dX7_count_143 : decode cX7_count 143 = .ok (.aload_n 0, 1) := by decide +kernel
theorem dX7_count_144 : decode cX7_count 144 = .ok (.invokevirtual 324, 3) := by decide +kernel
theorem dX7_count_147 : decode cX7_count 147 = .ok (.ireturn, 1) := by decide +kernel
theorem dX7_count_148 : decode cX7_count 148 = .ok (.iconst (-1), 1) := by decide +kernel
theorem dX7_count_149 : decode cX7_count 149 = .ok (.ireturn, 1) := by decide +kernel
theorem dX7_digest_0 : decode cX7_digest 0 = .ok (.ldc2_w 330, 3) := by decide +kernel
theorem dX7_digest_3 : decode cX7_digest 3 = .ok (.lstore_n 1, 1) := by decide +kernel
theorem dX7_digest_4 : decode cX7_digest 4 = .ok (.iconst 0, 1) := by decide +kernel
theorem dX7_digest_5 : decode cX7_digest 5 = .ok (.istore_n 3, 1) := by decide +kernel
theorem dX7_digest_6 : decode cX7_digest 6 = .ok (.iload_n 3, 1) := by decide +kernel
theorem dX7_digest_7 : decode cX7_digest 7 = .ok (.bipush 11, 2) := by decide +kernel
theorem dX7_digest_9 : decode cX7_digest 9 = .ok (.if_icmp .ge 22, 3) := by decide +kernel
theorem dX7_digest_12 : decode cX7_digest 12 = .ok (.ldc2_w 332, 3) := by decide +kernel
theorem dX7_digest_15 : decode cX7_digest 15 = .ok (.lload_n 1, 1) := by decide +kernel
theorem dX7_digest_16 : decode cX7_digest 16 = .ok (.lmul, 1) := by decide +kernel
theorem dX7_digest_17 : decode cX7_digest 17 = .ok (.aload_n 0, 1) := by decide +kernel
theorem dX7_digest_18 : decode cX7_digest 18 = .ok (.iload_n 3, 1) := by decide +kernel
theorem dX7_digest_19 : decode cX7_digest 19 = .ok (.invokevirtual 334, 3) := by decide +kernel
theorem dX7_digest_22 : decode cX7_digest 22 = .ok (.i2l, 1) := by decide +kernel
theorem dX7_digest_23 : decode cX7_digest 23 = .ok (.ladd, 1) := by decide +kernel
theorem dX7_digest_24 : decode cX7_digest 24 = .ok (.lstore_n 1, 1) := by decide +kernel
theorem dX7_digest_25 : decode cX7_digest 25 = .ok (.iinc 3 1, 3) := by decide +kernel
theorem dX7_digest_28 : decode cX7_digest 28 = .ok (.goto (-22), 3) := by decide +kernel
theorem dX7_digest_31 : decode cX7_digest 31 = .ok (.iconst 0, 1) := by decide +kernel
theorem dX7_digest_32 : decode cX7_digest 32 = .ok (.istore_n 3, 1) := by decide +kernel
theorem dX7_digest_33 : decode cX7_digest 33 = .ok (.iload_n 3, 1) := by decide +kernel
theorem dX7_digest_34 : decode cX7_digest 34 = .ok (.aload_n 0, 1) := by decide +kernel
theorem dX7_digest_35 : decode cX7_digest 35 = .ok (.getfield 28, 3) := by decide +kernel
theorem dX7_digest_38 : decode cX7_digest 38 = .ok (.getfield 121, 3) := by decide +kernel
theorem dX7_digest_41 : decode cX7_digest 41 = .ok (.if_icmp .ge 51, 3) := by decide +kernel
theorem dX7_digest_44 : decode cX7_digest 44 = .ok (.iconst 0, 1) := by decide +kernel
theorem dX7_digest_45 : decode cX7_digest 45 = .ok (.istore 4, 2) := by decide +kernel
theorem dX7_digest_47 : decode cX7_digest 47 = .ok (.iload 4, 2) := by decide +kernel
theorem dX7_digest_49 : decode cX7_digest 49 = .ok (.bipush 9, 2) := by decide +kernel
theorem dX7_digest_51 : decode cX7_digest 51 = .ok (.if_icmp .ge 35, 3) := by decide +kernel
theorem dX7_digest_54 : decode cX7_digest 54 = .ok (.ldc2_w 332, 3) := by decide +kernel
theorem dX7_digest_57 : decode cX7_digest 57 = .ok (.lload_n 1, 1) := by decide +kernel
theorem dX7_digest_58 : decode cX7_digest 58 = .ok (.lmul, 1) := by decide +kernel
theorem dX7_digest_59 : decode cX7_digest 59 = .ok (.aload_n 0, 1) := by decide +kernel
theorem dX7_digest_60 : decode cX7_digest 60 = .ok (.getfield 28, 3) := by decide +kernel
theorem dX7_digest_63 : decode cX7_digest 63 = .ok (.aload_n 0, 1) := by decide +kernel
theorem dX7_digest_64 : decode cX7_digest 64 = .ok (.getfield 28, 3) := by decide +kernel
theorem dX7_digest_67 : decode cX7_digest 67 = .ok (.getfield 126, 3) := by decide +kernel
theorem dX7_digest_70 : decode cX7_digest 70 = .ok (.iload_n 3, 1) := by decide +kernel
theorem dX7_digest_71 : decode cX7_digest 71 = .ok (.aaload, 1) := by decide +kernel
theorem dX7_digest_72 : decode cX7_digest 72 = .ok (.iload 4, 2) := by decide +kernel
theorem dX7_digest_74 : decode cX7_digest 74 = .ok (.invokevirtual 130, 3) := by decide +kernel
theorem dX7_digest_77 : decode cX7_digest 77 = .ok (.i2l, 1) := by decide +kernel
theorem dX7_digest_78 : decode cX7_digest 78 = .ok (.ladd, 1) := by decide +kernel
theorem dX7_digest_79 : decode cX7_digest 79 = .ok (.lstore_n 1, 1) := by decide +kernel
theorem dX7_digest_80 : decode cX7_digest 80 = .ok (.iinc 4 1, 3) := by decide +kernel
theorem dX7_digest_83 : decode cX7_digest 83 = .ok (.goto (-36), 3) := by decide +kernel
theorem dX7_digest_86 : decode cX7_digest 86 = .ok (.iinc 3 1, 3) := by decide +kernel
theorem dX7_digest_89 : decode cX7_digest 89 = .ok (.goto (-56), 3) := by decide +kernel
theorem dX7_digest_92 : decode cX7_digest 92 = .ok (.iconst 0, 1) := by decide +kernel
theorem dX7_digest_93 : decode cX7_digest 93 = .ok (.istore_n 3, 1) := by decide +kernel
theorem dX7_digest_94 : decode cX7_digest 94 = .ok (.iload_n 3, 1) := by decide +kernel
theorem dX7_digest_95 : decode cX7_digest 95 = .ok (.iconst 3, 1) := by decide +kernel
theorem dX7_digest_96 : decode cX7_digest 96 = .ok (.if_icmp .ge 26, 3) := by decide +kernel
theorem dX7_digest_99 : decode cX7_digest 99 = .ok (.ldc2_w 332, 3) := by decide +kernel
theorem dX7_digest_102 : decode cX7_digest 102 = .ok (.lload_n 1, 1) := by decide +kernel
theorem dX7_digest_103 : decode cX7_digest 103 = .ok (.lmul, 1) := by decide +kernel
theorem dX7_digest_104 : decode cX7_digest 104 = .ok (.aload_n 0, 1) := by decide +kernel
theorem dX7_digest_105 : decode cX7_digest 105 = .ok (.getfield 34, 3) := by decide +kernel
theorem dX7_digest_108 : decode cX7_digest 108 = .ok (.iload_n 3, 1) := by decide +kernel
theorem dX7_digest_109 : decode cX7_digest 109 = .ok (.aaload, 1) := by decide +kernel
theorem dX7_digest_110 : decode cX7_digest 110 = .ok (.getfield 120, 3) := by decide +kernel
theorem dX7_digest_113 : decode cX7_digest 113 = .ok (.i2l, 1) := by decide +kernel
theorem dX7_digest_114 : decode cX7_digest 114 = .ok (.ladd, 1) := by decide +kernel
theorem dX7_digest_115 : decode cX7_digest 115 = .ok (.lstore_n 1, 1) := by decide +kernel
theorem dX7_digest_116 : decode cX7_digest 116 = .ok (.iinc 3 1, 3) := by decide +kernel
theorem dX7_digest_119 : decode cX7_digest 119 = .ok (.goto (-25), 3) := by decide +kernel
theorem dX7_digest_122 : decode cX7_digest 122 = .ok (.iconst 0, 1) := by decide +kernel
theorem dX7_digest_123 : decode cX7_digest 123 = .ok (.istore_n 3, 1) := by decide +kernel
theorem dX7_digest_124 : decode cX7_digest 124 = .ok (.iload_n 3, 1) := by decide +kernel
theorem dX7_digest_125 : decode cX7_digest 125 = .ok (.bipush 6, 2) := by decide +kernel
theorem dX7_digest_127 : decode cX7_digest 127 = .ok (.if_icmp .ge 20, 3) := by decide +kernel
theorem dX7_digest_130 : decode cX7_digest 130 = .ok (.aload_n 0, 1) := by decide +kernel
theorem dX7_digest_131 : decode cX7_digest 131 = .ok (.getfield 11, 3) := by decide +kernel
theorem dX7_digest_134 : decode cX7_digest 134 = .ok (.iload_n 3, 1) := by decide +kernel
theorem dX7_digest_135 : decode cX7_digest 135 = .ok (.aaload, 1) := by decide +kernel
theorem dX7_digest_136 : decode cX7_digest 136 = .ok (.lload_n 1, 1) := by decide +kernel
theorem dX7_digest_137 : decode cX7_digest 137 = .ok (.invokevirtual 337, 3) := by decide +kernel
theorem dX7_digest_140 : decode cX7_digest 140 = .ok (.lstore_n 1, 1) := by decide +kernel
theorem dX7_digest_141 : decode cX7_digest 141 = .ok (.iinc 3 1, 3) := by decide +kernel
theorem dX7_digest_144 : decode cX7_digest 144 = .ok (.goto (-20), 3) := by decide +kernel
theorem dX7_digest_147 : decode cX7_digest 147 = .ok (.iconst 0, 1) := by decide +kernel
theorem dX7_digest_148 : decode cX7_digest 148 = .ok (.istore_n 3, 1) := by decide +kernel
theorem dX7_digest_149 : decode cX7_digest 149 = .ok (.iload_n 3, 1) := by decide +kernel
theorem dX7_digest_150 : decode cX7_digest 150 = .ok (.iconst 4, 1) := by decide +kernel
theorem dX7_digest_151 : decode cX7_digest 151 = .ok (.if_icmp .ge 20, 3) := by decide +kernel
theorem dX7_digest_154 : decode cX7_digest 154 = .ok (.aload_n 0, 1) := by decide +kernel
theorem dX7_digest_155 : decode cX7_digest 155 = .ok (.getfield 15, 3) := by decide +kernel
theorem dX7_digest_158 : decode cX7_digest 158 = .ok (.iload_n 3, 1) := by decide +kernel
theorem dX7_digest_159 : decode cX7_digest 159 = .ok (.aaload, 1) := by decide +kernel
theorem dX7_digest_160 : decode cX7_digest 160 = .ok (.lload_n 1, 1) := by decide +kernel
theorem dX7_digest_161 : decode cX7_digest 161 = .ok (.invokevirtual 337, 3) := by decide +kernel
theorem dX7_digest_164 : decode cX7_digest 164 = .ok (.lstore_n 1, 1) := by decide +kernel
theorem dX7_digest_165 : decode cX7_digest 165 = .ok (.iinc 3 1, 3) := by decide +kernel
theorem dX7_digest_168 : decode cX7_digest 168 = .ok (.goto (-19), 3) := by decide +kernel
theorem dX7_digest_171 : decode cX7_digest 171 = .ok (.lload_n 1, 1) := by decide +kernel
theorem dX7_digest_172 : decode cX7_digest 172 = .ok (.lreturn, 1) := by decide +kernel
theorem dX7_found_0 : decode cX7_found 0 = .ok (.aload_n 0, 1) := by decide +kernel
theorem dX7_found_1 : decode cX7_found 1 = .ok (.iload_n 1, 1) := by decide +kernel
theorem dX7_found_2 : decode cX7_found 2 = .ok (.putfield 327, 3) := by decide +kernel
theorem dX7_found_5 : decode cX7_found 5 = .ok (.aload_n 0, 1) := by decide +kernel
theorem dX7_found_6 : decode cX7_found 6 = .ok (.getfield 52, 3) := by decide +kernel
theorem dX7_found_9 : decode cX7_found 9 = .ok (.iload_n 1, 1) := by decide +kernel
theorem dX7_found_10 : decode cX7_found 10 = .ok (.dup2, 1) := by decide +kernel
theorem dX7_found_11 : decode cX7_found 11 = .ok (.iaload, 1) := by decide +kernel
theorem dX7_found_12 : decode cX7_found 12 = .ok (.iconst 1, 1) := by decide +kernel
theorem dX7_found_13 : decode cX7_found 13 = .ok (.iadd, 1) := by decide +kernel
theorem dX7_found_14 : decode cX7_found 14 = .ok (.iastore, 1) := by decide +kernel
theorem dX7_found_15 : decode cX7_found 15 = .ok (.bipush (-3), 2) := by decide +kernel
theorem dX7_found_17 : decode cX7_found 17 = .ok (.ireturn, 1) := by decide +kernel
theorem dX7_isOneOf_0 : decode cX7_isOneOf 0 = .ok (.iload_n 1, 1) := by decide +kernel
theorem dX7_isOneOf_1 : decode cX7_isOneOf 1 = .ok (.ifCond .lt 13, 3) := by decide +kernel
theorem dX7_isOneOf_4 : decode cX7_isOneOf 4 = .ok (.iload_n 1, 1) := by decide +kernel
theorem dX7_isOneOf_5 : decode cX7_isOneOf 5 = .ok (.aload_n 0, 1) := by decide +kernel
theorem dX7_isOneOf_6 : decode cX7_isOneOf 6 = .ok (.arraylength, 1) := by decide +kernel
theorem dX7_isOneOf_7 : decode cX7_isOneOf 7 = .ok (.if_icmp .ge 7, 3) := by decide +kernel
theorem dX7_isOneOf_10 : decode cX7_isOneOf 10 = .ok (.iconst 1, 1) := by decide +kernel
theorem dX7_isOneOf_11 : decode cX7_isOneOf 11 = .ok (.goto 4, 3) := by decide +kernel
theorem dX7_isOneOf_14 : decode cX7_isOneOf 14 = .ok (.iconst 0, 1) := by decide +kernel
theorem dX7_isOneOf_15 : decode cX7_isOneOf 15 = .ok (.ireturn, 1) := by decide +kernel
theorem dX7_isMan_0 : decode cX7_isMan 0 = .ok (.iload_n 1, 1) := by decide +kernel
theorem dX7_isMan_1 : decode cX7_isMan 1 = .ok (.ifCond .lt 18, 3) := by decide +kernel
theorem dX7_isMan_4 : decode cX7_isMan 4 = .ok (.iload_n 1, 1) := by decide +kernel
theorem dX7_isMan_5 : decode cX7_isMan 5 = .ok (.aload_n 0, 1) := by decide +kernel
theorem dX7_isMan_6 : decode cX7_isMan 6 = .ok (.getfield 28, 3) := by decide +kernel
theorem dX7_isMan_9 : decode cX7_isMan 9 = .ok (.getfield 121, 3) := by decide +kernel
theorem dX7_isMan_12 : decode cX7_isMan 12 = .ok (.if_icmp .ge 7, 3) := by decide +kernel
theorem dX7_isMan_15 : decode cX7_isMan 15 = .ok (.iconst 1, 1) := by decide +kernel
theorem dX7_isMan_16 : decode cX7_isMan 16 = .ok (.goto 4, 3) := by decide +kernel
theorem dX7_isMan_19 : decode cX7_isMan 19 = .ok (.iconst 0, 1) := by decide +kernel
theorem dX7_isMan_20 : decode cX7_isMan 20 = .ok (.ireturn, 1) := by decide +kernel
theorem dX7_isKeptPlace_0 : decode cX7_isKeptPlace 0 = .ok (.iload_n 0, 1) := by decide +kernel
theorem dX7_isKeptPlace_1 : decode cX7_isKeptPlace 1 = .ok (.ifCond .lt 12, 3) := by decide +kernel
theorem dX7_isKeptPlace_4 : decode cX7_isKeptPlace 4 = .ok (.iload_n 0, 1) := by decide +kernel
theorem dX7_isKeptPlace_5 : decode cX7_isKeptPlace 5 = .ok (.iconst 3, 1) := by decide +kernel
theorem dX7_isKeptPlace_6 : decode cX7_isKeptPlace 6 = .ok (.if_icmp .ge 7, 3) := by decide +kernel
theorem dX7_isKeptPlace_9 : decode cX7_isKeptPlace 9 = .ok (.iconst 1, 1) := by decide +kernel
theorem dX7_isKeptPlace_10 : decode cX7_isKeptPlace 10 = .ok (.goto 4, 3) := by decide +kernel
theorem dX7_isKeptPlace_13 : decode cX7_isKeptPlace 13 = .ok (.iconst 0, 1) := by decide +kernel
theorem dX7_isKeptPlace_14 : decode cX7_isKeptPlace 14 = .ok (.ireturn, 1) := by decide +kernel
theorem dX7_missingRefusal_0 : decode cX7_missingRefusal 0 = .ok (.aload_n 1, 1) := by decide +kernel
theorem dX7_missingRefusal_1 : decode cX7_missingRefusal 1 = .ok (.iload_n 2, 1) := by decide +kernel
theorem dX7_missingRefusal_2 : decode cX7_missingRefusal 2 = .ok (.invokestatic 86, 3) := by decide +kernel
theorem dX7_missingRefusal_5 : decode cX7_missingRefusal 5 = .ok (.ifCond .ne 5, 3) := by decide +kernel
theorem dX7_missingRefusal_8 : decode cX7_missingRefusal 8 = .ok (.iconst (-1), 1) := by decide +kernel
theorem dX7_missingRefusal_9 : decode cX7_missingRefusal 9 = .ok (.ireturn, 1) := by decide +kernel
theorem dX7_missingRefusal_10 : decode cX7_missingRefusal 10 = .ok (.aload_n 1, 1) := by decide +kernel
theorem dX7_missingRefusal_11 : decode cX7_missingRefusal 11 = .ok (.iload_n 2, 1) := by decide +kernel
theorem dX7_missingRefusal_12 : decode cX7_missingRefusal 12 = .ok (.aaload, 1) := by decide +kernel
theorem dX7_missingRefusal_13 : decode cX7_missingRefusal 13 = .ok (.invokevirtual 94, 3) := by decide +kernel
theorem dX7_missingRefusal_16 : decode cX7_missingRefusal 16 = .ok (.ifCond .eq 11, 3) := by decide +kernel
theorem dX7_missingRefusal_19 : decode cX7_missingRefusal 19 = .ok (.aload_n 0, 1) := by decide +kernel
theorem dX7_missingRefusal_20 : decode cX7_missingRefusal 20 = .ok (.iconst 1, 1) := by decide +kernel
theorem dX7_missingRefusal_21 : decode cX7_missingRefusal 21 = .ok (.invokevirtual 90, 3) := by decide +kernel
theorem dX7_missingRefusal_24 : decode cX7_missingRefusal 24 = .ok (.goto 4, 3) := by decide +kernel
theorem dX7_missingRefusal_27 : decode cX7_missingRefusal 27 = .ok (.iconst 0, 1) := by decide +kernel
theorem dX7_missingRefusal_28 : decode cX7_missingRefusal 28 = .ok (.ireturn, 1) := by decide +kernel
theorem dX7_placeRefusal_0 : decode cX7_placeRefusal 0 = .ok (.aload_n 0, 1) := by decide +kernel
theorem dX7_placeRefusal_1 : decode cX7_placeRefusal 1 = .ok (.aload_n 1, 1) := by decide +kernel
theorem dX7_placeRefusal_2 : decode cX7_placeRefusal 2 = .ok (.iload_n 2, 1) := by decide +kernel
theorem dX7_placeRefusal_3 : decode cX7_placeRefusal 3 = .ok (.invokevirtual 79, 3) := by decide +kernel
theorem dX7_placeRefusal_6 : decode cX7_placeRefusal 6 = .ok (.istore 4, 2) := by decide +kernel
theorem dX7_placeRefusal_8 : decode cX7_placeRefusal 8 = .ok (.iload 4, 2) := by decide +kernel
theorem dX7_placeRefusal_10 : decode cX7_placeRefusal 10 = .ok (.ifCond .eq 6, 3) := by decide +kernel
theorem dX7_placeRefusal_13 : decode cX7_placeRefusal 13 = .ok (.iload 4, 2) := by decide +kernel
theorem dX7_placeRefusal_15 : decode cX7_placeRefusal 15 = .ok (.ireturn, 1) := by decide +kernel
theorem dX7_placeRefusal_16 : decode cX7_placeRefusal 16 = .ok (.iload_n 3, 1) := by decide +kernel
theorem dX7_placeRefusal_17 : decode cX7_placeRefusal 17 = .ok (.ifCond .lt 17, 3) := by decide +kernel
theorem dX7_placeRefusal_20 : decode cX7_placeRefusal 20 = .ok (.iload_n 3, 1) := by decide +kernel
theorem dX7_placeRefusal_21 : decode cX7_placeRefusal 21 = .ok (.aload_n 1, 1) := by decide +kernel
theorem dX7_placeRefusal_22 : decode cX7_placeRefusal 22 = .ok (.iload_n 2, 1) := by decide +kernel
theorem dX7_placeRefusal_23 : decode cX7_placeRefusal 23 = .ok (.aaload, 1) := by decide +kernel
theorem dX7_placeRefusal_24 : decode cX7_placeRefusal 24 = .ok (.getfield 83, 3) := by decide +kernel
theorem dX7_placeRefusal_27 : decode cX7_placeRefusal 27 = .ok (.if_icmp .ge 7, 3) := by decide +kernel
theorem dX7_placeRefusal_30 : decode cX7_placeRefusal 30 = .ok (.iconst 0, 1) := by decide +kernel
theorem dX7_placeRefusal_31 : decode cX7_placeRefusal 31 = .ok (.goto 8, 3) := by decide +kernel
theorem dX7_placeRefusal_34 : decode cX7_placeRefusal 34 = .ok (.aload_n 0, 1) := by decide +kernel
theorem dX7_placeRefusal_35 : decode cX7_placeRefusal 35 = .ok (.iconst 2, 1) := by decide +kernel
theorem dX7_placeRefusal_36 : decode cX7_placeRefusal 36 = .ok (.invokevirtual 90, 3) := by decide +kernel
theorem dX7_placeRefusal_39 : decode cX7_placeRefusal 39 = .ok (.ireturn, 1) := by decide +kernel
theorem dX7_laidOut_0 : decode cX7_laidOut 0 = .ok (.aload_n 1, 1) := by decide +kernel
theorem dX7_laidOut_1 : decode cX7_laidOut 1 = .ok (.iload_n 2, 1) := by decide +kernel
theorem dX7_laidOut_2 : decode cX7_laidOut 2 = .ok (.invokestatic 86, 3) := by decide +kernel
theorem dX7_laidOut_5 : decode cX7_laidOut 5 = .ok (.ifCond .eq 14, 3) := by decide +kernel
theorem dX7_laidOut_8 : decode cX7_laidOut 8 = .ok (.iload_n 3, 1) := by decide +kernel
theorem dX7_laidOut_9 : decode cX7_laidOut 9 = .ok (.aload_n 1, 1) := by decide +kernel
theorem dX7_laidOut_10 : decode cX7_laidOut 10 = .ok (.iload_n 2, 1) := by decide +kernel
theorem dX7_laidOut_11 : decode cX7_laidOut 11 = .ok (.aaload, 1) := by decide +kernel
theorem dX7_laidOut_12 : decode cX7_laidOut 12 = .ok (.getfield 72, 3) := by decide +kernel
theorem dX7_laidOut_15 : decode cX7_laidOut 15 = .ok (.arraylength, 1) := by decide +kernel
theorem dX7_laidOut_16 : decode cX7_laidOut 16 = .ok (.if_icmp .le 5, 3) := by decide +kernel
theorem dX7_laidOut_19 : decode cX7_laidOut 19 = .ok (.iconst (-1), 1) := by decide +kernel
theorem dX7_laidOut_20 : decode cX7_laidOut 20 = .ok (.ireturn, 1) := by decide +kernel
theorem dX7_laidOut_21 : decode cX7_laidOut 21 = .ok (.iload_n 3, 1) := by decide +kernel
theorem dX7_laidOut_22 : decode cX7_laidOut 22 = .ok (.ifCond .ge 9, 3) := by decide +kernel
theorem dX7_laidOut_25 : decode cX7_laidOut 25 = .ok (.aload_n 0, 1) := by decide +kernel
theorem dX7_laidOut_26 : decode cX7_laidOut 26 = .ok (.iconst 5, 1) := by decide +kernel
theorem dX7_laidOut_27 : decode cX7_laidOut 27 = .ok (.invokevirtual 90, 3) := by decide +kernel
theorem dX7_laidOut_30 : decode cX7_laidOut 30 = .ok (.ireturn, 1) := by decide +kernel
theorem dX7_laidOut_31 : decode cX7_laidOut 31 = .ok (.aload_n 1, 1) := by decide +kernel
theorem dX7_laidOut_32 : decode cX7_laidOut 32 = .ok (.iload_n 2, 1) := by decide +kernel
theorem dX7_laidOut_33 : decode cX7_laidOut 33 = .ok (.aaload, 1) := by decide +kernel
theorem dX7_laidOut_34 : decode cX7_laidOut 34 = .ok (.iload_n 3, 1) := by decide +kernel
theorem dX7_laidOut_35 : decode cX7_laidOut 35 = .ok (.iload 4, 2) := by decide +kernel
theorem dX7_laidOut_37 : decode cX7_laidOut 37 = .ok (.invokevirtual 341, 3) := by decide +kernel
theorem dX7_laidOut_40 : decode cX7_laidOut 40 = .ok (.iload_n 3, 1) := by decide +kernel
theorem dX7_laidOut_41 : decode cX7_laidOut 41 = .ok (.ireturn, 1) := by decide +kernel
theorem dX7_rowRefusal_0 : decode cX7_rowRefusal 0 = .ok (.aload_n 0, 1) := by decide +kernel
theorem dX7_rowRefusal_1 : decode cX7_rowRefusal 1 = .ok (.getfield 11, 3) := by decide +kernel
theorem dX7_rowRefusal_4 : decode cX7_rowRefusal 4 = .ok (.iload_n 1, 1) := by decide +kernel
theorem dX7_rowRefusal_5 : decode cX7_rowRefusal 5 = .ok (.invokestatic 86, 3) := by decide +kernel
theorem dX7_rowRefusal_8 : decode cX7_rowRefusal 8 = .ok (.ifCond .ne 5, 3) := by decide +kernel
theorem dX7_rowRefusal_11 : decode cX7_rowRefusal 11 = .ok (.iconst (-1), 1) := by decide +kernel
theorem dX7_rowRefusal_12 : decode cX7_rowRefusal 12 = .ok (.ireturn, 1) := by decide +kernel
theorem dX7_rowRefusal_13 : decode cX7_rowRefusal 13 = .ok (.aload_n 0, 1) := by decide +kernel
theorem dX7_rowRefusal_14 : decode cX7_rowRefusal 14 = .ok (.getfield 28, 3) := by decide +kernel
theorem dX7_rowRefusal_17 : decode cX7_rowRefusal 17 = .ok (.getfield 121, 3) := by decide +kernel
theorem dX7_rowRefusal_20 : decode cX7_rowRefusal 20 = .ok (.ifCond .ne 8, 3) := by decide +kernel
theorem dX7_rowRefusal_23 : decode cX7_rowRefusal 23 = .ok (.bipush (-4), 2) := by decide +kernel
theorem dX7_rowRefusal_25 : decode cX7_rowRefusal 25 = .ok (.goto 4, 3) := by decide +kernel
theorem dX7_rowRefusal_28 : decode cX7_rowRefusal 28 = .ok (.iconst 0, 1) := by decide +kernel
theorem dX7_rowRefusal_29 : decode cX7_rowRefusal 29 = .ok (.ireturn, 1) := by decide +kernel
theorem dX7_heatRefusal_0 : decode cX7_heatRefusal 0 = .ok (.iload_n 1, 1) := by decide +kernel
theorem dX7_heatRefusal_1 : decode cX7_heatRefusal 1 = .ok (.ifCond .lt 9, 3) := by decide +kernel
theorem dX7_heatRefusal_4 : decode cX7_heatRefusal 4 = .ok (.iload_n 1, 1) := by decide +kernel
theorem dX7_heatRefusal_5 : decode cX7_heatRefusal 5 = .ok (.bipush 30, 2) := by decide +kernel
theorem dX7_heatRefusal_7 : decode cX7_heatRefusal 7 = .ok (.if_icmp .le 5, 3) := by decide +kernel
theorem dX7_heatRefusal_10 : decode cX7_heatRefusal 10 = .ok (.iconst (-1), 1) := by decide +kernel
theorem dX7_heatRefusal_11 : decode cX7_heatRefusal 11 = .ok (.ireturn, 1) := by decide +kernel
theorem dX7_heatRefusal_12 : decode cX7_heatRefusal 12 = .ok (.aload_n 0, 1) := by decide +kernel
theorem dX7_heatRefusal_13 : decode cX7_heatRefusal 13 = .ok (.getfield 28, 3) := by decide +kernel
theorem dX7_heatRefusal_16 : decode cX7_heatRefusal 16 = .ok (.getfield 121, 3) := by decide +kernel
theorem dX7_heatRefusal_19 : decode cX7_heatRefusal 19 = .ok (.ifCond .ne 8, 3) := by decide +kernel
theorem dX7_heatRefusal_22 : decode cX7_heatRefusal 22 = .ok (.bipush (-4), 2) := by decide +kernel
theorem dX7_heatRefusal_24 : decode cX7_heatRefusal 24 = .ok (.goto 4, 3) := by decide +kernel
theorem dX7_heatRefusal_27 : decode cX7_heatRefusal 27 = .ok (.iconst 0, 1) := by decide +kernel
theorem dX7_heatRefusal_28 : decode cX7_heatRefusal 28 = .ok (.ireturn, 1) := by decide +kernel
theorem dX7_chanceRefusal_0 : decode cX7_chanceRefusal 0 = .ok (.iload_n 1, 1) := by decide +kernel
theorem dX7_chanceRefusal_1 : decode cX7_chanceRefusal 1 = .ok (.ifCond .lt 9, 3) := by decide +kernel
theorem dX7_chanceRefusal_4 : decode cX7_chanceRefusal 4 = .ok (.iload_n 1, 1) := by decide +kernel
theorem dX7_chanceRefusal_5 : decode cX7_chanceRefusal 5 = .ok (.bipush 12, 2) := by decide +kernel
theorem dX7_chanceRefusal_7 : decode cX7_chanceRefusal 7 = .ok (.if_icmp .le 5, 3) := by decide +kernel
theorem dX7_chanceRefusal_10 : decode cX7_chanceRefusal 10 = .ok (.iconst (-1), 1) := by decide +kernel
theorem dX7_chanceRefusal_11 : decode cX7_chanceRefusal 11 = .ok (.ireturn, 1) := by decide +kernel
theorem dX7_chanceRefusal_12 : decode cX7_chanceRefusal 12 = .ok (.aload_n 0, 1) := by decide +kernel
theorem dX7_chanceRefusal_13 : decode cX7_chanceRefusal 13 = .ok (.getfield 28, 3) := by decide +kernel
theorem dX7_chanceRefusal_16 : decode cX7_chanceRefusal 16 = .ok (.getfield 121, 3) := by decide +kernel
theorem dX7_chanceRefusal_19 : decode cX7_chanceRefusal 19 = .ok (.ifCond .ne 8, 3) := by decide +kernel
theorem dX7_chanceRefusal_22 : decode cX7_chanceRefusal 22 = .ok (.bipush (-4), 2) := by decide +kernel
theorem dX7_chanceRefusal_24 : decode cX7_chanceRefusal 24 = .ok (.goto 4, 3) := by decide +kernel
theorem dX7_chanceRefusal_27 : decode cX7_chanceRefusal 27 = .ok (.iconst 0, 1) := by decide +kernel
theorem dX7_chanceRefusal_28 : decode cX7_chanceRefusal 28 = .ok (.ireturn, 1) := by decide +kernel
theorem dX7_trialsRefusal_0 : decode cX7_trialsRefusal 0 = .ok (.aload_n 0, 1) := by decide +kernel
theorem dX7_trialsRefusal_1 : decode cX7_trialsRefusal 1 = .ok (.iload_n 1, 1) := by decide +kernel
theorem dX7_trialsRefusal_2 : decode cX7_trialsRefusal 2 = .ok (.invokevirtual 221, 3) := by decide +kernel
theorem dX7_trialsRefusal_5 : decode cX7_trialsRefusal 5 = .ok (.istore_n 2, 1) := by decide +kernel
theorem dX7_trialsRefusal_6 : decode cX7_trialsRefusal 6 = .ok (.iload_n 2, 1) := by decide +kernel
theorem dX7_trialsRefusal_7 : decode cX7_trialsRefusal 7 = .ok (.ifCond .eq 5, 3) := by decide +kernel
theorem dX7_trialsRefusal_10 : decode cX7_trialsRefusal 10 = .ok (.iload_n 2, 1) := by decide +kernel
theorem dX7_trialsRefusal_11 : decode cX7_trialsRefusal 11 = .ok (.ireturn, 1) := by decide +kernel
theorem dX7_trialsRefusal_12 : decode cX7_trialsRefusal 12 = .ok (.aload_n 0, 1) := by decide +kernel
theorem dX7_trialsRefusal_13 : decode cX7_trialsRefusal 13 = .ok (.getfield 11, 3) := by decide +kernel
theorem dX7_trialsRefusal_16 : decode cX7_trialsRefusal 16 = .ok (.iload_n 1, 1) := by decide +kernel
theorem dX7_trialsRefusal_17 : decode cX7_trialsRefusal 17 = .ok (.aaload, 1) := by decide +kernel
theorem dX7_trialsRefusal_18 : decode cX7_trialsRefusal 18 = .ok (.aload_n 0, 1) := by decide +kernel
theorem dX7_trialsRefusal_19 : decode cX7_trialsRefusal 19 = .ok (.getfield 28, 3) := by decide +kernel
theorem dX7_trialsRefusal_22 : decode cX7_trialsRefusal 22 = .ok (.getfield 121, 3) := by decide +kernel
theorem dX7_trialsRefusal_25 : decode cX7_trialsRefusal 25 = .ok (.invokestatic 344, 3) := by decide +kernel
theorem dX7_trialsRefusal_28 : decode cX7_trialsRefusal 28 = .ok (.istore_n 3, 1) := by decide +kernel
theorem dX7_trialsRefusal_29 : decode cX7_trialsRefusal 29 = .ok (.iload_n 3, 1) := by decide +kernel
theorem dX7_trialsRefusal_30 : decode cX7_trialsRefusal 30 = .ok (.ifCond .ne 7, 3) := by decide +kernel
theorem dX7_trialsRefusal_33 : decode cX7_trialsRefusal 33 = .ok (.iconst 0, 1) := by decide +kernel
theorem dX7_trialsRefusal_34 : decode cX7_trialsRefusal 34 = .ok (.goto 8, 3) := by decide +kernel
theorem dX7_trialsRefusal_37 : decode cX7_trialsRefusal 37 = .ok (.aload_n 0, 1) := by decide +kernel
theorem dX7_trialsRefusal_38 : decode cX7_trialsRefusal 38 = .ok (.iload_n 3, 1) := by decide +kernel
theorem dX7_trialsRefusal_39 : decode cX7_trialsRefusal 39 = .ok (.invokevirtual 90, 3) := by decide +kernel
theorem dX7_trialsRefusal_42 : decode cX7_trialsRefusal 42 = .ok (.ireturn, 1) := by decide +kernel
theorem dX7_suppositionRefusal_0 : decode cX7_suppositionRefusal 0 = .ok (.aload_n 0, 1) := by decide +kernel
theorem dX7_suppositionRefusal_1 : decode cX7_suppositionRefusal 1 = .ok (.iload_n 1, 1) := by decide +kernel
theorem dX7_suppositionRefusal_2 : decode cX7_suppositionRefusal 2 = .ok (.invokevirtual 122, 3) := by decide +kernel
theorem dX7_suppositionRefusal_5 : decode cX7_suppositionRefusal 5 = .ok (.ifCond .eq 14, 3) := by decide +kernel
theorem dX7_suppositionRefusal_8 : decode cX7_suppositionRefusal 8 = .ok (.aload_n 0, 1) := by decide +kernel
theorem dX7_suppositionRefusal_9 : decode cX7_suppositionRefusal 9 = .ok (.getfield 11, 3) := by decide +kernel
theorem dX7_suppositionRefusal_12 : decode cX7_suppositionRefusal 12 = .ok (.iload_n 2, 1) := by decide +kernel
theorem dX7_suppositionRefusal_13 : decode cX7_suppositionRefusal 13 = .ok (.invokestatic 86, 3) := by decide +kernel
theorem dX7_suppositionRefusal_16 : decode cX7_suppositionRefusal 16 = .ok (.ifCond .ne 5, 3) := by decide +kernel
theorem dX7_suppositionRefusal_19 : decode cX7_suppositionRefusal 19 = .ok (.iconst (-1), 1) := by decide +kernel
theorem dX7_suppositionRefusal_20 : decode cX7_suppositionRefusal 20 = .ok (.ireturn, 1) := by decide +kernel
theorem dX7_suppositionRefusal_21 : decode cX7_suppositionRefusal 21 = .ok (.aload_n 0, 1) := by decide +kernel
theorem dX7_suppositionRefusal_22 : decode cX7_suppositionRefusal 22 = .ok (.getfield 11, 3) := by decide +kernel
theorem dX7_suppositionRefusal_25 : decode cX7_suppositionRefusal 25 = .ok (.iload_n 2, 1) := by decide +kernel
theorem dX7_suppositionRefusal_26 : decode cX7_suppositionRefusal 26 = .ok (.aaload, 1) := by decide +kernel
theorem dX7_suppositionRefusal_27 : decode cX7_suppositionRefusal 27 = .ok (.bipush 31, 2) := by decide +kernel
theorem dX7_suppositionRefusal_29 : decode cX7_suppositionRefusal 29 = .ok (.invokestatic 344, 3) := by decide +kernel
theorem dX7_suppositionRefusal_32 : decode cX7_suppositionRefusal 32 = .ok (.istore_n 3, 1) := by decide +kernel
theorem dX7_suppositionRefusal_33 : decode cX7_suppositionRefusal 33 = .ok (.iload_n 3, 1) := by decide +kernel
theorem dX7_suppositionRefusal_34 : decode cX7_suppositionRefusal 34 = .ok (.ifCond .ne 7, 3) := by decide +kernel
theorem dX7_suppositionRefusal_37 : decode cX7_suppositionRefusal 37 = .ok (.iconst 0, 1) := by decide +kernel
theorem dX7_suppositionRefusal_38 : decode cX7_suppositionRefusal 38 = .ok (.goto 8, 3) := by decide +kernel
theorem dX7_suppositionRefusal_41 : decode cX7_suppositionRefusal 41 = .ok (.aload_n 0, 1) := by decide +kernel
theorem dX7_suppositionRefusal_42 : decode cX7_suppositionRefusal 42 = .ok (.iload_n 3, 1) := by decide +kernel
theorem dX7_suppositionRefusal_43 : decode cX7_suppositionRefusal 43 = .ok (.invokevirtual 90, 3) := by decide +kernel
theorem dX7_suppositionRefusal_46 : decode cX7_suppositionRefusal 46 = .ok (.ireturn, 1) := by decide +kernel
theorem dX7_pairsFinding_0 : decode cX7_pairsFinding 0 = .ok (.aload_n 0, 1) := by decide +kernel
theorem dX7_pairsFinding_1 : decode cX7_pairsFinding 1 = .ok (.invokevirtual 94, 3) := by decide +kernel
theorem dX7_pairsFinding_4 : decode cX7_pairsFinding 4 = .ok (.ifCond .eq 5, 3) := by decide +kernel
theorem dX7_pairsFinding_7 : decode cX7_pairsFinding 7 = .ok (.iconst 1, 1) := by decide +kernel
theorem dX7_pairsFinding_8 : decode cX7_pairsFinding 8 = .ok (.ireturn, 1) := by decide +kernel
theorem dX7_pairsFinding_9 : decode cX7_pairsFinding 9 = .ok (.aload_n 0, 1) := by decide +kernel
theorem dX7_pairsFinding_10 : decode cX7_pairsFinding 10 = .ok (.getfield 83, 3) := by decide +kernel
theorem dX7_pairsFinding_13 : decode cX7_pairsFinding 13 = .ok (.iconst 2, 1) := by decide +kernel
theorem dX7_pairsFinding_14 : decode cX7_pairsFinding 14 = .ok (.irem, 1) := by decide +kernel
theorem dX7_pairsFinding_15 : decode cX7_pairsFinding 15 = .ok (.ifCond .eq 5, 3) := by decide +kernel
theorem dX7_pairsFinding_18 : decode cX7_pairsFinding 18 = .ok (.iconst 5, 1) := by decide +kernel
theorem dX7_pairsFinding_19 : decode cX7_pairsFinding 19 = .ok (.ireturn, 1) := by decide +kernel
theorem dX7_pairsFinding_20 : decode cX7_pairsFinding 20 = .ok (.iconst 0, 1) := by decide +kernel
theorem dX7_pairsFinding_21 : decode cX7_pairsFinding 21 = .ok (.istore_n 2, 1) := by decide +kernel
theorem dX7_pairsFinding_22 : decode cX7_pairsFinding 22 = .ok (.iload_n 2, 1) := by decide +kernel
theorem dX7_pairsFinding_23 : decode cX7_pairsFinding 23 = .ok (.aload_n 0, 1) := by decide +kernel
theorem dX7_pairsFinding_24 : decode cX7_pairsFinding 24 = .ok (.getfield 83, 3) := by decide +kernel
theorem dX7_pairsFinding_27 : decode cX7_pairsFinding 27 = .ok (.if_icmp .ge 42, 3) := by decide +kernel
theorem dX7_pairsFinding_30 : decode cX7_pairsFinding 30 = .ok (.iload_n 2, 1) := by decide +kernel
theorem dX7_pairsFinding_31 : decode cX7_pairsFinding 31 = .ok (.iconst 2, 1) := by decide +kernel
theorem dX7_pairsFinding_32 : decode cX7_pairsFinding 32 = .ok (.irem, 1) := by decide +kernel
theorem dX7_pairsFinding_33 : decode cX7_pairsFinding 33 = .ok (.ifCond .ne 7, 3) := by decide +kernel
theorem dX7_pairsFinding_36 : decode cX7_pairsFinding 36 = .ok (.iload_n 1, 1) := by decide +kernel
theorem dX7_pairsFinding_37 : decode cX7_pairsFinding 37 = .ok (.goto 4, 3) := by decide +kernel
theorem dX7_pairsFinding_40 : decode cX7_pairsFinding 40 = .ok (.iconst 3, 1) := by decide +kernel
theorem dX7_pairsFinding_41 : decode cX7_pairsFinding 41 = .ok (.istore_n 3, 1) := by decide +kernel
theorem dX7_pairsFinding_42 : decode cX7_pairsFinding 42 = .ok (.aload_n 0, 1) := by decide +kernel
theorem dX7_pairsFinding_43 : decode cX7_pairsFinding 43 = .ok (.getfield 72, 3) := by decide +kernel
theorem dX7_pairsFinding_46 : decode cX7_pairsFinding 46 = .ok (.iload_n 2, 1) := by decide +kernel
theorem dX7_pairsFinding_47 : decode cX7_pairsFinding 47 = .ok (.iaload, 1) := by decide +kernel
theorem dX7_pairsFinding_48 : decode cX7_pairsFinding 48 = .ok (.ifCond .lt 13, 3) := by decide +kernel
theorem dX7_pairsFinding_51 : decode cX7_pairsFinding 51 = .ok (.aload_n 0, 1) := by decide +kernel
theorem dX7_pairsFinding_52 : decode cX7_pairsFinding 52 = .ok (.getfield 72, 3) := by decide +kernel
theorem dX7_pairsFinding_55 : decode cX7_pairsFinding 55 = .ok (.iload_n 2, 1) := by decide +kernel
theorem dX7_pairsFinding_56 : decode cX7_pairsFinding 56 = .ok (.iaload, 1) := by decide +kernel
theorem dX7_pairsFinding_57 : decode cX7_pairsFinding 57 = .ok (.iload_n 3, 1) := by decide +kernel
theorem dX7_pairsFinding_58 : decode cX7_pairsFinding 58 = .ok (.if_icmp .lt 5, 3) := by decide +kernel
theorem dX7_pairsFinding_61 : decode cX7_pairsFinding 61 = .ok (.iconst 3, 1) := by decide +kernel
theorem dX7_pairsFinding_62 : decode cX7_pairsFinding 62 = .ok (.ireturn, 1) := by decide +kernel
theorem dX7_pairsFinding_63 : decode cX7_pairsFinding 63 = .ok (.iinc 2 1, 3) := by decide +kernel
theorem dX7_pairsFinding_66 : decode cX7_pairsFinding 66 = .ok (.goto (-44), 3) := by decide +kernel
theorem dX7_pairsFinding_69 : decode cX7_pairsFinding 69 = .ok (.iconst 0, 1) := by decide +kernel
theorem dX7_pairsFinding_70 : decode cX7_pairsFinding 70 = .ok (.ireturn, 1) := by decide +kernel
theorem dX7_orderFinding_0 : decode cX7_orderFinding 0 = .ok (.aload_n 1, 1) := by decide +kernel
theorem dX7_orderFinding_1 : decode cX7_orderFinding 1 = .ok (.invokevirtual 94, 3) := by decide +kernel
theorem dX7_orderFinding_4 : decode cX7_orderFinding 4 = .ok (.ifCond .eq 5, 3) := by decide +kernel
theorem dX7_orderFinding_7 : decode cX7_orderFinding 7 = .ok (.iconst 1, 1) := by decide +kernel
theorem dX7_orderFinding_8 : decode cX7_orderFinding 8 = .ok (.ireturn, 1) := by decide +kernel
theorem dX7_orderFinding_9 : decode cX7_orderFinding 9 = .ok (.aload_n 1, 1) := by decide +kernel
theorem dX7_orderFinding_10 : decode cX7_orderFinding 10 = .ok (.getfield 83, 3) := by decide +kernel
theorem dX7_orderFinding_13 : decode cX7_orderFinding 13 = .ok (.bipush 6, 2) := by decide +kernel
theorem dX7_orderFinding_15 : decode cX7_orderFinding 15 = .ok (.if_icmp .le 5, 3) := by decide +kernel
theorem dX7_orderFinding_18 : decode cX7_orderFinding 18 = .ok (.iconst 5, 1) := by decide +kernel
theorem dX7_orderFinding_19 : decode cX7_orderFinding 19 = .ok (.ireturn, 1) := by decide +kernel
theorem dX7_orderFinding_20 : decode cX7_orderFinding 20 = .ok (.aload_n 0, 1) := by decide +kernel
theorem dX7_orderFinding_21 : decode cX7_orderFinding 21 = .ok (.getfield 28, 3) := by decide +kernel
theorem dX7_orderFinding_24 : decode cX7_orderFinding 24 = .ok (.invokevirtual 311, 3) := by decide +kernel
theorem dX7_orderFinding_27 : decode cX7_orderFinding 27 = .ok (.istore_n 2, 1) := by decide +kernel
theorem dX7_orderFinding_28 : decode cX7_orderFinding 28 = .ok (.iconst 0, 1) := by decide +kernel
theorem dX7_orderFinding_29 : decode cX7_orderFinding 29 = .ok (.istore_n 3, 1) := by decide +kernel
theorem dX7_orderFinding_30 : decode cX7_orderFinding 30 = .ok (.iload_n 3, 1) := by decide +kernel
theorem dX7_orderFinding_31 : decode cX7_orderFinding 31 = .ok (.aload_n 1, 1) := by decide +kernel
theorem dX7_orderFinding_32 : decode cX7_orderFinding 32 = .ok (.getfield 83, 3) := by decide +kernel
theorem dX7_orderFinding_35 : decode cX7_orderFinding 35 = .ok (.if_icmp .ge 44, 3) := by decide +kernel
theorem dX7_orderFinding_38 : decode cX7_orderFinding 38 = .ok (.aload_n 1, 1) := by decide +kernel
theorem dX7_orderFinding_39 : decode cX7_orderFinding 39 = .ok (.getfield 72, 3) := by decide +kernel
theorem dX7_orderFinding_42 : decode cX7_orderFinding 42 = .ok (.iload_n 3, 1) := by decide +kernel
theorem dX7_orderFinding_43 : decode cX7_orderFinding 43 = .ok (.iaload, 1) := by decide +kernel
theorem dX7_orderFinding_44 : decode cX7_orderFinding 44 = .ok (.istore 4, 2) := by decide +kernel
theorem dX7_orderFinding_46 : decode cX7_orderFinding 46 = .ok (.aload_n 0, 1) := by decide +kernel
theorem dX7_orderFinding_47 : decode cX7_orderFinding 47 = .ok (.iload 4, 2) := by decide +kernel
theorem dX7_orderFinding_49 : decode cX7_orderFinding 49 = .ok (.invokevirtual 122, 3) := by decide +kernel
theorem dX7_orderFinding_52 : decode cX7_orderFinding 52 = .ok (.ifCond .eq 12, 3) := by decide +kernel
theorem dX7_orderFinding_55 : decode cX7_orderFinding 55 = .ok (.iload_n 2, 1) := by decide +kernel
theorem dX7_orderFinding_56 : decode cX7_orderFinding 56 = .ok (.iconst 1, 1) := by decide +kernel
theorem dX7_orderFinding_57 : decode cX7_orderFinding 57 = .ok (.iload 4, 2) := by decide +kernel
theorem dX7_orderFinding_59 : decode cX7_orderFinding 59 = .ok (.ishl, 1) := by decide +kernel
theorem dX7_orderFinding_60 : decode cX7_orderFinding 60 = .ok (.iand, 1) := by decide +kernel
theorem dX7_orderFinding_61 : decode cX7_orderFinding 61 = .ok (.ifCond .eq 5, 3) := by decide +kernel
theorem dX7_orderFinding_64 : decode cX7_orderFinding 64 = .ok (.iconst 3, 1) := by decide +kernel
theorem dX7_orderFinding_65 : decode cX7_orderFinding 65 = .ok (.ireturn, 1) := by decide +kernel
theorem dX7_orderFinding_66 : decode cX7_orderFinding 66 = .ok (.iload_n 2, 1) := by decide +kernel
theorem dX7_orderFinding_67 : decode cX7_orderFinding 67 = .ok (.iconst 1, 1) := by decide +kernel
theorem dX7_orderFinding_68 : decode cX7_orderFinding 68 = .ok (.iload 4, 2) := by decide +kernel
theorem dX7_orderFinding_70 : decode cX7_orderFinding 70 = .ok (.ishl, 1) := by decide +kernel
theorem dX7_orderFinding_71 : decode cX7_orderFinding 71 = .ok (.ior, 1) := by decide +kernel
theorem dX7_orderFinding_72 : decode cX7_orderFinding 72 = .ok (.istore_n 2, 1) := by decide +kernel
theorem dX7_orderFinding_73 : decode cX7_orderFinding 73 = .ok (.iinc 3 1, 3) := by decide +kernel
theorem dX7_orderFinding_76 : decode cX7_orderFinding 76 = .ok (.goto (-46), 3) := by decide +kernel
theorem dX7_orderFinding_79 : decode cX7_orderFinding 79 = .ok (.iconst 0, 1) := by decide +kernel
theorem dX7_orderFinding_80 : decode cX7_orderFinding 80 = .ok (.ireturn, 1) := by decide +kernel
theorem dX7_tellFraction_0 : decode cX7_tellFraction 0 = .ok (.lload_n 3, 1) := by decide +kernel
theorem dX7_tellFraction_1 : decode cX7_tellFraction 1 = .ok (.lload_n 1, 1) := by decide +kernel
theorem dX7_tellFraction_2 : decode cX7_tellFraction 2 = .ok (.invokestatic 348, 3) := by decide +kernel
theorem dX7_tellFraction_5 : decode cX7_tellFraction 5 = .ok (.lstore 5, 2) := by decide +kernel
theorem dX7_tellFraction_7 : decode cX7_tellFraction 7 = .ok (.aload_n 0, 1) := by decide +kernel
theorem dX7_tellFraction_8 : decode cX7_tellFraction 8 = .ok (.lload 5, 2) := by decide +kernel
theorem dX7_tellFraction_10 : decode cX7_tellFraction 10 = .ok (.lconst 0, 1) := by decide +kernel
theorem dX7_tellFraction_11 : decode cX7_tellFraction 11 = .ok (.lcmp, 1) := by decide +kernel
theorem dX7_tellFraction_12 : decode cX7_tellFraction 12 = .ok (.ifCond .ne 7, 3) := by decide +kernel
theorem dX7_tellFraction_15 : decode cX7_tellFraction 15 = .ok (.lconst 0, 1) := by decide +kernel
theorem dX7_tellFraction_16 : decode cX7_tellFraction 16 = .ok (.goto 7, 3) := by decide +kernel
theorem dX7_tellFraction_19 : decode cX7_tellFraction 19 = .ok (.lload_n 1, 1) := by decide +kernel
theorem dX7_tellFraction_20 : decode cX7_tellFraction 20 = .ok (.lload 5, 2) := by decide +kernel
theorem dX7_tellFraction_22 : decode cX7_tellFraction 22 = .ok (.ldiv, 1) := by decide +kernel
theorem dX7_tellFraction_23 : decode cX7_tellFraction 23 = .ok (.putfield 308, 3) := by decide +kernel
theorem dX7_tellFraction_26 : decode cX7_tellFraction 26 = .ok (.aload_n 0, 1) := by decide +kernel
theorem dX7_tellFraction_27 : decode cX7_tellFraction 27 = .ok (.lload 5, 2) := by decide +kernel
theorem dX7_tellFraction_29 : decode cX7_tellFraction 29 = .ok (.lconst 0, 1) := by decide +kernel
theorem dX7_tellFraction_30 : decode cX7_tellFraction 30 = .ok (.lcmp, 1) := by decide +kernel
theorem dX7_tellFraction_31 : decode cX7_tellFraction 31 = .ok (.ifCond .ne 7, 3) := by decide +kernel
theorem dX7_tellFraction_34 : decode cX7_tellFraction 34 = .ok (.lconst 1, 1) := by decide +kernel
theorem dX7_tellFraction_35 : decode cX7_tellFraction 35 = .ok (.goto 7, 3) := by decide +kernel
theorem dX7_tellFraction_38 : decode cX7_tellFraction 38 = .ok (.lload_n 3, 1) := by decide +kernel
theorem dX7_tellFraction_39 : decode cX7_tellFraction 39 = .ok (.lload 5, 2) := by decide +kernel
theorem dX7_tellFraction_41 : decode cX7_tellFraction 41 = .ok (.ldiv, 1) := by decide +kernel
theorem dX7_tellFraction_42 : decode cX7_tellFraction 42 = .ok (.putfield 56, 3) := by decide +kernel
theorem dX7_tellFraction_45 : decode cX7_tellFraction 45 = .ok (.return_, 1) := by decide +kernel
theorem dX7_commonDivisor_0 : decode cX7_commonDivisor 0 = .ok (.lload_n 0, 1) := by decide +kernel
theorem dX7_commonDivisor_1 : decode cX7_commonDivisor 1 = .ok (.lstore 4, 2) := by decide +kernel
theorem dX7_commonDivisor_3 : decode cX7_commonDivisor 3 = .ok (.lload_n 2, 1) := by decide +kernel
theorem dX7_commonDivisor_4 : decode cX7_commonDivisor 4 = .ok (.lstore 6, 2) := by decide +kernel
theorem dX7_commonDivisor_6 : decode cX7_commonDivisor 6 = .ok (.iconst 0, 1) := by decide +kernel
theorem dX7_commonDivisor_7 : decode cX7_commonDivisor 7 = .ok (.istore 8, 2) := by decide +kernel
theorem dX7_commonDivisor_9 : decode cX7_commonDivisor 9 = .ok (.iload 8, 2) := by decide +kernel
theorem dX7_commonDivisor_11 : decode cX7_commonDivisor 11 = .ok (.bipush 100, 2) := by decide +kernel
theorem dX7_commonDivisor_13 : decode cX7_commonDivisor 13 = .ok (.if_icmp .ge 31, 3) := by decide +kernel
theorem dX7_commonDivisor_16 : decode cX7_commonDivisor 16 = .ok (.lload 6, 2) := by decide +kernel
theorem dX7_commonDivisor_18 : decode cX7_commonDivisor 18 = .ok (.lconst 0, 1) := by decide +kernel
theorem dX7_commonDivisor_19 : decode cX7_commonDivisor 19 = .ok (.lcmp, 1) := by decide +kernel
theorem dX7_commonDivisor_20 : decode cX7_commonDivisor 20 = .ok (.ifCond .eq 24, 3) := by decide +kernel
theorem dX7_commonDivisor_23 : decode cX7_commonDivisor 23 = .ok (.lload 4, 2) := by decide +kernel
theorem dX7_commonDivisor_25 : decode cX7_commonDivisor 25 = .ok (.lload 6, 2) := by decide +kernel
theorem dX7_commonDivisor_27 : decode cX7_commonDivisor 27 = .ok (.lrem, 1) := by decide +kernel
theorem dX7_commonDivisor_28 : decode cX7_commonDivisor 28 = .ok (.lstore 9, 2) := by decide +kernel
theorem dX7_commonDivisor_30 : decode cX7_commonDivisor 30 = .ok (.lload 6, 2) := by decide +kernel
theorem dX7_commonDivisor_32 : decode cX7_commonDivisor 32 = .ok (.lstore 4, 2) := by decide +kernel
theorem dX7_commonDivisor_34 : decode cX7_commonDivisor 34 = .ok (.lload 9, 2) := by decide +kernel
theorem dX7_commonDivisor_36 : decode cX7_commonDivisor 36 = .ok (.lstore 6, 2) := by decide +kernel
theorem dX7_commonDivisor_38 : decode cX7_commonDivisor 38 = .ok (.iinc 8 1, 3) := by decide +kernel
theorem dX7_commonDivisor_41 : decode cX7_commonDivisor 41 = .ok (.goto (-32), 3) := by decide +kernel
theorem dX7_commonDivisor_44 : decode cX7_commonDivisor 44 = .ok (.lload 4, 2) := by decide +kernel
theorem dX7_commonDivisor_46 : decode cX7_commonDivisor 46 = .ok (.lreturn, 1) := by decide +kernel
theorem dX7_howManyThere_0 : decode cX7_howManyThere 0 = .ok (.iconst 0, 1) := by decide +kernel
theorem dX7_howManyThere_1 : decode cX7_howManyThere 1 = .ok (.istore_n 1, 1) := by decide +kernel
theorem dX7_howManyThere_2 : decode cX7_howManyThere 2 = .ok (.iconst 0, 1) := by decide +kernel
theorem dX7_howManyThere_3 : decode cX7_howManyThere 3 = .ok (.istore_n 2, 1) := by decide +kernel
theorem dX7_howManyThere_4 : decode cX7_howManyThere 4 = .ok (.iload_n 2, 1) := by decide +kernel
theorem dX7_howManyThere_5 : decode cX7_howManyThere 5 = .ok (.aload_n 0, 1) := by decide +kernel
theorem dX7_howManyThere_6 : decode cX7_howManyThere 6 = .ok (.arraylength, 1) := by decide +kernel
theorem dX7_howManyThere_7 : decode cX7_howManyThere 7 = .ok (.if_icmp .ge 26, 3) := by decide +kernel
theorem dX7_howManyThere_10 : decode cX7_howManyThere 10 = .ok (.iload_n 1, 1) := by decide +kernel
theorem dX7_howManyThere_11 : decode cX7_howManyThere 11 = .ok (.aload_n 0, 1) := by decide +kernel
theorem dX7_howManyThere_12 : decode cX7_howManyThere 12 = .ok (.iload_n 2, 1) := by decide +kernel
theorem dX7_howManyThere_13 : decode cX7_howManyThere 13 = .ok (.aaload, 1) := by decide +kernel
theorem dX7_howManyThere_14 : decode cX7_howManyThere 14 = .ok (.invokevirtual 94, 3) := by decide +kernel
theorem dX7_howManyThere_17 : decode cX7_howManyThere 17 = .ok (.ifCond .eq 7, 3) := by decide +kernel
theorem dX7_howManyThere_20 : decode cX7_howManyThere 20 = .ok (.iconst 0, 1) := by decide +kernel
theorem dX7_howManyThere_21 : decode cX7_howManyThere 21 = .ok (.goto 4, 3) := by decide +kernel
theorem dX7_howManyThere_24 : decode cX7_howManyThere 24 = .ok (.iconst 1, 1) := by decide +kernel
theorem dX7_howManyThere_25 : decode cX7_howManyThere 25 = .ok (.iadd, 1) := by decide +kernel
theorem dX7_howManyThere_26 : decode cX7_howManyThere 26 = .ok (.istore_n 1, 1) := by decide +kernel
theorem dX7_howManyThere_27 : decode cX7_howManyThere 27 = .ok (.iinc 2 1, 3) := by decide +kernel
theorem dX7_howManyThere_30 : decode cX7_howManyThere 30 = .ok (.goto (-26), 3) := by decide +kernel
theorem dX7_howManyThere_33 : decode cX7_howManyThere 33 = .ok (.iload_n 1, 1) := by decide +kernel
theorem dX7_howManyThere_34 : decode cX7_howManyThere 34 = .ok (.ireturn, 1) := by decide +kernel
theorem dX7_courtsKept_0 : decode cX7_courtsKept 0 = .ok (.iconst 0, 1) := by decide +kernel
theorem dX7_courtsKept_1 : decode cX7_courtsKept 1 = .ok (.istore_n 1, 1) := by decide +kernel
theorem dX7_courtsKept_2 : decode cX7_courtsKept 2 = .ok (.iconst 0, 1) := by decide +kernel
theorem dX7_courtsKept_3 : decode cX7_courtsKept 3 = .ok (.istore_n 2, 1) := by decide +kernel
theorem dX7_courtsKept_4 : decode cX7_courtsKept 4 = .ok (.iload_n 2, 1) := by decide +kernel
theorem dX7_courtsKept_5 : decode cX7_courtsKept 5 = .ok (.iconst 3, 1) := by decide +kernel
theorem dX7_courtsKept_6 : decode cX7_courtsKept 6 = .ok (.if_icmp .ge 30, 3) := by decide +kernel
theorem dX7_courtsKept_9 : decode cX7_courtsKept 9 = .ok (.iload_n 1, 1) := by decide +kernel
theorem dX7_courtsKept_10 : decode cX7_courtsKept 10 = .ok (.aload_n 0, 1) := by decide +kernel
theorem dX7_courtsKept_11 : decode cX7_courtsKept 11 = .ok (.getfield 34, 3) := by decide +kernel
theorem dX7_courtsKept_14 : decode cX7_courtsKept 14 = .ok (.iload_n 2, 1) := by decide +kernel
theorem dX7_courtsKept_15 : decode cX7_courtsKept 15 = .ok (.aaload, 1) := by decide +kernel
theorem dX7_courtsKept_16 : decode cX7_courtsKept 16 = .ok (.getfield 120, 3) := by decide +kernel
theorem dX7_courtsKept_19 : decode cX7_courtsKept 19 = .ok (.iconst (-1), 1) := by decide +kernel
theorem dX7_courtsKept_20 : decode cX7_courtsKept 20 = .ok (.if_icmp .ne 7, 3) := by decide +kernel
theorem dX7_courtsKept_23 : decode cX7_courtsKept 23 = .ok (.iconst 0, 1) := by decide +kernel
theorem dX7_courtsKept_24 : decode cX7_courtsKept 24 = .ok (.goto 4, 3) := by decide +kernel
theorem dX7_courtsKept_27 : decode cX7_courtsKept 27 = .ok (.iconst 1, 1) := by decide +kernel
theorem dX7_courtsKept_28 : decode cX7_courtsKept 28 = .ok (.iadd, 1) := by decide +kernel
theorem dX7_courtsKept_29 : decode cX7_courtsKept 29 = .ok (.istore_n 1, 1) := by decide +kernel
theorem dX7_courtsKept_30 : decode cX7_courtsKept 30 = .ok (.iinc 2 1, 3) := by decide +kernel
theorem dX7_courtsKept_33 : decode cX7_courtsKept 33 = .ok (.goto (-29), 3) := by decide +kernel
theorem dX7_courtsKept_36 : decode cX7_courtsKept 36 = .ok (.iload_n 1, 1) := by decide +kernel
theorem dX7_courtsKept_37 : decode cX7_courtsKept 37 = .ok (.ireturn, 1) := by decide +kernel
theorem dJ6_bitCount_0f7a4_0 : decode cJ6_bitCount_0f7a4 0 = .ok (.iload_n 0, 1) := by decide +kernel
theorem dJ6_bitCount_0f7a4_1 : decode cJ6_bitCount_0f7a4 1 = .ok (.iload_n 0, 1) := by decide +kernel
theorem dJ6_bitCount_0f7a4_2 : decode cJ6_bitCount_0f7a4 2 = .ok (.iconst 1, 1) := by decide +kernel
theorem dJ6_bitCount_0f7a4_3 : decode cJ6_bitCount_0f7a4 3 = .ok (.iushr, 1) := by decide +kernel
theorem dJ6_bitCount_0f7a4_4 : decode cJ6_bitCount_0f7a4 4 = .ok (.ldc_w 265, 3) := by decide +kernel
theorem dJ6_bitCount_0f7a4_7 : decode cJ6_bitCount_0f7a4 7 = .ok (.iand, 1) := by decide +kernel
theorem dJ6_bitCount_0f7a4_8 : decode cJ6_bitCount_0f7a4 8 = .ok (.isub, 1) := by decide +kernel
theorem dJ6_bitCount_0f7a4_9 : decode cJ6_bitCount_0f7a4 9 = .ok (.istore_n 0, 1) := by decide +kernel
theorem dJ6_bitCount_0f7a4_10 : decode cJ6_bitCount_0f7a4 10 = .ok (.iload_n 0, 1) := by decide +kernel
theorem dJ6_bitCount_0f7a4_11 : decode cJ6_bitCount_0f7a4 11 = .ok (.ldc_w 266, 3) := by decide +kernel
theorem dJ6_bitCount_0f7a4_14 : decode cJ6_bitCount_0f7a4 14 = .ok (.iand, 1) := by decide +kernel
theorem dJ6_bitCount_0f7a4_15 : decode cJ6_bitCount_0f7a4 15 = .ok (.iload_n 0, 1) := by decide +kernel
theorem dJ6_bitCount_0f7a4_16 : decode cJ6_bitCount_0f7a4 16 = .ok (.iconst 2, 1) := by decide +kernel
theorem dJ6_bitCount_0f7a4_17 : decode cJ6_bitCount_0f7a4 17 = .ok (.iushr, 1) := by decide +kernel
theorem dJ6_bitCount_0f7a4_18 : decode cJ6_bitCount_0f7a4 18 = .ok (.ldc_w 266, 3) := by decide +kernel
theorem dJ6_bitCount_0f7a4_21 : decode cJ6_bitCount_0f7a4 21 = .ok (.iand, 1) := by decide +kernel
theorem dJ6_bitCount_0f7a4_22 : decode cJ6_bitCount_0f7a4 22 = .ok (.iadd, 1) := by decide +kernel
theorem dJ6_bitCount_0f7a4_23 : decode cJ6_bitCount_0f7a4 23 = .ok (.istore_n 0, 1) := by decide +kernel
theorem dJ6_bitCount_0f7a4_24 : decode cJ6_bitCount_0f7a4 24 = .ok (.iload_n 0, 1) := by decide +kernel
theorem dJ6_bitCount_0f7a4_25 : decode cJ6_bitCount_0f7a4 25 = .ok (.iload_n 0, 1) := by decide +kernel
theorem dJ6_bitCount_0f7a4_26 : decode cJ6_bitCount_0f7a4 26 = .ok (.iconst 4, 1) := by decide +kernel
theorem dJ6_bitCount_0f7a4_27 : decode cJ6_bitCount_0f7a4 27 = .ok (.iushr, 1) := by decide +kernel
theorem dJ6_bitCount_0f7a4_28 : decode cJ6_bitCount_0f7a4 28 = .ok (.iadd, 1) := by decide +kernel
theorem dJ6_bitCount_0f7a4_29 : decode cJ6_bitCount_0f7a4 29 = .ok (.ldc_w 267, 3) := by decide +kernel
theorem dJ6_bitCount_0f7a4_32 : decode cJ6_bitCount_0f7a4 32 = .ok (.iand, 1) := by decide +kernel
theorem dJ6_bitCount_0f7a4_33 : decode cJ6_bitCount_0f7a4 33 = .ok (.istore_n 0, 1) := by decide +kernel
theorem dJ6_bitCount_0f7a4_34 : decode cJ6_bitCount_0f7a4 34 = .ok (.iload_n 0, 1) := by decide +kernel
theorem dJ6_bitCount_0f7a4_35 : decode cJ6_bitCount_0f7a4 35 = .ok (.iload_n 0, 1) := by decide +kernel
theorem dJ6_bitCount_0f7a4_36 : decode cJ6_bitCount_0f7a4 36 = .ok (.bipush 8, 2) := by decide +kernel
theorem dJ6_bitCount_0f7a4_38 : decode cJ6_bitCount_0f7a4 38 = .ok (.iushr, 1) := by decide +kernel
theorem dJ6_bitCount_0f7a4_39 : decode cJ6_bitCount_0f7a4 39 = .ok (.iadd, 1) := by decide +kernel
theorem dJ6_bitCount_0f7a4_40 : decode cJ6_bitCount_0f7a4 40 = .ok (.istore_n 0, 1) := by decide +kernel
theorem dJ6_bitCount_0f7a4_41 : decode cJ6_bitCount_0f7a4 41 = .ok (.iload_n 0, 1) := by decide +kernel
theorem dJ6_bitCount_0f7a4_42 : decode cJ6_bitCount_0f7a4 42 = .ok (.iload_n 0, 1) := by decide +kernel
theorem dJ6_bitCount_0f7a4_43 : decode cJ6_bitCount_0f7a4 43 = .ok (.bipush 16, 2) := by decide +kernel
theorem dJ6_bitCount_0f7a4_45 : decode cJ6_bitCount_0f7a4 45 = .ok (.iushr, 1) := by decide +kernel
theorem dJ6_bitCount_0f7a4_46 : decode cJ6_bitCount_0f7a4 46 = .ok (.iadd, 1) := by decide +kernel
theorem dJ6_bitCount_0f7a4_47 : decode cJ6_bitCount_0f7a4 47 = .ok (.istore_n 0, 1) := by decide +kernel
theorem dJ6_bitCount_0f7a4_48 : decode cJ6_bitCount_0f7a4 48 = .ok (.iload_n 0, 1) := by decide +kernel
theorem dJ6_bitCount_0f7a4_49 : decode cJ6_bitCount_0f7a4 49 = .ok (.bipush 63, 2) := by decide +kernel
theorem dJ6_bitCount_0f7a4_51 : decode cJ6_bitCount_0f7a4 51 = .ok (.iand, 1) := by decide +kernel
theorem dJ6_bitCount_0f7a4_52 : decode cJ6_bitCount_0f7a4 52 = .ok (.ireturn, 1) := by decide +kernel
theorem dL_cell_0 : decode cL_cell 0 = .ok (.iload_n 1, 1) := by decide +kernel
theorem dL_cell_1 : decode cL_cell 1 = .ok (.aload_n 0, 1) := by decide +kernel
theorem dL_cell_2 : decode cL_cell 2 = .ok (.arraylength, 1) := by decide +kernel
theorem dL_cell_3 : decode cL_cell 3 = .ok (.if_icmp .ge 9, 3) := by decide +kernel
theorem dL_cell_6 : decode cL_cell 6 = .ok (.aload_n 0, 1) := by decide +kernel
theorem dL_cell_7 : decode cL_cell 7 = .ok (.iload_n 1, 1) := by decide +kernel
theorem dL_cell_8 : decode cL_cell 8 = .ok (.iaload, 1) := by decide +kernel
theorem dL_cell_9 : decode cL_cell 9 = .ok (.goto 10, 3) := by decide +kernel
theorem dL_cell_12 : decode cL_cell 12 = .ok (.ldc 7, 2) := by decide +kernel
theorem dL_cell_14 : decode cL_cell 14 = .ok (.iload_n 1, 1) := by decide +kernel
theorem dL_cell_15 : decode cL_cell 15 = .ok (.bipush 7, 2) := by decide +kernel
theorem dL_cell_17 : decode cL_cell 17 = .ok (.iadd, 1) := by decide +kernel
theorem dL_cell_18 : decode cL_cell 18 = .ok (.imul, 1) := by decide +kernel
theorem dL_cell_19 : decode cL_cell 19 = .ok (.ireturn, 1) := by decide +kernel
theorem dL_low_0 : decode cL_low 0 = .ok (.iload_n 0, 1) := by decide +kernel
theorem dL_low_1 : decode cL_low 1 = .ok (.ldc 8, 2) := by decide +kernel
theorem dL_low_3 : decode cL_low 3 = .ok (.iand, 1) := by decide +kernel
theorem dL_low_4 : decode cL_low 4 = .ok (.iload_n 1, 1) := by decide +kernel
theorem dL_low_5 : decode cL_low 5 = .ok (.irem, 1) := by decide +kernel
theorem dL_low_6 : decode cL_low 6 = .ok (.ireturn, 1) := by decide +kernel
theorem dL_letter_0 : decode cL_letter 0 = .ok (.iload_n 0, 1) := by decide +kernel
theorem dL_letter_1 : decode cL_letter 1 = .ok (.ifCond .ne 8, 3) := by decide +kernel
theorem dL_letter_4 : decode cL_letter 4 = .ok (.bipush 109, 2) := by decide +kernel
theorem dL_letter_6 : decode cL_letter 6 = .ok (.goto 45, 3) := by decide +kernel
theorem dL_letter_9 : decode cL_letter 9 = .ok (.iload_n 0, 1) := by decide +kernel
theorem dL_letter_10 : decode cL_letter 10 = .ok (.iconst 1, 1) := by decide +kernel
theorem dL_letter_11 : decode cL_letter 11 = .ok (.if_icmp .ne 8, 3) := by decide +kernel
theorem dL_letter_14 : decode cL_letter 14 = .ok (.bipush 112, 2) := by decide +kernel
theorem dL_letter_16 : decode cL_letter 16 = .ok (.goto 35, 3) := by decide +kernel
theorem dL_letter_19 : decode cL_letter 19 = .ok (.iload_n 0, 1) := by decide +kernel
theorem dL_letter_20 : decode cL_letter 20 = .ok (.iconst 2, 1) := by decide +kernel
theorem dL_letter_21 : decode cL_letter 21 = .ok (.if_icmp .ne 8, 3) := by decide +kernel
theorem dL_letter_24 : decode cL_letter 24 = .ok (.bipush 99, 2) := by decide +kernel
theorem dL_letter_26 : decode cL_letter 26 = .ok (.goto 25, 3) := by decide +kernel
theorem dL_letter_29 : decode cL_letter 29 = .ok (.iload_n 0, 1) := by decide +kernel
theorem dL_letter_30 : decode cL_letter 30 = .ok (.iconst 3, 1) := by decide +kernel
theorem dL_letter_31 : decode cL_letter 31 = .ok (.if_icmp .ne 8, 3) := by decide +kernel
theorem dL_letter_34 : decode cL_letter 34 = .ok (.bipush 119, 2) := by decide +kernel
theorem dL_letter_36 : decode cL_letter 36 = .ok (.goto 15, 3) := by decide +kernel
theorem dL_letter_39 : decode cL_letter 39 = .ok (.iload_n 0, 1) := by decide +kernel
theorem dL_letter_40 : decode cL_letter 40 = .ok (.iconst 4, 1) := by decide +kernel
theorem dL_letter_41 : decode cL_letter 41 = .ok (.if_icmp .ne 8, 3) := by decide +kernel
theorem dL_letter_44 : decode cL_letter 44 = .ok (.bipush 120, 2) := by decide +kernel
theorem dL_letter_46 : decode cL_letter 46 = .ok (.goto 5, 3) := by decide +kernel
theorem dL_letter_49 : decode cL_letter 49 = .ok (.bipush 110, 2) := by decide +kernel
theorem dL_letter_51 : decode cL_letter 51 = .ok (.ireturn, 1) := by decide +kernel
theorem dL_court_0 : decode cL_court 0 = .ok (.aload_n 1, 1) := by decide +kernel
theorem dL_court_1 : decode cL_court 1 = .ok (.iconst 0, 1) := by decide +kernel
theorem dL_court_2 : decode cL_court 2 = .ok (.invokestatic 9, 3) := by decide +kernel
theorem dL_court_5 : decode cL_court 5 = .ok (.istore 4, 2) := by decide +kernel
theorem dL_court_7 : decode cL_court 7 = .ok (.aload_n 2, 1) := by decide +kernel
theorem dL_court_8 : decode cL_court 8 = .ok (.iconst 0, 1) := by decide +kernel
theorem dL_court_9 : decode cL_court 9 = .ok (.iconst 1, 1) := by decide +kernel
theorem dL_court_10 : decode cL_court 10 = .ok (.iload 4, 2) := by decide +kernel
theorem dL_court_12 : decode cL_court 12 = .ok (.bipush 6, 2) := by decide +kernel
theorem dL_court_14 : decode cL_court 14 = .ok (.invokestatic 15, 3) := by decide +kernel
theorem dL_court_17 : decode cL_court 17 = .ok (.iadd, 1) := by decide +kernel
theorem dL_court_18 : decode cL_court 18 = .ok (.iastore, 1) := by decide +kernel
theorem dL_court_19 : decode cL_court 19 = .ok (.aload_n 2, 1) := by decide +kernel
theorem dL_court_20 : decode cL_court 20 = .ok (.iconst 1, 1) := by decide +kernel
theorem dL_court_21 : decode cL_court 21 = .ok (.iconst 1, 1) := by decide +kernel
theorem dL_court_22 : decode cL_court 22 = .ok (.iload 4, 2) := by decide +kernel
theorem dL_court_24 : decode cL_court 24 = .ok (.iconst 3, 1) := by decide +kernel
theorem dL_court_25 : decode cL_court 25 = .ok (.ishr, 1) := by decide +kernel
theorem dL_court_26 : decode cL_court 26 = .ok (.iconst 3, 1) := by decide +kernel
theorem dL_court_27 : decode cL_court 27 = .ok (.invokestatic 15, 3) := by decide +kernel
theorem dL_court_30 : decode cL_court 30 = .ok (.iadd, 1) := by decide +kernel
theorem dL_court_31 : decode cL_court 31 = .ok (.iastore, 1) := by decide +kernel
theorem dL_court_32 : decode cL_court 32 = .ok (.aload_n 2, 1) := by decide +kernel
theorem dL_court_33 : decode cL_court 33 = .ok (.iconst 2, 1) := by decide +kernel
theorem dL_court_34 : decode cL_court 34 = .ok (.iload 4, 2) := by decide +kernel
theorem dL_court_36 : decode cL_court 36 = .ok (.iconst 5, 1) := by decide +kernel
theorem dL_court_37 : decode cL_court 37 = .ok (.ishr, 1) := by decide +kernel
theorem dL_court_38 : decode cL_court 38 = .ok (.bipush 10, 2) := by decide +kernel
theorem dL_court_40 : decode cL_court 40 = .ok (.invokestatic 15, 3) := by decide +kernel
theorem dL_court_43 : decode cL_court 43 = .ok (.iastore, 1) := by decide +kernel
theorem dL_court_44 : decode cL_court 44 = .ok (.aload_n 2, 1) := by decide +kernel
theorem dL_court_45 : decode cL_court 45 = .ok (.iconst 3, 1) := by decide +kernel
theorem dL_court_46 : decode cL_court 46 = .ok (.iload 4, 2) := by decide +kernel
theorem dL_court_48 : decode cL_court 48 = .ok (.bipush 9, 2) := by decide +kernel
theorem dL_court_50 : decode cL_court 50 = .ok (.ishr, 1) := by decide +kernel
theorem dL_court_51 : decode cL_court 51 = .ok (.bipush 10, 2) := by decide +kernel
theorem dL_court_53 : decode cL_court 53 = .ok (.invokestatic 15, 3) := by decide +kernel
theorem dL_court_56 : decode cL_court 56 = .ok (.iastore, 1) := by decide +kernel
theorem dL_court_57 : decode cL_court 57 = .ok (.aload_n 2, 1) := by decide +kernel
theorem dL_court_58 : decode cL_court 58 = .ok (.iconst 4, 1) := by decide +kernel
theorem dL_court_59 : decode cL_court 59 = .ok (.iconst 1, 1) := by decide +kernel
theorem dL_court_60 : decode cL_court 60 = .ok (.iload 4, 2) := by decide +kernel
theorem dL_court_62 : decode cL_court 62 = .ok (.bipush 13, 2) := by decide +kernel
theorem dL_court_64 : decode cL_court 64 = .ok (.ishr, 1) := by decide +kernel
theorem dL_court_65 : decode cL_court 65 = .ok (.iload 4, 2) := by decide +kernel
theorem dL_court_67 : decode cL_court 67 = .ok (.bipush 20, 2) := by decide +kernel
theorem dL_court_69 : decode cL_court 69 = .ok (.ishr, 1) := by decide +kernel
theorem dL_court_70 : decode cL_court 70 = .ok (.iconst 1, 1) := by decide +kernel
theorem dL_court_71 : decode cL_court 71 = .ok (.iand, 1) := by decide +kernel
theorem dL_court_72 : decode cL_court 72 = .ok (.ifCond .ne 7, 3) := by decide +kernel
theorem dL_court_75 : decode cL_court 75 = .ok (.iconst 3, 1) := by decide +kernel
theorem dL_court_76 : decode cL_court 76 = .ok (.goto 5, 3) := by decide +kernel
theorem dL_court_79 : decode cL_court 79 = .ok (.bipush 6, 2) := by decide +kernel
theorem dL_court_81 : decode cL_court 81 = .ok (.invokestatic 15, 3) := by decide +kernel
theorem dL_court_84 : decode cL_court 84 = .ok (.iadd, 1) := by decide +kernel
theorem dL_court_85 : decode cL_court 85 = .ok (.iastore, 1) := by decide +kernel
theorem dL_court_86 : decode cL_court 86 = .ok (.iconst 0, 1) := by decide +kernel
theorem dL_court_87 : decode cL_court 87 = .ok (.istore 5, 2) := by decide +kernel
theorem dL_court_89 : decode cL_court 89 = .ok (.iload 5, 2) := by decide +kernel
theorem dL_court_91 : decode cL_court 91 = .ok (.bipush 16, 2) := by decide +kernel
theorem dL_court_93 : decode cL_court 93 = .ok (.if_icmp .ge 36, 3) := by decide +kernel
theorem dL_court_96 : decode cL_court 96 = .ok (.aload_n 3, 1) := by decide +kernel
theorem dL_court_97 : decode cL_court 97 = .ok (.iload 5, 2) := by decide +kernel
theorem dL_court_99 : decode cL_court 99 = .ok (.iload 5, 2) := by decide +kernel
theorem dL_court_101 : decode cL_court 101 = .ok (.ifCond .ne 8, 3) := by decide +kernel
theorem dL_court_104 : decode cL_court 104 = .ok (.bipush 8, 2) := by decide +kernel
theorem dL_court_106 : decode cL_court 106 = .ok (.goto 16, 3) := by decide +kernel
theorem dL_court_109 : decode cL_court 109 = .ok (.iload 5, 2) := by decide +kernel
theorem dL_court_111 : decode cL_court 111 = .ok (.bipush 10, 2) := by decide +kernel
theorem dL_court_113 : decode cL_court 113 = .ok (.if_icmp .ge 7, 3) := by decide +kernel
theorem dL_court_116 : decode cL_court 116 = .ok (.iconst 0, 1) := by decide +kernel
theorem dL_court_117 : decode cL_court 117 = .ok (.goto 5, 3) := by decide +kernel
theorem dL_court_120 : decode cL_court 120 = .ok (.bipush (-9), 2) := by decide +kernel
theorem dL_court_122 : decode cL_court 122 = .ok (.iastore, 1) := by decide +kernel
theorem dL_court_123 : decode cL_court 123 = .ok (.iinc 5 1, 3) := by decide +kernel
theorem dL_court_126 : decode cL_court 126 = .ok (.goto (-37), 3) := by decide +kernel
theorem dL_court_129 : decode cL_court 129 = .ok (.aload_n 0, 1) := by decide +kernel
theorem dL_court_130 : decode cL_court 130 = .ok (.iconst 0, 1) := by decide +kernel
theorem dL_court_131 : decode cL_court 131 = .ok (.bipush 50, 2) := by decide +kernel
theorem dL_court_133 : decode cL_court 133 = .ok (.invokevirtual 19, 3) := by decide +kernel
theorem dL_court_136 : decode cL_court 136 = .ok (.bipush 50, 2) := by decide +kernel
theorem dL_court_138 : decode cL_court 138 = .ok (.if_icmp .ne 21, 3) := by decide +kernel
theorem dL_court_141 : decode cL_court 141 = .ok (.aload_n 0, 1) := by decide +kernel
theorem dL_court_142 : decode cL_court 142 = .ok (.iconst 0, 1) := by decide +kernel
theorem dL_court_143 : decode cL_court 143 = .ok (.iconst 0, 1) := by decide +kernel
theorem dL_court_144 : decode cL_court 144 = .ok (.bipush 105, 2) := by decide +kernel
theorem dL_court_146 : decode cL_court 146 = .ok (.invokevirtual 24, 3) := by decide +kernel
theorem dL_court_149 : decode cL_court 149 = .ok (.sipush 1032, 3) := by decide +kernel
theorem dL_court_152 : decode cL_court 152 = .ok (.if_icmp .ne 7, 3) := by decide +kernel
theorem dL_court_155 : decode cL_court 155 = .ok (.iconst 1, 1) := by decide +kernel
theorem dL_court_156 : decode cL_court 156 = .ok (.goto 4, 3) := by decide +kernel
theorem dL_court_159 : decode cL_court 159 = .ok (.iconst 0, 1) := by decide +kernel
theorem dL_court_160 : decode cL_court 160 = .ok (.istore 5, 2) := by decide +kernel
theorem dL_court_162 : decode cL_court 162 = .ok (.iconst 1, 1) := by decide +kernel
theorem dL_court_163 : decode cL_court 163 = .ok (.istore 6, 2) := by decide +kernel
theorem dL_court_165 : decode cL_court 165 = .ok (.iload 6, 2) := by decide +kernel
theorem dL_court_167 : decode cL_court 167 = .ok (.iconst 5, 1) := by decide +kernel
theorem dL_court_168 : decode cL_court 168 = .ok (.if_icmp .ge 41, 3) := by decide +kernel
theorem dL_court_171 : decode cL_court 171 = .ok (.iload 5, 2) := by decide +kernel
theorem dL_court_173 : decode cL_court 173 = .ok (.ifCond .eq 27, 3) := by decide +kernel
theorem dL_court_176 : decode cL_court 176 = .ok (.aload_n 0, 1) := by decide +kernel
theorem dL_court_177 : decode cL_court 177 = .ok (.iconst 0, 1) := by decide +kernel
theorem dL_court_178 : decode cL_court 178 = .ok (.iload 6, 2) := by decide +kernel
theorem dL_court_180 : decode cL_court 180 = .ok (.bipush 48, 2) := by decide +kernel
theorem dL_court_182 : decode cL_court 182 = .ok (.aload_n 2, 1) := by decide +kernel
theorem dL_court_183 : decode cL_court 183 = .ok (.iload 6, 2) := by decide +kernel
theorem dL_court_185 : decode cL_court 185 = .ok (.iaload, 1) := by decide +kernel
theorem dL_court_186 : decode cL_court 186 = .ok (.iadd, 1) := by decide +kernel
theorem dL_court_187 : decode cL_court 187 = .ok (.invokevirtual 24, 3) := by decide +kernel
theorem dL_court_190 : decode cL_court 190 = .ok (.sipush 1032, 3) := by decide +kernel
theorem dL_court_193 : decode cL_court 193 = .ok (.if_icmp .ne 7, 3) := by decide +kernel
theorem dL_court_196 : decode cL_court 196 = .ok (.iconst 1, 1) := by decide +kernel
theorem dL_court_197 : decode cL_court 197 = .ok (.goto 4, 3) := by decide +kernel
theorem dL_court_200 : decode cL_court 200 = .ok (.iconst 0, 1) := by decide +kernel
theorem dL_court_201 : decode cL_court 201 = .ok (.istore 5, 2) := by decide +kernel
theorem dL_court_203 : decode cL_court 203 = .ok (.iinc 6 1, 3) := by decide +kernel
theorem dL_court_206 : decode cL_court 206 = .ok (.goto (-41), 3) := by decide +kernel
theorem dL_court_209 : decode cL_court 209 = .ok (.iconst 0, 1) := by decide +kernel
theorem dL_court_210 : decode cL_court 210 = .ok (.istore 6, 2) := by decide +kernel
theorem dL_court_212 : decode cL_court 212 = .ok (.iload 6, 2) := by decide +kernel
theorem dL_court_214 : decode cL_court 214 = .ok (.aload_n 2, 1) := by decide +kernel
theorem dL_court_215 : decode cL_court 215 = .ok (.iconst 0, 1) := by decide +kernel
theorem dL_court_216 : decode cL_court 216 = .ok (.iaload, 1) := by decide +kernel
theorem dL_court_217 : decode cL_court 217 = .ok (.if_icmp .ge 196, 3) := by decide +kernel
theorem dL_court_220 : decode cL_court 220 = .ok (.aload_n 1, 1) := by decide +kernel
theorem dL_court_221 : decode cL_court 221 = .ok (.iconst 1, 1) := by decide +kernel
theorem dL_court_222 : decode cL_court 222 = .ok (.iload 6, 2) := by decide +kernel
theorem dL_court_224 : decode cL_court 224 = .ok (.iadd, 1) := by decide +kernel
theorem dL_court_225 : decode cL_court 225 = .ok (.invokestatic 9, 3) := by decide +kernel
theorem dL_court_228 : decode cL_court 228 = .ok (.istore 7, 2) := by decide +kernel
theorem dL_court_230 : decode cL_court 230 = .ok (.bipush 6, 2) := by decide +kernel
theorem dL_court_232 : decode cL_court 232 = .ok (.iconst 5, 1) := by decide +kernel
theorem dL_court_233 : decode cL_court 233 = .ok (.iload 6, 2) := by decide +kernel
theorem dL_court_235 : decode cL_court 235 = .ok (.imul, 1) := by decide +kernel
theorem dL_court_236 : decode cL_court 236 = .ok (.iadd, 1) := by decide +kernel
theorem dL_court_237 : decode cL_court 237 = .ok (.istore 8, 2) := by decide +kernel
theorem dL_court_239 : decode cL_court 239 = .ok (.aload_n 2, 1) := by decide +kernel
theorem dL_court_240 : decode cL_court 240 = .ok (.iconst 5, 1) := by decide +kernel
theorem dL_court_241 : decode cL_court 241 = .ok (.iload 6, 2) := by decide +kernel
theorem dL_court_243 : decode cL_court 243 = .ok (.iadd, 1) := by decide +kernel
theorem dL_court_244 : decode cL_court 244 = .ok (.iload 7, 2) := by decide +kernel
theorem dL_court_246 : decode cL_court 246 = .ok (.bipush 6, 2) := by decide +kernel
theorem dL_court_248 : decode cL_court 248 = .ok (.invokestatic 15, 3) := by decide +kernel
theorem dL_court_251 : decode cL_court 251 = .ok (.iastore, 1) := by decide +kernel
theorem dL_court_252 : decode cL_court 252 = .ok (.aload_n 2, 1) := by decide +kernel
theorem dL_court_253 : decode cL_court 253 = .ok (.bipush 11, 2) := by decide +kernel
theorem dL_court_255 : decode cL_court 255 = .ok (.iload 6, 2) := by decide +kernel
theorem dL_court_257 : decode cL_court 257 = .ok (.iadd, 1) := by decide +kernel
theorem dL_court_258 : decode cL_court 258 = .ok (.iload 7, 2) := by decide +kernel
theorem dL_court_260 : decode cL_court 260 = .ok (.iconst 3, 1) := by decide +kernel
theorem dL_court_261 : decode cL_court 261 = .ok (.ishr, 1) := by decide +kernel
theorem dL_court_262 : decode cL_court 262 = .ok (.iconst 1, 1) := by decide +kernel
theorem dL_court_263 : decode cL_court 263 = .ok (.iand, 1) := by decide +kernel
theorem dL_court_264 : decode cL_court 264 = .ok (.iastore, 1) := by decide +kernel
theorem dL_court_265 : decode cL_court 265 = .ok (.aload_n 2, 1) := by decide +kernel
theorem dL_court_266 : decode cL_court 266 = .ok (.bipush 17, 2) := by decide +kernel
theorem dL_court_268 : decode cL_court 268 = .ok (.iload 6, 2) := by decide +kernel
theorem dL_court_270 : decode cL_court 270 = .ok (.iadd, 1) := by decide +kernel
theorem dL_court_271 : decode cL_court 271 = .ok (.iload 7, 2) := by decide +kernel
theorem dL_court_273 : decode cL_court 273 = .ok (.iconst 4, 1) := by decide +kernel
theorem dL_court_274 : decode cL_court 274 = .ok (.ishr, 1) := by decide +kernel
theorem dL_court_275 : decode cL_court 275 = .ok (.bipush 10, 2) := by decide +kernel
theorem dL_court_277 : decode cL_court 277 = .ok (.invokestatic 15, 3) := by decide +kernel
theorem dL_court_280 : decode cL_court 280 = .ok (.iastore, 1) := by decide +kernel
theorem dL_court_281 : decode cL_court 281 = .ok (.aload_n 2, 1) := by decide +kernel
theorem dL_court_282 : decode cL_court 282 = .ok (.bipush 23, 2) := by decide +kernel
theorem dL_court_284 : decode cL_court 284 = .ok (.iload 6, 2) := by decide +kernel
theorem dL_court_286 : decode cL_court 286 = .ok (.iadd, 1) := by decide +kernel
theorem dL_court_287 : decode cL_court 287 = .ok (.iload 7, 2) := by decide +kernel
theorem dL_court_289 : decode cL_court 289 = .ok (.bipush 8, 2) := by decide +kernel
theorem dL_court_291 : decode cL_court 291 = .ok (.ishr, 1) := by decide +kernel
theorem dL_court_292 : decode cL_court 292 = .ok (.bipush 10, 2) := by decide +kernel
theorem dL_court_294 : decode cL_court 294 = .ok (.invokestatic 15, 3) := by decide +kernel
theorem dL_court_297 : decode cL_court 297 = .ok (.iastore, 1) := by decide +kernel
theorem dL_court_298 : decode cL_court 298 = .ok (.iload 5, 2) := by decide +kernel
theorem dL_court_300 : decode cL_court 300 = .ok (.ifCond .eq 104, 3) := by decide +kernel
theorem dL_court_303 : decode cL_court 303 = .ok (.aload_n 0, 1) := by decide +kernel
theorem dL_court_304 : decode cL_court 304 = .ok (.iconst 0, 1) := by decide +kernel
theorem dL_court_305 : decode cL_court 305 = .ok (.iload 8, 2) := by decide +kernel
theorem dL_court_307 : decode cL_court 307 = .ok (.aload_n 2, 1) := by decide +kernel
theorem dL_court_308 : decode cL_court 308 = .ok (.iconst 5, 1) := by decide +kernel
theorem dL_court_309 : decode cL_court 309 = .ok (.iload 6, 2) := by decide +kernel
theorem dL_court_311 : decode cL_court 311 = .ok (.iadd, 1) := by decide +kernel
theorem dL_court_312 : decode cL_court 312 = .ok (.iaload, 1) := by decide +kernel
theorem dL_court_313 : decode cL_court 313 = .ok (.invokestatic 28, 3) := by decide +kernel
theorem dL_court_316 : decode cL_court 316 = .ok (.invokevirtual 24, 3) := by decide +kernel
theorem dL_court_319 : decode cL_court 319 = .ok (.sipush 1032, 3) := by decide +kernel
theorem dL_court_322 : decode cL_court 322 = .ok (.if_icmp .ne 82, 3) := by decide +kernel
theorem dL_court_325 : decode cL_court 325 = .ok (.aload_n 0, 1) := by decide +kernel
theorem dL_court_326 : decode cL_court 326 = .ok (.iconst 0, 1) := by decide +kernel
theorem dL_court_327 : decode cL_court 327 = .ok (.iload 8, 2) := by decide +kernel
theorem dL_court_329 : decode cL_court 329 = .ok (.iconst 1, 1) := by decide +kernel
theorem dL_court_330 : decode cL_court 330 = .ok (.iadd, 1) := by decide +kernel
theorem dL_court_331 : decode cL_court 331 = .ok (.bipush 48, 2) := by decide +kernel
theorem dL_court_333 : decode cL_court 333 = .ok (.aload_n 2, 1) := by decide +kernel
theorem dL_court_334 : decode cL_court 334 = .ok (.bipush 11, 2) := by decide +kernel
theorem dL_court_336 : decode cL_court 336 = .ok (.iload 6, 2) := by decide +kernel
theorem dL_court_338 : decode cL_court 338 = .ok (.iadd, 1) := by decide +kernel
theorem dL_court_339 : decode cL_court 339 = .ok (.iaload, 1) := by decide +kernel
theorem dL_court_340 : decode cL_court 340 = .ok (.iadd, 1) := by decide +kernel
theorem dL_court_341 : decode cL_court 341 = .ok (.invokevirtual 24, 3) := by decide +kernel
theorem dL_court_344 : decode cL_court 344 = .ok (.sipush 1032, 3) := by decide +kernel
theorem dL_court_347 : decode cL_court 347 = .ok (.if_icmp .ne 57, 3) := by decide +kernel
theorem dL_court_350 : decode cL_court 350 = .ok (.aload_n 0, 1) := by decide +kernel
theorem dL_court_351 : decode cL_court 351 = .ok (.iconst 0, 1) := by decide +kernel
theorem dL_court_352 : decode cL_court 352 = .ok (.iload 8, 2) := by decide +kernel
theorem dL_court_354 : decode cL_court 354 = .ok (.iconst 2, 1) := by decide +kernel
theorem dL_court_355 : decode cL_court 355 = .ok (.iadd, 1) := by decide +kernel
theorem dL_court_356 : decode cL_court 356 = .ok (.bipush 48, 2) := by decide +kernel
theorem dL_court_358 : decode cL_court 358 = .ok (.aload_n 2, 1) := by decide +kernel
theorem dL_court_359 : decode cL_court 359 = .ok (.bipush 17, 2) := by decide +kernel
theorem dL_court_361 : decode cL_court 361 = .ok (.iload 6, 2) := by decide +kernel
theorem dL_court_363 : decode cL_court 363 = .ok (.iadd, 1) := by decide +kernel
theorem dL_court_364 : decode cL_court 364 = .ok (.iaload, 1) := by decide +kernel
theorem dL_court_365 : decode cL_court 365 = .ok (.iadd, 1) := by decide +kernel
theorem dL_court_366 : decode cL_court 366 = .ok (.invokevirtual 24, 3) := by decide +kernel
theorem dL_court_369 : decode cL_court 369 = .ok (.sipush 1032, 3) := by decide +kernel
theorem dL_court_372 : decode cL_court 372 = .ok (.if_icmp .ne 32, 3) := by decide +kernel
theorem dL_court_375 : decode cL_court 375 = .ok (.aload_n 0, 1) := by decide +kernel
theorem dL_court_376 : decode cL_court 376 = .ok (.iconst 0, 1) := by decide +kernel
theorem dL_court_377 : decode cL_court 377 = .ok (.iload 8, 2) := by decide +kernel
theorem dL_court_379 : decode cL_court 379 = .ok (.iconst 3, 1) := by decide +kernel
theorem dL_court_380 : decode cL_court 380 = .ok (.iadd, 1) := by decide +kernel
theorem dL_court_381 : decode cL_court 381 = .ok (.bipush 48, 2) := by decide +kernel
theorem dL_court_383 : decode cL_court 383 = .ok (.aload_n 2, 1) := by decide +kernel
theorem dL_court_384 : decode cL_court 384 = .ok (.bipush 23, 2) := by decide +kernel
theorem dL_court_386 : decode cL_court 386 = .ok (.iload 6, 2) := by decide +kernel
theorem dL_court_388 : decode cL_court 388 = .ok (.iadd, 1) := by decide +kernel
theorem dL_court_389 : decode cL_court 389 = .ok (.iaload, 1) := by decide +kernel
theorem dL_court_390 : decode cL_court 390 = .ok (.iadd, 1) := by decide +kernel
theorem dL_court_391 : decode cL_court 391 = .ok (.invokevirtual 24, 3) := by decide +kernel
theorem dL_court_394 : decode cL_court 394 = .ok (.sipush 1032, 3) := by decide +kernel
theorem dL_court_397 : decode cL_court 397 = .ok (.if_icmp .ne 7, 3) := by decide +kernel
theorem dL_court_400 : decode cL_court 400 = .ok (.iconst 1, 1) := by decide +kernel
theorem dL_court_401 : decode cL_court 401 = .ok (.goto 4, 3) := by decide +kernel
theorem dL_court_404 : decode cL_court 404 = .ok (.iconst 0, 1) := by decide +kernel
theorem dL_court_405 : decode cL_court 405 = .ok (.istore 5, 2) := by decide +kernel
theorem dL_court_407 : decode cL_court 407 = .ok (.iinc 6 1, 3) := by decide +kernel
theorem dL_court_410 : decode cL_court 410 = .ok (.goto (-198), 3) := by decide +kernel
theorem dL_court_413 : decode cL_court 413 = .ok (.iload 5, 2) := by decide +kernel
theorem dL_court_415 : decode cL_court 415 = .ok (.ifCond .eq 28, 3) := by decide +kernel
theorem dL_court_418 : decode cL_court 418 = .ok (.aload_n 0, 1) := by decide +kernel
theorem dL_court_419 : decode cL_court 419 = .ok (.iconst 0, 1) := by decide +kernel
theorem dL_court_420 : decode cL_court 420 = .ok (.invokevirtual 32, 3) := by decide +kernel
theorem dL_court_423 : decode cL_court 423 = .ok (.bipush (-9), 2) := by decide +kernel
theorem dL_court_425 : decode cL_court 425 = .ok (.if_icmp .ne 18, 3) := by decide +kernel
theorem dL_court_428 : decode cL_court 428 = .ok (.aload_n 0, 1) := by decide +kernel
theorem dL_court_429 : decode cL_court 429 = .ok (.iconst 0, 1) := by decide +kernel
theorem dL_court_430 : decode cL_court 430 = .ok (.invokevirtual 35, 3) := by decide +kernel
theorem dL_court_433 : decode cL_court 433 = .ok (.aload_n 2, 1) := by decide +kernel
theorem dL_court_434 : decode cL_court 434 = .ok (.iconst 0, 1) := by decide +kernel
theorem dL_court_435 : decode cL_court 435 = .ok (.iaload, 1) := by decide +kernel
theorem dL_court_436 : decode cL_court 436 = .ok (.if_icmp .ne 7, 3) := by decide +kernel
theorem dL_court_439 : decode cL_court 439 = .ok (.iconst 1, 1) := by decide +kernel
theorem dL_court_440 : decode cL_court 440 = .ok (.goto 4, 3) := by decide +kernel
theorem dL_court_443 : decode cL_court 443 = .ok (.iconst 0, 1) := by decide +kernel
theorem dL_court_444 : decode cL_court 444 = .ok (.ireturn, 1) := by decide +kernel
theorem dL_bits_0 : decode cL_bits 0 = .ok (.iconst 0, 1) := by decide +kernel
theorem dL_bits_1 : decode cL_bits 1 = .ok (.istore_n 1, 1) := by decide +kernel
theorem dL_bits_2 : decode cL_bits 2 = .ok (.iconst 0, 1) := by decide +kernel
theorem dL_bits_3 : decode cL_bits 3 = .ok (.istore_n 2, 1) := by decide +kernel
theorem dL_bits_4 : decode cL_bits 4 = .ok (.iload_n 2, 1) := by decide +kernel
theorem dL_bits_5 : decode cL_bits 5 = .ok (.bipush 31, 2) := by decide +kernel
theorem dL_bits_7 : decode cL_bits 7 = .ok (.if_icmp .ge 17, 3) := by decide +kernel
theorem dL_bits_10 : decode cL_bits 10 = .ok (.iload_n 1, 1) := by decide +kernel
theorem dL_bits_11 : decode cL_bits 11 = .ok (.iload_n 0, 1) := by decide +kernel
theorem dL_bits_12 : decode cL_bits 12 = .ok (.iload_n 2, 1) := by decide +kernel
theorem dL_bits_13 : decode cL_bits 13 = .ok (.ishr, 1) := by decide +kernel
theorem dL_bits_14 : decode cL_bits 14 = .ok (.iconst 1, 1) := by decide +kernel
theorem dL_bits_15 : decode cL_bits 15 = .ok (.iand, 1) := by decide +kernel
theorem dL_bits_16 : decode cL_bits 16 = .ok (.iadd, 1) := by decide +kernel
theorem dL_bits_17 : decode cL_bits 17 = .ok (.istore_n 1, 1) := by decide +kernel
theorem dL_bits_18 : decode cL_bits 18 = .ok (.iinc 2 1, 3) := by decide +kernel
theorem dL_bits_21 : decode cL_bits 21 = .ok (.goto (-17), 3) := by decide +kernel
theorem dL_bits_24 : decode cL_bits 24 = .ok (.iload_n 1, 1) := by decide +kernel
theorem dL_bits_25 : decode cL_bits 25 = .ok (.ireturn, 1) := by decide +kernel
theorem dL_hard_0 : decode cL_hard 0 = .ok (.iload_n 0, 1) := by decide +kernel
theorem dL_hard_1 : decode cL_hard 1 = .ok (.iconst 2, 1) := by decide +kernel
theorem dL_hard_2 : decode cL_hard 2 = .ok (.if_icmp .eq 8, 3) := by decide +kernel
theorem dL_hard_5 : decode cL_hard 5 = .ok (.iload_n 0, 1) := by decide +kernel
theorem dL_hard_6 : decode cL_hard 6 = .ok (.iconst 5, 1) := by decide +kernel
theorem dL_hard_7 : decode cL_hard 7 = .ok (.if_icmp .ne 9, 3) := by decide +kernel
theorem dL_hard_10 : decode cL_hard 10 = .ok (.iload_n 1, 1) := by decide +kernel
theorem dL_hard_11 : decode cL_hard 11 = .ok (.iconst 1, 1) := by decide +kernel
theorem dL_hard_12 : decode cL_hard 12 = .ok (.ishr, 1) := by decide +kernel
theorem dL_hard_13 : decode cL_hard 13 = .ok (.goto 24, 3) := by decide +kernel
theorem dL_hard_16 : decode cL_hard 16 = .ok (.iload_n 1, 1) := by decide +kernel
theorem dL_hard_17 : decode cL_hard 17 = .ok (.iload_n 0, 1) := by decide +kernel
theorem dL_hard_18 : decode cL_hard 18 = .ok (.iconst 1, 1) := by decide +kernel
theorem dL_hard_19 : decode cL_hard 19 = .ok (.if_icmp .ne 7, 3) := by decide +kernel
theorem dL_hard_22 : decode cL_hard 22 = .ok (.iconst 3, 1) := by decide +kernel
theorem dL_hard_23 : decode cL_hard 23 = .ok (.goto 13, 3) := by decide +kernel
theorem dL_hard_26 : decode cL_hard 26 = .ok (.iload_n 0, 1) := by decide +kernel
theorem dL_hard_27 : decode cL_hard 27 = .ok (.iconst 4, 1) := by decide +kernel
theorem dL_hard_28 : decode cL_hard 28 = .ok (.if_icmp .ne 7, 3) := by decide +kernel
theorem dL_hard_31 : decode cL_hard 31 = .ok (.iconst 5, 1) := by decide +kernel
theorem dL_hard_32 : decode cL_hard 32 = .ok (.goto 4, 3) := by decide +kernel
theorem dL_hard_35 : decode cL_hard 35 = .ok (.iconst 0, 1) := by decide +kernel
theorem dL_hard_36 : decode cL_hard 36 = .ok (.iadd, 1) := by decide +kernel
theorem dL_hard_37 : decode cL_hard 37 = .ok (.ireturn, 1) := by decide +kernel
theorem dL_feels_0 : decode cL_feels 0 = .ok (.aload_n 0, 1) := by decide +kernel
theorem dL_feels_1 : decode cL_feels 1 = .ok (.bipush 17, 2) := by decide +kernel
theorem dL_feels_3 : decode cL_feels 3 = .ok (.iload_n 1, 1) := by decide +kernel
theorem dL_feels_4 : decode cL_feels 4 = .ok (.iadd, 1) := by decide +kernel
theorem dL_feels_5 : decode cL_feels 5 = .ok (.iaload, 1) := by decide +kernel
theorem dL_feels_6 : decode cL_feels 6 = .ok (.iconst 5, 1) := by decide +kernel
theorem dL_feels_7 : decode cL_feels 7 = .ok (.if_icmp .ge 7, 3) := by decide +kernel
theorem dL_feels_10 : decode cL_feels 10 = .ok (.iconst 0, 1) := by decide +kernel
theorem dL_feels_11 : decode cL_feels 11 = .ok (.goto 6, 3) := by decide +kernel
theorem dL_feels_14 : decode cL_feels 14 = .ok (.aload_n 0, 1) := by decide +kernel
theorem dL_feels_15 : decode cL_feels 15 = .ok (.iconst 2, 1) := by decide +kernel
theorem dL_feels_16 : decode cL_feels 16 = .ok (.iaload, 1) := by decide +kernel
theorem dL_feels_17 : decode cL_feels 17 = .ok (.istore_n 3, 1) := by decide +kernel
theorem dL_feels_18 : decode cL_feels 18 = .ok (.iload_n 2, 1) := by decide +kernel
theorem dL_feels_19 : decode cL_feels 19 = .ok (.iload_n 3, 1) := by decide +kernel
theorem dL_feels_20 : decode cL_feels 20 = .ok (.if_icmp .ge 7, 3) := by decide +kernel
theorem dL_feels_23 : decode cL_feels 23 = .ok (.iconst 0, 1) := by decide +kernel
theorem dL_feels_24 : decode cL_feels 24 = .ok (.goto 6, 3) := by decide +kernel
theorem dL_feels_27 : decode cL_feels 27 = .ok (.iload_n 2, 1) := by decide +kernel
theorem dL_feels_28 : decode cL_feels 28 = .ok (.iload_n 3, 1) := by decide +kernel
theorem dL_feels_29 : decode cL_feels 29 = .ok (.isub, 1) := by decide +kernel
theorem dL_feels_30 : decode cL_feels 30 = .ok (.ireturn, 1) := by decide +kernel
theorem dL_burns_0 : decode cL_burns 0 = .ok (.aload_n 0, 1) := by decide +kernel
theorem dL_burns_1 : decode cL_burns 1 = .ok (.iload_n 1, 1) := by decide +kernel
theorem dL_burns_2 : decode cL_burns 2 = .ok (.iload 4, 2) := by decide +kernel
theorem dL_burns_4 : decode cL_burns 4 = .ok (.invokestatic 38, 3) := by decide +kernel
theorem dL_burns_7 : decode cL_burns 7 = .ok (.istore 5, 2) := by decide +kernel
theorem dL_burns_9 : decode cL_burns 9 = .ok (.aload_n 0, 1) := by decide +kernel
theorem dL_burns_10 : decode cL_burns 10 = .ok (.iconst 1, 1) := by decide +kernel
theorem dL_burns_11 : decode cL_burns 11 = .ok (.iaload, 1) := by decide +kernel
theorem dL_burns_12 : decode cL_burns 12 = .ok (.iload_n 2, 1) := by decide +kernel
theorem dL_burns_13 : decode cL_burns 13 = .ok (.iconst 5, 1) := by decide +kernel
theorem dL_burns_14 : decode cL_burns 14 = .ok (.if_icmp .ne 10, 3) := by decide +kernel
theorem dL_burns_17 : decode cL_burns 17 = .ok (.iload 5, 2) := by decide +kernel
theorem dL_burns_19 : decode cL_burns 19 = .ok (.iconst 1, 1) := by decide +kernel
theorem dL_burns_20 : decode cL_burns 20 = .ok (.ishr, 1) := by decide +kernel
theorem dL_burns_21 : decode cL_burns 21 = .ok (.goto 5, 3) := by decide +kernel
theorem dL_burns_24 : decode cL_burns 24 = .ok (.iload 5, 2) := by decide +kernel
theorem dL_burns_26 : decode cL_burns 26 = .ok (.imul, 1) := by decide +kernel
theorem dL_burns_27 : decode cL_burns 27 = .ok (.iload_n 2, 1) := by decide +kernel
theorem dL_burns_28 : decode cL_burns 28 = .ok (.iload_n 3, 1) := by decide +kernel
theorem dL_burns_29 : decode cL_burns 29 = .ok (.invokestatic 42, 3) := by decide +kernel
theorem dL_burns_32 : decode cL_burns 32 = .ok (.isub, 1) := by decide +kernel
theorem dL_burns_33 : decode cL_burns 33 = .ok (.istore 6, 2) := by decide +kernel
theorem dL_burns_35 : decode cL_burns 35 = .ok (.iload 6, 2) := by decide +kernel
theorem dL_burns_37 : decode cL_burns 37 = .ok (.ifCond .ge 7, 3) := by decide +kernel
theorem dL_burns_40 : decode cL_burns 40 = .ok (.iconst 0, 1) := by decide +kernel
theorem dL_burns_41 : decode cL_burns 41 = .ok (.goto 5, 3) := by decide +kernel
theorem dL_burns_44 : decode cL_burns 44 = .ok (.iload 6, 2) := by decide +kernel
theorem dL_burns_46 : decode cL_burns 46 = .ok (.ireturn, 1) := by decide +kernel
theorem dL_comes_0 : decode cL_comes 0 = .ok (.iload_n 2, 1) := by decide +kernel
theorem dL_comes_1 : decode cL_comes 1 = .ok (.iconst 4, 1) := by decide +kernel
theorem dL_comes_2 : decode cL_comes 2 = .ok (.if_icmp .ne 5, 3) := by decide +kernel
theorem dL_comes_5 : decode cL_comes 5 = .ok (.iconst 1, 1) := by decide +kernel
theorem dL_comes_6 : decode cL_comes 6 = .ok (.ireturn, 1) := by decide +kernel
theorem dL_comes_7 : decode cL_comes 7 = .ok (.aload_n 0, 1) := by decide +kernel
theorem dL_comes_8 : decode cL_comes 8 = .ok (.bipush 11, 2) := by decide +kernel
theorem dL_comes_10 : decode cL_comes 10 = .ok (.iload_n 1, 1) := by decide +kernel
theorem dL_comes_11 : decode cL_comes 11 = .ok (.iadd, 1) := by decide +kernel
theorem dL_comes_12 : decode cL_comes 12 = .ok (.iaload, 1) := by decide +kernel
theorem dL_comes_13 : decode cL_comes 13 = .ok (.ifCond .eq 13, 3) := by decide +kernel
theorem dL_comes_16 : decode cL_comes 16 = .ok (.aload_n 0, 1) := by decide +kernel
theorem dL_comes_17 : decode cL_comes 17 = .ok (.bipush 17, 2) := by decide +kernel
theorem dL_comes_19 : decode cL_comes 19 = .ok (.iload_n 1, 1) := by decide +kernel
theorem dL_comes_20 : decode cL_comes 20 = .ok (.iadd, 1) := by decide +kernel
theorem dL_comes_21 : decode cL_comes 21 = .ok (.iaload, 1) := by decide +kernel
theorem dL_comes_22 : decode cL_comes 22 = .ok (.iconst 3, 1) := by decide +kernel
theorem dL_comes_23 : decode cL_comes 23 = .ok (.if_icmp .ge 7, 3) := by decide +kernel
theorem dL_comes_26 : decode cL_comes 26 = .ok (.iconst 1, 1) := by decide +kernel
theorem dL_comes_27 : decode cL_comes 27 = .ok (.goto 4, 3) := by decide +kernel
theorem dL_comes_30 : decode cL_comes 30 = .ok (.iconst 0, 1) := by decide +kernel
theorem dL_comes_31 : decode cL_comes 31 = .ok (.istore 4, 2) := by decide +kernel
theorem dL_comes_33 : decode cL_comes 33 = .ok (.iload 4, 2) := by decide +kernel
theorem dL_comes_35 : decode cL_comes 35 = .ok (.ifCond .eq 38, 3) := by decide +kernel
theorem dL_comes_38 : decode cL_comes 38 = .ok (.iload_n 3, 1) := by decide +kernel
theorem dL_comes_39 : decode cL_comes 39 = .ok (.iload_n 2, 1) := by decide +kernel
theorem dL_comes_40 : decode cL_comes 40 = .ok (.iconst 2, 1) := by decide +kernel
theorem dL_comes_41 : decode cL_comes 41 = .ok (.if_icmp .eq 8, 3) := by decide +kernel
theorem dL_comes_44 : decode cL_comes 44 = .ok (.iload_n 2, 1) := by decide +kernel
theorem dL_comes_45 : decode cL_comes 45 = .ok (.iconst 5, 1) := by decide +kernel
theorem dL_comes_46 : decode cL_comes 46 = .ok (.if_icmp .ne 8, 3) := by decide +kernel
theorem dL_comes_49 : decode cL_comes 49 = .ok (.bipush 20, 2) := by decide +kernel
theorem dL_comes_51 : decode cL_comes 51 = .ok (.goto 15, 3) := by decide +kernel
theorem dL_comes_54 : decode cL_comes 54 = .ok (.iload_n 2, 1) := by decide +kernel
theorem dL_comes_55 : decode cL_comes 55 = .ok (.iconst 3, 1) := by decide +kernel
theorem dL_comes_56 : decode cL_comes 56 = .ok (.if_icmp .ne 8, 3) := by decide +kernel
theorem dL_comes_59 : decode cL_comes 59 = .ok (.bipush 10, 2) := by decide +kernel
theorem dL_comes_61 : decode cL_comes 61 = .ok (.goto 5, 3) := by decide +kernel
theorem dL_comes_64 : decode cL_comes 64 = .ok (.bipush 30, 2) := by decide +kernel
theorem dL_comes_66 : decode cL_comes 66 = .ok (.if_icmp .gt 7, 3) := by decide +kernel
theorem dL_comes_69 : decode cL_comes 69 = .ok (.iconst 1, 1) := by decide +kernel
theorem dL_comes_70 : decode cL_comes 70 = .ok (.goto 4, 3) := by decide +kernel
theorem dL_comes_73 : decode cL_comes 73 = .ok (.iconst 0, 1) := by decide +kernel
theorem dL_comes_74 : decode cL_comes 74 = .ok (.ireturn, 1) := by decide +kernel
theorem dL_tells_0 : decode cL_tells 0 = .ok (.aload_n 0, 1) := by decide +kernel
theorem dL_tells_1 : decode cL_tells 1 = .ok (.iload_n 2, 1) := by decide +kernel
theorem dL_tells_2 : decode cL_tells 2 = .ok (.iload_n 3, 1) := by decide +kernel
theorem dL_tells_3 : decode cL_tells 3 = .ok (.iload 5, 2) := by decide +kernel
theorem dL_tells_5 : decode cL_tells 5 = .ok (.invokestatic 45, 3) := by decide +kernel
theorem dL_tells_8 : decode cL_tells 8 = .ok (.ifCond .ne 5, 3) := by decide +kernel
theorem dL_tells_11 : decode cL_tells 11 = .ok (.iconst 2, 1) := by decide +kernel
theorem dL_tells_12 : decode cL_tells 12 = .ok (.ireturn, 1) := by decide +kernel
theorem dL_tells_13 : decode cL_tells 13 = .ok (.aload_n 0, 1) := by decide +kernel
theorem dL_tells_14 : decode cL_tells 14 = .ok (.iload_n 2, 1) := by decide +kernel
theorem dL_tells_15 : decode cL_tells 15 = .ok (.iload_n 3, 1) := by decide +kernel
theorem dL_tells_16 : decode cL_tells 16 = .ok (.iload 4, 2) := by decide +kernel
theorem dL_tells_18 : decode cL_tells 18 = .ok (.iload 5, 2) := by decide +kernel
theorem dL_tells_20 : decode cL_tells 20 = .ok (.invokestatic 49, 3) := by decide +kernel
theorem dL_tells_23 : decode cL_tells 23 = .ok (.aload_n 0, 1) := by decide +kernel
theorem dL_tells_24 : decode cL_tells 24 = .ok (.iconst 3, 1) := by decide +kernel
theorem dL_tells_25 : decode cL_tells 25 = .ok (.iaload, 1) := by decide +kernel
theorem dL_tells_26 : decode cL_tells 26 = .ok (.aload_n 1, 1) := by decide +kernel
theorem dL_tells_27 : decode cL_tells 27 = .ok (.iconst 4, 1) := by decide +kernel
theorem dL_tells_28 : decode cL_tells 28 = .ok (.iload_n 2, 1) := by decide +kernel
theorem dL_tells_29 : decode cL_tells 29 = .ok (.iadd, 1) := by decide +kernel
theorem dL_tells_30 : decode cL_tells 30 = .ok (.iaload, 1) := by decide +kernel
theorem dL_tells_31 : decode cL_tells 31 = .ok (.iadd, 1) := by decide +kernel
theorem dL_tells_32 : decode cL_tells 32 = .ok (.aload_n 1, 1) := by decide +kernel
theorem dL_tells_33 : decode cL_tells 33 = .ok (.iconst 4, 1) := by decide +kernel
theorem dL_tells_34 : decode cL_tells 34 = .ok (.iload_n 2, 1) := by decide +kernel
theorem dL_tells_35 : decode cL_tells 35 = .ok (.iadd, 1) := by decide +kernel
theorem dL_tells_36 : decode cL_tells 36 = .ok (.iaload, 1) := by decide +kernel
theorem dL_tells_37 : decode cL_tells 37 = .ok (.iadd, 1) := by decide +kernel
theorem dL_tells_38 : decode cL_tells 38 = .ok (.if_icmp .le 7, 3) := by decide +kernel
theorem dL_tells_41 : decode cL_tells 41 = .ok (.iconst 0, 1) := by decide +kernel
theorem dL_tells_42 : decode cL_tells 42 = .ok (.goto 4, 3) := by decide +kernel
theorem dL_tells_45 : decode cL_tells 45 = .ok (.iconst 1, 1) := by decide +kernel
theorem dL_tells_46 : decode cL_tells 46 = .ok (.ireturn, 1) := by decide +kernel
theorem dL_told_0 : decode cL_told 0 = .ok (.aload_n 0, 1) := by decide +kernel
theorem dL_told_1 : decode cL_told 1 = .ok (.aload_n 1, 1) := by decide +kernel
theorem dL_told_2 : decode cL_told 2 = .ok (.iload_n 2, 1) := by decide +kernel
theorem dL_told_3 : decode cL_told 3 = .ok (.aload_n 0, 1) := by decide +kernel
theorem dL_told_4 : decode cL_told 4 = .ok (.iconst 5, 1) := by decide +kernel
theorem dL_told_5 : decode cL_told 5 = .ok (.iload_n 2, 1) := by decide +kernel
theorem dL_told_6 : decode cL_told 6 = .ok (.iadd, 1) := by decide +kernel
theorem dL_told_7 : decode cL_told 7 = .ok (.iaload, 1) := by decide +kernel
theorem dL_told_8 : decode cL_told 8 = .ok (.aload_n 0, 1) := by decide +kernel
theorem dL_told_9 : decode cL_told 9 = .ok (.bipush 23, 2) := by decide +kernel
theorem dL_told_11 : decode cL_told 11 = .ok (.iload_n 2, 1) := by decide +kernel
theorem dL_told_12 : decode cL_told 12 = .ok (.iadd, 1) := by decide +kernel
theorem dL_told_13 : decode cL_told 13 = .ok (.iaload, 1) := by decide +kernel
theorem dL_told_14 : decode cL_told 14 = .ok (.iload_n 3, 1) := by decide +kernel
theorem dL_told_15 : decode cL_told 15 = .ok (.invokestatic 53, 3) := by decide +kernel
theorem dL_told_18 : decode cL_told 18 = .ok (.ireturn, 1) := by decide +kernel
theorem dL_wrong_0 : decode cL_wrong 0 = .ok (.aload_n 0, 1) := by decide +kernel
theorem dL_wrong_1 : decode cL_wrong 1 = .ok (.bipush 11, 2) := by decide +kernel
theorem dL_wrong_3 : decode cL_wrong 3 = .ok (.iload_n 1, 1) := by decide +kernel
theorem dL_wrong_4 : decode cL_wrong 4 = .ok (.iadd, 1) := by decide +kernel
theorem dL_wrong_5 : decode cL_wrong 5 = .ok (.iaload, 1) := by decide +kernel
theorem dL_wrong_6 : decode cL_wrong 6 = .ok (.iload_n 2, 1) := by decide +kernel
theorem dL_wrong_7 : decode cL_wrong 7 = .ok (.iconst 1, 1) := by decide +kernel
theorem dL_wrong_8 : decode cL_wrong 8 = .ok (.if_icmp .ne 7, 3) := by decide +kernel
theorem dL_wrong_11 : decode cL_wrong 11 = .ok (.iconst 1, 1) := by decide +kernel
theorem dL_wrong_12 : decode cL_wrong 12 = .ok (.goto 4, 3) := by decide +kernel
theorem dL_wrong_15 : decode cL_wrong 15 = .ok (.iconst 0, 1) := by decide +kernel
theorem dL_wrong_16 : decode cL_wrong 16 = .ok (.if_icmp .ne 7, 3) := by decide +kernel
theorem dL_wrong_19 : decode cL_wrong 19 = .ok (.iconst 1, 1) := by decide +kernel
theorem dL_wrong_20 : decode cL_wrong 20 = .ok (.goto 4, 3) := by decide +kernel
theorem dL_wrong_23 : decode cL_wrong 23 = .ok (.iconst 0, 1) := by decide +kernel
theorem dL_wrong_24 : decode cL_wrong 24 = .ok (.ireturn, 1) := by decide +kernel
theorem dL_cut_0 : decode cL_cut 0 = .ok (.iload_n 0, 1) := by decide +kernel
theorem dL_cut_1 : decode cL_cut 1 = .ok (.bipush 30, 2) := by decide +kernel
theorem dL_cut_3 : decode cL_cut 3 = .ok (.if_icmp .le 8, 3) := by decide +kernel
theorem dL_cut_6 : decode cL_cut 6 = .ok (.bipush 30, 2) := by decide +kernel
theorem dL_cut_8 : decode cL_cut 8 = .ok (.goto 12, 3) := by decide +kernel
theorem dL_cut_11 : decode cL_cut 11 = .ok (.iload_n 0, 1) := by decide +kernel
theorem dL_cut_12 : decode cL_cut 12 = .ok (.ifCond .ge 7, 3) := by decide +kernel
theorem dL_cut_15 : decode cL_cut 15 = .ok (.iconst 0, 1) := by decide +kernel
theorem dL_cut_16 : decode cL_cut 16 = .ok (.goto 4, 3) := by decide +kernel
theorem dL_cut_19 : decode cL_cut 19 = .ok (.iload_n 0, 1) := by decide +kernel
theorem dL_cut_20 : decode cL_cut 20 = .ok (.ireturn, 1) := by decide +kernel
theorem dL_trial_0 : decode cL_trial 0 = .ok (.aload_n 0, 1) := by decide +kernel
theorem dL_trial_1 : decode cL_trial 1 = .ok (.aload_n 1, 1) := by decide +kernel
theorem dL_trial_2 : decode cL_trial 2 = .ok (.iload_n 2, 1) := by decide +kernel
theorem dL_trial_3 : decode cL_trial 3 = .ok (.aload_n 1, 1) := by decide +kernel
theorem dL_trial_4 : decode cL_trial 4 = .ok (.iconst 0, 1) := by decide +kernel
theorem dL_trial_5 : decode cL_trial 5 = .ok (.iaload, 1) := by decide +kernel
theorem dL_trial_6 : decode cL_trial 6 = .ok (.invokestatic 57, 3) := by decide +kernel
theorem dL_trial_9 : decode cL_trial 9 = .ok (.istore_n 3, 1) := by decide +kernel
theorem dL_trial_10 : decode cL_trial 10 = .ok (.aload_n 1, 1) := by decide +kernel
theorem dL_trial_11 : decode cL_trial 11 = .ok (.iconst 1, 1) := by decide +kernel
theorem dL_trial_12 : decode cL_trial 12 = .ok (.dup2, 1) := by decide +kernel
theorem dL_trial_13 : decode cL_trial 13 = .ok (.iaload, 1) := by decide +kernel
theorem dL_trial_14 : decode cL_trial 14 = .ok (.iconst 1, 1) := by decide +kernel
theorem dL_trial_15 : decode cL_trial 15 = .ok (.iload_n 2, 1) := by decide +kernel
theorem dL_trial_16 : decode cL_trial 16 = .ok (.ishl, 1) := by decide +kernel
theorem dL_trial_17 : decode cL_trial 17 = .ok (.ior, 1) := by decide +kernel
theorem dL_trial_18 : decode cL_trial 18 = .ok (.iastore, 1) := by decide +kernel
theorem dL_trial_19 : decode cL_trial 19 = .ok (.aload_n 1, 1) := by decide +kernel
theorem dL_trial_20 : decode cL_trial 20 = .ok (.iconst 3, 1) := by decide +kernel
theorem dL_trial_21 : decode cL_trial 21 = .ok (.dup2, 1) := by decide +kernel
theorem dL_trial_22 : decode cL_trial 22 = .ok (.iaload, 1) := by decide +kernel
theorem dL_trial_23 : decode cL_trial 23 = .ok (.aload_n 0, 1) := by decide +kernel
theorem dL_trial_24 : decode cL_trial 24 = .ok (.iload_n 2, 1) := by decide +kernel
theorem dL_trial_25 : decode cL_trial 25 = .ok (.iload_n 3, 1) := by decide +kernel
theorem dL_trial_26 : decode cL_trial 26 = .ok (.invokestatic 61, 3) := by decide +kernel
theorem dL_trial_29 : decode cL_trial 29 = .ok (.iadd, 1) := by decide +kernel
theorem dL_trial_30 : decode cL_trial 30 = .ok (.iastore, 1) := by decide +kernel
theorem dL_trial_31 : decode cL_trial 31 = .ok (.aload_n 1, 1) := by decide +kernel
theorem dL_trial_32 : decode cL_trial 32 = .ok (.bipush 10, 2) := by decide +kernel
theorem dL_trial_34 : decode cL_trial 34 = .ok (.iload_n 2, 1) := by decide +kernel
theorem dL_trial_35 : decode cL_trial 35 = .ok (.iadd, 1) := by decide +kernel
theorem dL_trial_36 : decode cL_trial 36 = .ok (.iload_n 3, 1) := by decide +kernel
theorem dL_trial_37 : decode cL_trial 37 = .ok (.iastore, 1) := by decide +kernel
theorem dL_trial_38 : decode cL_trial 38 = .ok (.aload_n 1, 1) := by decide +kernel
theorem dL_trial_39 : decode cL_trial 39 = .ok (.iconst 2, 1) := by decide +kernel
theorem dL_trial_40 : decode cL_trial 40 = .ok (.dup2, 1) := by decide +kernel
theorem dL_trial_41 : decode cL_trial 41 = .ok (.iaload, 1) := by decide +kernel
theorem dL_trial_42 : decode cL_trial 42 = .ok (.iload_n 3, 1) := by decide +kernel
theorem dL_trial_43 : decode cL_trial 43 = .ok (.iconst 1, 1) := by decide +kernel
theorem dL_trial_44 : decode cL_trial 44 = .ok (.if_icmp .ne 7, 3) := by decide +kernel
