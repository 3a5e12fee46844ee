theorem dL_trial_47 : decode cL_trial 47 = .ok (.iconst 1, 1) := by decide +kernel
theorem dL_trial_48 : decode cL_trial 48 = .ok (.goto 4, 3) := by decide +kernel
theorem dL_trial_51 : decode cL_trial 51 = .ok (.iconst 0, 1) := by decide +kernel
theorem dL_trial_52 : decode cL_trial 52 = .ok (.iadd, 1) := by decide +kernel
theorem dL_trial_53 : decode cL_trial 53 = .ok (.iastore, 1) := by decide +kernel
theorem dL_trial_54 : decode cL_trial 54 = .ok (.aload_n 1, 1) := by decide +kernel
theorem dL_trial_55 : decode cL_trial 55 = .ok (.iconst 0, 1) := by decide +kernel
theorem dL_trial_56 : decode cL_trial 56 = .ok (.aload_n 1, 1) := by decide +kernel
theorem dL_trial_57 : decode cL_trial 57 = .ok (.iconst 0, 1) := by decide +kernel
theorem dL_trial_58 : decode cL_trial 58 = .ok (.iaload, 1) := by decide +kernel
theorem dL_trial_59 : decode cL_trial 59 = .ok (.iload_n 3, 1) := by decide +kernel
theorem dL_trial_60 : decode cL_trial 60 = .ok (.iconst 1, 1) := by decide +kernel
theorem dL_trial_61 : decode cL_trial 61 = .ok (.if_icmp .ne 16, 3) := by decide +kernel
theorem dL_trial_64 : decode cL_trial 64 = .ok (.aload_n 1, 1) := by decide +kernel
theorem dL_trial_65 : decode cL_trial 65 = .ok (.iconst 2, 1) := by decide +kernel
theorem dL_trial_66 : decode cL_trial 66 = .ok (.iaload, 1) := by decide +kernel
theorem dL_trial_67 : decode cL_trial 67 = .ok (.aload_n 0, 1) := by decide +kernel
theorem dL_trial_68 : decode cL_trial 68 = .ok (.iconst 4, 1) := by decide +kernel
theorem dL_trial_69 : decode cL_trial 69 = .ok (.iaload, 1) := by decide +kernel
theorem dL_trial_70 : decode cL_trial 70 = .ok (.if_icmp .lt 7, 3) := by decide +kernel
theorem dL_trial_73 : decode cL_trial 73 = .ok (.iconst 5, 1) := by decide +kernel
theorem dL_trial_74 : decode cL_trial 74 = .ok (.goto 4, 3) := by decide +kernel
theorem dL_trial_77 : decode cL_trial 77 = .ok (.iconst 0, 1) := by decide +kernel
theorem dL_trial_78 : decode cL_trial 78 = .ok (.iadd, 1) := by decide +kernel
theorem dL_trial_79 : decode cL_trial 79 = .ok (.invokestatic 64, 3) := by decide +kernel
theorem dL_trial_82 : decode cL_trial 82 = .ok (.iastore, 1) := by decide +kernel
theorem dL_trial_83 : decode cL_trial 83 = .ok (.iload_n 3, 1) := by decide +kernel
theorem dL_trial_84 : decode cL_trial 84 = .ok (.ireturn, 1) := by decide +kernel
theorem dL_stir_0 : decode cL_stir 0 = .ok (.iconst 1, 1) := by decide +kernel
theorem dL_stir_1 : decode cL_stir 1 = .ok (.istore 5, 2) := by decide +kernel
theorem dL_stir_3 : decode cL_stir 3 = .ok (.iconst 0, 1) := by decide +kernel
theorem dL_stir_4 : decode cL_stir 4 = .ok (.istore 6, 2) := by decide +kernel
theorem dL_stir_6 : decode cL_stir 6 = .ok (.iload 6, 2) := by decide +kernel
theorem dL_stir_8 : decode cL_stir 8 = .ok (.iload 4, 2) := by decide +kernel
theorem dL_stir_10 : decode cL_stir 10 = .ok (.if_icmp .ge 226, 3) := by decide +kernel
theorem dL_stir_13 : decode cL_stir 13 = .ok (.iload_n 3, 1) := by decide +kernel
theorem dL_stir_14 : decode cL_stir 14 = .ok (.iconst 3, 1) := by decide +kernel
theorem dL_stir_15 : decode cL_stir 15 = .ok (.iload 6, 2) := by decide +kernel
theorem dL_stir_17 : decode cL_stir 17 = .ok (.imul, 1) := by decide +kernel
theorem dL_stir_18 : decode cL_stir 18 = .ok (.ishr, 1) := by decide +kernel
theorem dL_stir_19 : decode cL_stir 19 = .ok (.bipush 7, 2) := by decide +kernel
theorem dL_stir_21 : decode cL_stir 21 = .ok (.iload 6, 2) := by decide +kernel
theorem dL_stir_23 : decode cL_stir 23 = .ok (.imul, 1) := by decide +kernel
theorem dL_stir_24 : decode cL_stir 24 = .ok (.iadd, 1) := by decide +kernel
theorem dL_stir_25 : decode cL_stir 25 = .ok (.istore 7, 2) := by decide +kernel
theorem dL_stir_27 : decode cL_stir 27 = .ok (.iload 7, 2) := by decide +kernel
theorem dL_stir_29 : decode cL_stir 29 = .ok (.iconst 2, 1) := by decide +kernel
theorem dL_stir_30 : decode cL_stir 30 = .ok (.ishr, 1) := by decide +kernel
theorem dL_stir_31 : decode cL_stir 31 = .ok (.aload_n 1, 1) := by decide +kernel
theorem dL_stir_32 : decode cL_stir 32 = .ok (.iconst 0, 1) := by decide +kernel
theorem dL_stir_33 : decode cL_stir 33 = .ok (.iaload, 1) := by decide +kernel
theorem dL_stir_34 : decode cL_stir 34 = .ok (.invokestatic 15, 3) := by decide +kernel
theorem dL_stir_37 : decode cL_stir 37 = .ok (.istore 8, 2) := by decide +kernel
theorem dL_stir_39 : decode cL_stir 39 = .ok (.iload 7, 2) := by decide +kernel
theorem dL_stir_41 : decode cL_stir 41 = .ok (.iconst 5, 1) := by decide +kernel
theorem dL_stir_42 : decode cL_stir 42 = .ok (.ishr, 1) := by decide +kernel
theorem dL_stir_43 : decode cL_stir 43 = .ok (.bipush 11, 2) := by decide +kernel
theorem dL_stir_45 : decode cL_stir 45 = .ok (.invokestatic 15, 3) := by decide +kernel
theorem dL_stir_48 : decode cL_stir 48 = .ok (.iconst 5, 1) := by decide +kernel
theorem dL_stir_49 : decode cL_stir 49 = .ok (.isub, 1) := by decide +kernel
theorem dL_stir_50 : decode cL_stir 50 = .ok (.istore 9, 2) := by decide +kernel
theorem dL_stir_52 : decode cL_stir 52 = .ok (.iload 7, 2) := by decide +kernel
theorem dL_stir_54 : decode cL_stir 54 = .ok (.iconst 3, 1) := by decide +kernel
theorem dL_stir_55 : decode cL_stir 55 = .ok (.iand, 1) := by decide +kernel
theorem dL_stir_56 : decode cL_stir 56 = .ok (.ifCond .ne 64, 3) := by decide +kernel
theorem dL_stir_59 : decode cL_stir 59 = .ok (.aload_n 2, 1) := by decide +kernel
theorem dL_stir_60 : decode cL_stir 60 = .ok (.iconst 1, 1) := by decide +kernel
theorem dL_stir_61 : decode cL_stir 61 = .ok (.iaload, 1) := by decide +kernel
theorem dL_stir_62 : decode cL_stir 62 = .ok (.iload 8, 2) := by decide +kernel
theorem dL_stir_64 : decode cL_stir 64 = .ok (.ishr, 1) := by decide +kernel
theorem dL_stir_65 : decode cL_stir 65 = .ok (.iconst 1, 1) := by decide +kernel
theorem dL_stir_66 : decode cL_stir 66 = .ok (.iand, 1) := by decide +kernel
theorem dL_stir_67 : decode cL_stir 67 = .ok (.ifCond .ne 53, 3) := by decide +kernel
theorem dL_stir_70 : decode cL_stir 70 = .ok (.aload_n 1, 1) := by decide +kernel
theorem dL_stir_71 : decode cL_stir 71 = .ok (.aload_n 2, 1) := by decide +kernel
theorem dL_stir_72 : decode cL_stir 72 = .ok (.iload 8, 2) := by decide +kernel
theorem dL_stir_74 : decode cL_stir 74 = .ok (.invokestatic 67, 3) := by decide +kernel
theorem dL_stir_77 : decode cL_stir 77 = .ok (.istore 10, 2) := by decide +kernel
theorem dL_stir_79 : decode cL_stir 79 = .ok (.iload 5, 2) := by decide +kernel
theorem dL_stir_81 : decode cL_stir 81 = .ok (.ifCond .eq 33, 3) := by decide +kernel
theorem dL_stir_84 : decode cL_stir 84 = .ok (.aload_n 0, 1) := by decide +kernel
theorem dL_stir_85 : decode cL_stir 85 = .ok (.iload 8, 2) := by decide +kernel
theorem dL_stir_87 : decode cL_stir 87 = .ok (.invokevirtual 71, 3) := by decide +kernel
theorem dL_stir_90 : decode cL_stir 90 = .ok (.iload 10, 2) := by decide +kernel
theorem dL_stir_92 : decode cL_stir 92 = .ok (.if_icmp .ne 22, 3) := by decide +kernel
theorem dL_stir_95 : decode cL_stir 95 = .ok (.aload_n 0, 1) := by decide +kernel
theorem dL_stir_96 : decode cL_stir 96 = .ok (.invokevirtual 73, 3) := by decide +kernel
theorem dL_stir_99 : decode cL_stir 99 = .ok (.aload_n 1, 1) := by decide +kernel
theorem dL_stir_100 : decode cL_stir 100 = .ok (.iload 8, 2) := by decide +kernel
theorem dL_stir_102 : decode cL_stir 102 = .ok (.iload 10, 2) := by decide +kernel
theorem dL_stir_104 : decode cL_stir 104 = .ok (.invokestatic 61, 3) := by decide +kernel
theorem dL_stir_107 : decode cL_stir 107 = .ok (.if_icmp .ne 7, 3) := by decide +kernel
theorem dL_stir_110 : decode cL_stir 110 = .ok (.iconst 1, 1) := by decide +kernel
theorem dL_stir_111 : decode cL_stir 111 = .ok (.goto 4, 3) := by decide +kernel
theorem dL_stir_114 : decode cL_stir 114 = .ok (.iconst 0, 1) := by decide +kernel
theorem dL_stir_115 : decode cL_stir 115 = .ok (.istore 5, 2) := by decide +kernel
theorem dL_stir_117 : decode cL_stir 117 = .ok (.goto 113, 3) := by decide +kernel
theorem dL_stir_120 : decode cL_stir 120 = .ok (.iload 7, 2) := by decide +kernel
theorem dL_stir_122 : decode cL_stir 122 = .ok (.iconst 3, 1) := by decide +kernel
theorem dL_stir_123 : decode cL_stir 123 = .ok (.iand, 1) := by decide +kernel
theorem dL_stir_124 : decode cL_stir 124 = .ok (.iconst 1, 1) := by decide +kernel
theorem dL_stir_125 : decode cL_stir 125 = .ok (.if_icmp .ne 64, 3) := by decide +kernel
theorem dL_stir_128 : decode cL_stir 128 = .ok (.aload_n 2, 1) := by decide +kernel
theorem dL_stir_129 : decode cL_stir 129 = .ok (.iconst 1, 1) := by decide +kernel
theorem dL_stir_130 : decode cL_stir 130 = .ok (.iaload, 1) := by decide +kernel
theorem dL_stir_131 : decode cL_stir 131 = .ok (.iload 8, 2) := by decide +kernel
theorem dL_stir_133 : decode cL_stir 133 = .ok (.ishr, 1) := by decide +kernel
theorem dL_stir_134 : decode cL_stir 134 = .ok (.iconst 1, 1) := by decide +kernel
theorem dL_stir_135 : decode cL_stir 135 = .ok (.iand, 1) := by decide +kernel
theorem dL_stir_136 : decode cL_stir 136 = .ok (.ifCond .ne 53, 3) := by decide +kernel
theorem dL_stir_139 : decode cL_stir 139 = .ok (.aload_n 2, 1) := by decide +kernel
theorem dL_stir_140 : decode cL_stir 140 = .ok (.iconst 4, 1) := by decide +kernel
theorem dL_stir_141 : decode cL_stir 141 = .ok (.iload 8, 2) := by decide +kernel
theorem dL_stir_143 : decode cL_stir 143 = .ok (.iadd, 1) := by decide +kernel
theorem dL_stir_144 : decode cL_stir 144 = .ok (.iaload, 1) := by decide +kernel
theorem dL_stir_145 : decode cL_stir 145 = .ok (.iconst 3, 1) := by decide +kernel
theorem dL_stir_146 : decode cL_stir 146 = .ok (.if_icmp .ge 43, 3) := by decide +kernel
theorem dL_stir_149 : decode cL_stir 149 = .ok (.aload_n 2, 1) := by decide +kernel
theorem dL_stir_150 : decode cL_stir 150 = .ok (.iconst 4, 1) := by decide +kernel
theorem dL_stir_151 : decode cL_stir 151 = .ok (.iload 8, 2) := by decide +kernel
theorem dL_stir_153 : decode cL_stir 153 = .ok (.iadd, 1) := by decide +kernel
theorem dL_stir_154 : decode cL_stir 154 = .ok (.dup2, 1) := by decide +kernel
theorem dL_stir_155 : decode cL_stir 155 = .ok (.iaload, 1) := by decide +kernel
theorem dL_stir_156 : decode cL_stir 156 = .ok (.iconst 1, 1) := by decide +kernel
theorem dL_stir_157 : decode cL_stir 157 = .ok (.iadd, 1) := by decide +kernel
theorem dL_stir_158 : decode cL_stir 158 = .ok (.iastore, 1) := by decide +kernel
theorem dL_stir_159 : decode cL_stir 159 = .ok (.iload 5, 2) := by decide +kernel
theorem dL_stir_161 : decode cL_stir 161 = .ok (.ifCond .eq 22, 3) := by decide +kernel
theorem dL_stir_164 : decode cL_stir 164 = .ok (.aload_n 0, 1) := by decide +kernel
theorem dL_stir_165 : decode cL_stir 165 = .ok (.iload 8, 2) := by decide +kernel
theorem dL_stir_167 : decode cL_stir 167 = .ok (.invokevirtual 77, 3) := by decide +kernel
theorem dL_stir_170 : decode cL_stir 170 = .ok (.aload_n 2, 1) := by decide +kernel
theorem dL_stir_171 : decode cL_stir 171 = .ok (.iconst 4, 1) := by decide +kernel
theorem dL_stir_172 : decode cL_stir 172 = .ok (.iload 8, 2) := by decide +kernel
theorem dL_stir_174 : decode cL_stir 174 = .ok (.iadd, 1) := by decide +kernel
theorem dL_stir_175 : decode cL_stir 175 = .ok (.iaload, 1) := by decide +kernel
theorem dL_stir_176 : decode cL_stir 176 = .ok (.if_icmp .ne 7, 3) := by decide +kernel
theorem dL_stir_179 : decode cL_stir 179 = .ok (.iconst 1, 1) := by decide +kernel
theorem dL_stir_180 : decode cL_stir 180 = .ok (.goto 4, 3) := by decide +kernel
theorem dL_stir_183 : decode cL_stir 183 = .ok (.iconst 0, 1) := by decide +kernel
theorem dL_stir_184 : decode cL_stir 184 = .ok (.istore 5, 2) := by decide +kernel
theorem dL_stir_186 : decode cL_stir 186 = .ok (.goto 44, 3) := by decide +kernel
theorem dL_stir_189 : decode cL_stir 189 = .ok (.iload 9, 2) := by decide +kernel
theorem dL_stir_191 : decode cL_stir 191 = .ok (.ifCond .eq 39, 3) := by decide +kernel
theorem dL_stir_194 : decode cL_stir 194 = .ok (.aload_n 2, 1) := by decide +kernel
theorem dL_stir_195 : decode cL_stir 195 = .ok (.iconst 0, 1) := by decide +kernel
theorem dL_stir_196 : decode cL_stir 196 = .ok (.aload_n 2, 1) := by decide +kernel
theorem dL_stir_197 : decode cL_stir 197 = .ok (.iconst 0, 1) := by decide +kernel
theorem dL_stir_198 : decode cL_stir 198 = .ok (.iaload, 1) := by decide +kernel
theorem dL_stir_199 : decode cL_stir 199 = .ok (.iload 9, 2) := by decide +kernel
theorem dL_stir_201 : decode cL_stir 201 = .ok (.iadd, 1) := by decide +kernel
theorem dL_stir_202 : decode cL_stir 202 = .ok (.invokestatic 64, 3) := by decide +kernel
theorem dL_stir_205 : decode cL_stir 205 = .ok (.iastore, 1) := by decide +kernel
theorem dL_stir_206 : decode cL_stir 206 = .ok (.iload 5, 2) := by decide +kernel
theorem dL_stir_208 : decode cL_stir 208 = .ok (.ifCond .eq 19, 3) := by decide +kernel
theorem dL_stir_211 : decode cL_stir 211 = .ok (.aload_n 0, 1) := by decide +kernel
theorem dL_stir_212 : decode cL_stir 212 = .ok (.iload 9, 2) := by decide +kernel
theorem dL_stir_214 : decode cL_stir 214 = .ok (.invokevirtual 80, 3) := by decide +kernel
theorem dL_stir_217 : decode cL_stir 217 = .ok (.aload_n 2, 1) := by decide +kernel
theorem dL_stir_218 : decode cL_stir 218 = .ok (.iconst 0, 1) := by decide +kernel
theorem dL_stir_219 : decode cL_stir 219 = .ok (.iaload, 1) := by decide +kernel
theorem dL_stir_220 : decode cL_stir 220 = .ok (.if_icmp .ne 7, 3) := by decide +kernel
theorem dL_stir_223 : decode cL_stir 223 = .ok (.iconst 1, 1) := by decide +kernel
theorem dL_stir_224 : decode cL_stir 224 = .ok (.goto 4, 3) := by decide +kernel
theorem dL_stir_227 : decode cL_stir 227 = .ok (.iconst 0, 1) := by decide +kernel
theorem dL_stir_228 : decode cL_stir 228 = .ok (.istore 5, 2) := by decide +kernel
theorem dL_stir_230 : decode cL_stir 230 = .ok (.iinc 6 1, 3) := by decide +kernel
theorem dL_stir_233 : decode cL_stir 233 = .ok (.goto (-227), 3) := by decide +kernel
theorem dL_stir_236 : decode cL_stir 236 = .ok (.iload 5, 2) := by decide +kernel
theorem dL_stir_238 : decode cL_stir 238 = .ok (.ireturn, 1) := by decide +kernel
theorem dL_tell_0 : decode cL_tell 0 = .ok (.aload_n 0, 1) := by decide +kernel
theorem dL_tell_1 : decode cL_tell 1 = .ok (.iload_n 1, 1) := by decide +kernel
theorem dL_tell_2 : decode cL_tell 2 = .ok (.iload_n 2, 1) := by decide +kernel
theorem dL_tell_3 : decode cL_tell 3 = .ok (.invokevirtual 83, 3) := by decide +kernel
theorem dL_tell_6 : decode cL_tell 6 = .ok (.iconst 1, 1) := by decide +kernel
theorem dL_tell_7 : decode cL_tell 7 = .ok (.if_icmp .ne 10, 3) := by decide +kernel
theorem dL_tell_10 : decode cL_tell 10 = .ok (.aload_n 0, 1) := by decide +kernel
theorem dL_tell_11 : decode cL_tell 11 = .ok (.invokevirtual 73, 3) := by decide +kernel
theorem dL_tell_14 : decode cL_tell 14 = .ok (.goto 5, 3) := by decide +kernel
theorem dL_tell_17 : decode cL_tell 17 = .ok (.bipush (-99), 2) := by decide +kernel
theorem dL_tell_19 : decode cL_tell 19 = .ok (.ireturn, 1) := by decide +kernel
theorem dL_law_0 : decode cL_law 0 = .ok (.new 20, 3) := by decide +kernel
theorem dL_law_3 : decode cL_law 3 = .ok (.dup, 1) := by decide +kernel
theorem dL_law_4 : decode cL_law 4 = .ok (.invokespecial 86, 3) := by decide +kernel
theorem dL_law_7 : decode cL_law 7 = .ok (.astore_n 1, 1) := by decide +kernel
theorem dL_law_8 : decode cL_law 8 = .ok (.bipush 29, 2) := by decide +kernel
theorem dL_law_10 : decode cL_law 10 = .ok (.newarray .int, 2) := by decide +kernel
theorem dL_law_12 : decode cL_law 12 = .ok (.astore_n 2, 1) := by decide +kernel
theorem dL_law_13 : decode cL_law 13 = .ok (.bipush 16, 2) := by decide +kernel
theorem dL_law_15 : decode cL_law 15 = .ok (.newarray .int, 2) := by decide +kernel
theorem dL_law_17 : decode cL_law 17 = .ok (.astore_n 3, 1) := by decide +kernel
theorem dL_law_18 : decode cL_law 18 = .ok (.bipush 6, 2) := by decide +kernel
theorem dL_law_20 : decode cL_law 20 = .ok (.newarray .int, 2) := by decide +kernel
theorem dL_law_22 : decode cL_law 22 = .ok (.astore 4, 2) := by decide +kernel
theorem dL_law_24 : decode cL_law 24 = .ok (.aload_n 1, 1) := by decide +kernel
theorem dL_law_25 : decode cL_law 25 = .ok (.aload_n 0, 1) := by decide +kernel
theorem dL_law_26 : decode cL_law 26 = .ok (.aload_n 2, 1) := by decide +kernel
theorem dL_law_27 : decode cL_law 27 = .ok (.aload_n 3, 1) := by decide +kernel
theorem dL_law_28 : decode cL_law 28 = .ok (.invokestatic 87, 3) := by decide +kernel
theorem dL_law_31 : decode cL_law 31 = .ok (.ifCond .ne 5, 3) := by decide +kernel
theorem dL_law_34 : decode cL_law 34 = .ok (.iconst 0, 1) := by decide +kernel
theorem dL_law_35 : decode cL_law 35 = .ok (.ireturn, 1) := by decide +kernel
theorem dL_law_36 : decode cL_law 36 = .ok (.aload_n 2, 1) := by decide +kernel
theorem dL_law_37 : decode cL_law 37 = .ok (.iconst 0, 1) := by decide +kernel
theorem dL_law_38 : decode cL_law 38 = .ok (.iaload, 1) := by decide +kernel
theorem dL_law_39 : decode cL_law 39 = .ok (.istore 5, 2) := by decide +kernel
theorem dL_law_41 : decode cL_law 41 = .ok (.aload_n 1, 1) := by decide +kernel
theorem dL_law_42 : decode cL_law 42 = .ok (.invokevirtual 90, 3) := by decide +kernel
theorem dL_law_45 : decode cL_law 45 = .ok (.lstore 6, 2) := by decide +kernel
theorem dL_law_47 : decode cL_law 47 = .ok (.aload_n 1, 1) := by decide +kernel
theorem dL_law_48 : decode cL_law 48 = .ok (.iconst 0, 1) := by decide +kernel
theorem dL_law_49 : decode cL_law 49 = .ok (.invokevirtual 94, 3) := by decide +kernel
theorem dL_law_52 : decode cL_law 52 = .ok (.ifCond .eq 5, 3) := by decide +kernel
theorem dL_law_55 : decode cL_law 55 = .ok (.iconst 0, 1) := by decide +kernel
theorem dL_law_56 : decode cL_law 56 = .ok (.ireturn, 1) := by decide +kernel
theorem dL_law_57 : decode cL_law 57 = .ok (.iconst 0, 1) := by decide +kernel
theorem dL_law_58 : decode cL_law 58 = .ok (.istore 8, 2) := by decide +kernel
theorem dL_law_60 : decode cL_law 60 = .ok (.iload 8, 2) := by decide +kernel
theorem dL_law_62 : decode cL_law 62 = .ok (.iconst 3, 1) := by decide +kernel
theorem dL_law_63 : decode cL_law 63 = .ok (.if_icmp .ge 1937, 3) := by decide +kernel
theorem dL_law_66 : decode cL_law 66 = .ok (.aload_n 0, 1) := by decide +kernel
theorem dL_law_67 : decode cL_law 67 = .ok (.bipush 7, 2) := by decide +kernel
theorem dL_law_69 : decode cL_law 69 = .ok (.iload 8, 2) := by decide +kernel
theorem dL_law_71 : decode cL_law 71 = .ok (.iadd, 1) := by decide +kernel
theorem dL_law_72 : decode cL_law 72 = .ok (.invokestatic 9, 3) := by decide +kernel
theorem dL_law_75 : decode cL_law 75 = .ok (.istore 9, 2) := by decide +kernel
theorem dL_law_77 : decode cL_law 77 = .ok (.aload_n 1, 1) := by decide +kernel
theorem dL_law_78 : decode cL_law 78 = .ok (.aload_n 2, 1) := by decide +kernel
theorem dL_law_79 : decode cL_law 79 = .ok (.aload_n 3, 1) := by decide +kernel
theorem dL_law_80 : decode cL_law 80 = .ok (.aload_n 0, 1) := by decide +kernel
theorem dL_law_81 : decode cL_law 81 = .ok (.bipush 10, 2) := by decide +kernel
theorem dL_law_83 : decode cL_law 83 = .ok (.iload 8, 2) := by decide +kernel
theorem dL_law_85 : decode cL_law 85 = .ok (.iadd, 1) := by decide +kernel
theorem dL_law_86 : decode cL_law 86 = .ok (.invokestatic 9, 3) := by decide +kernel
theorem dL_law_89 : decode cL_law 89 = .ok (.iconst 3, 1) := by decide +kernel
theorem dL_law_90 : decode cL_law 90 = .ok (.invokestatic 97, 3) := by decide +kernel
theorem dL_law_93 : decode cL_law 93 = .ok (.ifCond .ne 5, 3) := by decide +kernel
theorem dL_law_96 : decode cL_law 96 = .ok (.iconst 0, 1) := by decide +kernel
theorem dL_law_97 : decode cL_law 97 = .ok (.ireturn, 1) := by decide +kernel
theorem dL_law_98 : decode cL_law 98 = .ok (.aload_n 1, 1) := by decide +kernel
theorem dL_law_99 : decode cL_law 99 = .ok (.iconst 2, 1) := by decide +kernel
theorem dL_law_100 : decode cL_law 100 = .ok (.invokevirtual 101, 3) := by decide +kernel
theorem dL_law_103 : decode cL_law 103 = .ok (.istore 10, 2) := by decide +kernel
theorem dL_law_105 : decode cL_law 105 = .ok (.aload_n 1, 1) := by decide +kernel
theorem dL_law_106 : decode cL_law 106 = .ok (.iconst 1, 1) := by decide +kernel
theorem dL_law_107 : decode cL_law 107 = .ok (.invokevirtual 101, 3) := by decide +kernel
theorem dL_law_110 : decode cL_law 110 = .ok (.istore 11, 2) := by decide +kernel
theorem dL_law_112 : decode cL_law 112 = .ok (.aload_n 1, 1) := by decide +kernel
theorem dL_law_113 : decode cL_law 113 = .ok (.iconst 3, 1) := by decide +kernel
theorem dL_law_114 : decode cL_law 114 = .ok (.invokevirtual 101, 3) := by decide +kernel
theorem dL_law_117 : decode cL_law 117 = .ok (.istore 12, 2) := by decide +kernel
theorem dL_law_119 : decode cL_law 119 = .ok (.aload_n 1, 1) := by decide +kernel
theorem dL_law_120 : decode cL_law 120 = .ok (.iconst 4, 1) := by decide +kernel
theorem dL_law_121 : decode cL_law 121 = .ok (.invokevirtual 101, 3) := by decide +kernel
theorem dL_law_124 : decode cL_law 124 = .ok (.istore 13, 2) := by decide +kernel
theorem dL_law_126 : decode cL_law 126 = .ok (.aload_n 1, 1) := by decide +kernel
theorem dL_law_127 : decode cL_law 127 = .ok (.iconst 5, 1) := by decide +kernel
theorem dL_law_128 : decode cL_law 128 = .ok (.invokevirtual 101, 3) := by decide +kernel
theorem dL_law_131 : decode cL_law 131 = .ok (.istore 14, 2) := by decide +kernel
theorem dL_law_133 : decode cL_law 133 = .ok (.aload_n 1, 1) := by decide +kernel
theorem dL_law_134 : decode cL_law 134 = .ok (.invokevirtual 104, 3) := by decide +kernel
theorem dL_law_137 : decode cL_law 137 = .ok (.istore 15, 2) := by decide +kernel
theorem dL_law_139 : decode cL_law 139 = .ok (.aload_n 1, 1) := by decide +kernel
theorem dL_law_140 : decode cL_law 140 = .ok (.invokevirtual 73, 3) := by decide +kernel
theorem dL_law_143 : decode cL_law 143 = .ok (.istore 16, 2) := by decide +kernel
theorem dL_law_145 : decode cL_law 145 = .ok (.iload 11, 2) := by decide +kernel
theorem dL_law_147 : decode cL_law 147 = .ok (.ifCond .lt 47, 3) := by decide +kernel
theorem dL_law_150 : decode cL_law 150 = .ok (.iload 11, 2) := by decide +kernel
theorem dL_law_152 : decode cL_law 152 = .ok (.bipush 30, 2) := by decide +kernel
theorem dL_law_154 : decode cL_law 154 = .ok (.if_icmp .gt 40, 3) := by decide +kernel
theorem dL_law_157 : decode cL_law 157 = .ok (.iload 14, 2) := by decide +kernel
theorem dL_law_159 : decode cL_law 159 = .ok (.ifCond .lt 35, 3) := by decide +kernel
theorem dL_law_162 : decode cL_law 162 = .ok (.iload 14, 2) := by decide +kernel
theorem dL_law_164 : decode cL_law 164 = .ok (.iload 5, 2) := by decide +kernel
theorem dL_law_166 : decode cL_law 166 = .ok (.if_icmp .gt 28, 3) := by decide +kernel
theorem dL_law_169 : decode cL_law 169 = .ok (.iload 13, 2) := by decide +kernel
theorem dL_law_171 : decode cL_law 171 = .ok (.iload 5, 2) := by decide +kernel
theorem dL_law_173 : decode cL_law 173 = .ok (.if_icmp .gt 21, 3) := by decide +kernel
theorem dL_law_176 : decode cL_law 176 = .ok (.iload 15, 2) := by decide +kernel
theorem dL_law_178 : decode cL_law 178 = .ok (.iload 12, 2) := by decide +kernel
theorem dL_law_180 : decode cL_law 180 = .ok (.iand, 1) := by decide +kernel
theorem dL_law_181 : decode cL_law 181 = .ok (.ifCond .ne 13, 3) := by decide +kernel
theorem dL_law_184 : decode cL_law 184 = .ok (.iload 16, 2) := by decide +kernel
theorem dL_law_186 : decode cL_law 186 = .ok (.iload 15, 2) := by decide +kernel
theorem dL_law_188 : decode cL_law 188 = .ok (.iconst (-1), 1) := by decide +kernel
theorem dL_law_189 : decode cL_law 189 = .ok (.ixor, 1) := by decide +kernel
theorem dL_law_190 : decode cL_law 190 = .ok (.iand, 1) := by decide +kernel
theorem dL_law_191 : decode cL_law 191 = .ok (.ifCond .eq 5, 3) := by decide +kernel
theorem dL_law_194 : decode cL_law 194 = .ok (.iconst 0, 1) := by decide +kernel
theorem dL_law_195 : decode cL_law 195 = .ok (.ireturn, 1) := by decide +kernel
theorem dL_law_196 : decode cL_law 196 = .ok (.iconst 0, 1) := by decide +kernel
theorem dL_law_197 : decode cL_law 197 = .ok (.istore 17, 2) := by decide +kernel
theorem dL_law_199 : decode cL_law 199 = .ok (.iconst 0, 1) := by decide +kernel
theorem dL_law_200 : decode cL_law 200 = .ok (.istore 18, 2) := by decide +kernel
theorem dL_law_202 : decode cL_law 202 = .ok (.iload 18, 2) := by decide +kernel
theorem dL_law_204 : decode cL_law 204 = .ok (.iload 5, 2) := by decide +kernel
theorem dL_law_206 : decode cL_law 206 = .ok (.if_icmp .ge 458, 3) := by decide +kernel
theorem dL_law_209 : decode cL_law 209 = .ok (.iload 12, 2) := by decide +kernel
theorem dL_law_211 : decode cL_law 211 = .ok (.iload 18, 2) := by decide +kernel
theorem dL_law_213 : decode cL_law 213 = .ok (.ishr, 1) := by decide +kernel
theorem dL_law_214 : decode cL_law 214 = .ok (.iconst 1, 1) := by decide +kernel
theorem dL_law_215 : decode cL_law 215 = .ok (.iand, 1) := by decide +kernel
theorem dL_law_216 : decode cL_law 216 = .ok (.iconst 1, 1) := by decide +kernel
theorem dL_law_217 : decode cL_law 217 = .ok (.if_icmp .ne 7, 3) := by decide +kernel
theorem dL_law_220 : decode cL_law 220 = .ok (.iconst 1, 1) := by decide +kernel
theorem dL_law_221 : decode cL_law 221 = .ok (.goto 4, 3) := by decide +kernel
theorem dL_law_224 : decode cL_law 224 = .ok (.iconst 0, 1) := by decide +kernel
theorem dL_law_225 : decode cL_law 225 = .ok (.istore 19, 2) := by decide +kernel
theorem dL_law_227 : decode cL_law 227 = .ok (.aload_n 1, 1) := by decide +kernel
theorem dL_law_228 : decode cL_law 228 = .ok (.iload 18, 2) := by decide +kernel
theorem dL_law_230 : decode cL_law 230 = .ok (.iconst 4, 1) := by decide +kernel
theorem dL_law_231 : decode cL_law 231 = .ok (.invokestatic 106, 3) := by decide +kernel
theorem dL_law_234 : decode cL_law 234 = .ok (.istore 20, 2) := by decide +kernel
theorem dL_law_236 : decode cL_law 236 = .ok (.aload_n 1, 1) := by decide +kernel
theorem dL_law_237 : decode cL_law 237 = .ok (.iload 18, 2) := by decide +kernel
theorem dL_law_239 : decode cL_law 239 = .ok (.iconst 5, 1) := by decide +kernel
theorem dL_law_240 : decode cL_law 240 = .ok (.invokestatic 106, 3) := by decide +kernel
theorem dL_law_243 : decode cL_law 243 = .ok (.ifCond .ne 7, 3) := by decide +kernel
theorem dL_law_246 : decode cL_law 246 = .ok (.iconst 2, 1) := by decide +kernel
theorem dL_law_247 : decode cL_law 247 = .ok (.goto 11, 3) := by decide +kernel
theorem dL_law_250 : decode cL_law 250 = .ok (.aload_n 1, 1) := by decide +kernel
theorem dL_law_251 : decode cL_law 251 = .ok (.iload 18, 2) := by decide +kernel
theorem dL_law_253 : decode cL_law 253 = .ok (.bipush 6, 2) := by decide +kernel
theorem dL_law_255 : decode cL_law 255 = .ok (.invokestatic 106, 3) := by decide +kernel
theorem dL_law_258 : decode cL_law 258 = .ok (.istore 21, 2) := by decide +kernel
theorem dL_law_260 : decode cL_law 260 = .ok (.aload_n 1, 1) := by decide +kernel
theorem dL_law_261 : decode cL_law 261 = .ok (.iload 18, 2) := by decide +kernel
theorem dL_law_263 : decode cL_law 263 = .ok (.iconst 1, 1) := by decide +kernel
theorem dL_law_264 : decode cL_law 264 = .ok (.invokestatic 106, 3) := by decide +kernel
theorem dL_law_267 : decode cL_law 267 = .ok (.istore 22, 2) := by decide +kernel
theorem dL_law_269 : decode cL_law 269 = .ok (.aload_n 1, 1) := by decide +kernel
theorem dL_law_270 : decode cL_law 270 = .ok (.iload 18, 2) := by decide +kernel
theorem dL_law_272 : decode cL_law 272 = .ok (.invokevirtual 71, 3) := by decide +kernel
theorem dL_law_275 : decode cL_law 275 = .ok (.istore 23, 2) := by decide +kernel
theorem dL_law_277 : decode cL_law 277 = .ok (.aload_n 1, 1) := by decide +kernel
theorem dL_law_278 : decode cL_law 278 = .ok (.invokevirtual 73, 3) := by decide +kernel
theorem dL_law_281 : decode cL_law 281 = .ok (.istore 24, 2) := by decide +kernel
theorem dL_law_283 : decode cL_law 283 = .ok (.iload 17, 2) := by decide +kernel
theorem dL_law_285 : decode cL_law 285 = .ok (.iload 19, 2) := by decide +kernel
theorem dL_law_287 : decode cL_law 287 = .ok (.ifCond .ne 12, 3) := by decide +kernel
theorem dL_law_290 : decode cL_law 290 = .ok (.iload 21, 2) := by decide +kernel
theorem dL_law_292 : decode cL_law 292 = .ok (.ifCond .ne 7, 3) := by decide +kernel
theorem dL_law_295 : decode cL_law 295 = .ok (.iconst 1, 1) := by decide +kernel
theorem dL_law_296 : decode cL_law 296 = .ok (.goto 4, 3) := by decide +kernel
theorem dL_law_299 : decode cL_law 299 = .ok (.iconst 0, 1) := by decide +kernel
theorem dL_law_300 : decode cL_law 300 = .ok (.iadd, 1) := by decide +kernel
theorem dL_law_301 : decode cL_law 301 = .ok (.istore 17, 2) := by decide +kernel
theorem dL_law_303 : decode cL_law 303 = .ok (.iload 19, 2) := by decide +kernel
theorem dL_law_305 : decode cL_law 305 = .ok (.ifCond .eq 24, 3) := by decide +kernel
theorem dL_law_308 : decode cL_law 308 = .ok (.iload 23, 2) := by decide +kernel
theorem dL_law_310 : decode cL_law 310 = .ok (.bipush (-4), 2) := by decide +kernel
theorem dL_law_312 : decode cL_law 312 = .ok (.if_icmp .ne 158, 3) := by decide +kernel
theorem dL_law_315 : decode cL_law 315 = .ok (.aload_n 1, 1) := by decide +kernel
theorem dL_law_316 : decode cL_law 316 = .ok (.iload 18, 2) := by decide +kernel
theorem dL_law_318 : decode cL_law 318 = .ok (.bipush 8, 2) := by decide +kernel
theorem dL_law_320 : decode cL_law 320 = .ok (.invokestatic 106, 3) := by decide +kernel
theorem dL_law_323 : decode cL_law 323 = .ok (.ifCond .ge 149, 3) := by decide +kernel
theorem dL_law_326 : decode cL_law 326 = .ok (.goto 144, 3) := by decide +kernel
theorem dL_law_329 : decode cL_law 329 = .ok (.iload 23, 2) := by decide +kernel
theorem dL_law_331 : decode cL_law 331 = .ok (.iload 21, 2) := by decide +kernel
theorem dL_law_333 : decode cL_law 333 = .ok (.if_icmp .ne 137, 3) := by decide +kernel
theorem dL_law_336 : decode cL_law 336 = .ok (.iload 24, 2) := by decide +kernel
theorem dL_law_338 : decode cL_law 338 = .ok (.iload 22, 2) := by decide +kernel
theorem dL_law_340 : decode cL_law 340 = .ok (.iload 23, 2) := by decide +kernel
theorem dL_law_342 : decode cL_law 342 = .ok (.iconst 1, 1) := by decide +kernel
theorem dL_law_343 : decode cL_law 343 = .ok (.if_icmp .ne 7, 3) := by decide +kernel
theorem dL_law_346 : decode cL_law 346 = .ok (.iconst 1, 1) := by decide +kernel
theorem dL_law_347 : decode cL_law 347 = .ok (.goto 4, 3) := by decide +kernel
theorem dL_law_350 : decode cL_law 350 = .ok (.iconst 0, 1) := by decide +kernel
theorem dL_law_351 : decode cL_law 351 = .ok (.if_icmp .ne 7, 3) := by decide +kernel
theorem dL_law_354 : decode cL_law 354 = .ok (.iconst 1, 1) := by decide +kernel
theorem dL_law_355 : decode cL_law 355 = .ok (.goto 4, 3) := by decide +kernel
theorem dL_law_358 : decode cL_law 358 = .ok (.iconst 0, 1) := by decide +kernel
theorem dL_law_359 : decode cL_law 359 = .ok (.if_icmp .ne 111, 3) := by decide +kernel
theorem dL_law_362 : decode cL_law 362 = .ok (.aload_n 1, 1) := by decide +kernel
theorem dL_law_363 : decode cL_law 363 = .ok (.iload 18, 2) := by decide +kernel
theorem dL_law_365 : decode cL_law 365 = .ok (.bipush 8, 2) := by decide +kernel
theorem dL_law_367 : decode cL_law 367 = .ok (.invokestatic 106, 3) := by decide +kernel
theorem dL_law_370 : decode cL_law 370 = .ok (.iload 23, 2) := by decide +kernel
theorem dL_law_372 : decode cL_law 372 = .ok (.if_icmp .ne 98, 3) := by decide +kernel
theorem dL_law_375 : decode cL_law 375 = .ok (.aload_n 1, 1) := by decide +kernel
theorem dL_law_376 : decode cL_law 376 = .ok (.iconst 5, 1) := by decide +kernel
theorem dL_law_377 : decode cL_law 377 = .ok (.invokevirtual 101, 3) := by decide +kernel
theorem dL_law_380 : decode cL_law 380 = .ok (.iload 14, 2) := by decide +kernel
theorem dL_law_382 : decode cL_law 382 = .ok (.iload 24, 2) := by decide +kernel
theorem dL_law_384 : decode cL_law 384 = .ok (.iadd, 1) := by decide +kernel
theorem dL_law_385 : decode cL_law 385 = .ok (.if_icmp .ne 85, 3) := by decide +kernel
theorem dL_law_388 : decode cL_law 388 = .ok (.aload_n 1, 1) := by decide +kernel
theorem dL_law_389 : decode cL_law 389 = .ok (.iconst 4, 1) := by decide +kernel
theorem dL_law_390 : decode cL_law 390 = .ok (.invokevirtual 101, 3) := by decide +kernel
theorem dL_law_393 : decode cL_law 393 = .ok (.iload 13, 2) := by decide +kernel
theorem dL_law_395 : decode cL_law 395 = .ok (.iload 23, 2) := by decide +kernel
theorem dL_law_397 : decode cL_law 397 = .ok (.iconst 1, 1) := by decide +kernel
theorem dL_law_398 : decode cL_law 398 = .ok (.if_icmp .ne 7, 3) := by decide +kernel
theorem dL_law_401 : decode cL_law 401 = .ok (.iconst 1, 1) := by decide +kernel
theorem dL_law_402 : decode cL_law 402 = .ok (.goto 4, 3) := by decide +kernel
theorem dL_law_405 : decode cL_law 405 = .ok (.iconst 0, 1) := by decide +kernel
theorem dL_law_406 : decode cL_law 406 = .ok (.iadd, 1) := by decide +kernel
theorem dL_law_407 : decode cL_law 407 = .ok (.if_icmp .ne 63, 3) := by decide +kernel
theorem dL_law_410 : decode cL_law 410 = .ok (.aload_n 1, 1) := by decide +kernel
theorem dL_law_411 : decode cL_law 411 = .ok (.iconst 1, 1) := by decide +kernel
theorem dL_law_412 : decode cL_law 412 = .ok (.invokevirtual 101, 3) := by decide +kernel
theorem dL_law_415 : decode cL_law 415 = .ok (.iload 11, 2) := by decide +kernel
theorem dL_law_417 : decode cL_law 417 = .ok (.if_icmp .lt 53, 3) := by decide +kernel
theorem dL_law_420 : decode cL_law 420 = .ok (.iload 23, 2) := by decide +kernel
theorem dL_law_422 : decode cL_law 422 = .ok (.iconst 1, 1) := by decide +kernel
theorem dL_law_423 : decode cL_law 423 = .ok (.if_icmp .eq 13, 3) := by decide +kernel
theorem dL_law_426 : decode cL_law 426 = .ok (.aload_n 1, 1) := by decide +kernel
theorem dL_law_427 : decode cL_law 427 = .ok (.iconst 1, 1) := by decide +kernel
theorem dL_law_428 : decode cL_law 428 = .ok (.invokevirtual 101, 3) := by decide +kernel
theorem dL_law_431 : decode cL_law 431 = .ok (.iload 11, 2) := by decide +kernel
theorem dL_law_433 : decode cL_law 433 = .ok (.if_icmp .ne 37, 3) := by decide +kernel
theorem dL_law_436 : decode cL_law 436 = .ok (.aload_n 1, 1) := by decide +kernel
theorem dL_law_437 : decode cL_law 437 = .ok (.iload 18, 2) := by decide +kernel
theorem dL_law_439 : decode cL_law 439 = .ok (.invokevirtual 71, 3) := by decide +kernel
theorem dL_law_442 : decode cL_law 442 = .ok (.bipush (-4), 2) := by decide +kernel
theorem dL_law_444 : decode cL_law 444 = .ok (.if_icmp .ne 26, 3) := by decide +kernel
theorem dL_law_447 : decode cL_law 447 = .ok (.aload_n 1, 1) := by decide +kernel
theorem dL_law_448 : decode cL_law 448 = .ok (.iload 10, 2) := by decide +kernel
theorem dL_law_450 : decode cL_law 450 = .ok (.invokevirtual 110, 3) := by decide +kernel
theorem dL_law_453 : decode cL_law 453 = .ok (.iconst 1, 1) := by decide +kernel
theorem dL_law_454 : decode cL_law 454 = .ok (.if_icmp .ne 16, 3) := by decide +kernel
theorem dL_law_457 : decode cL_law 457 = .ok (.aload_n 1, 1) := by decide +kernel
theorem dL_law_458 : decode cL_law 458 = .ok (.iload 18, 2) := by decide +kernel
theorem dL_law_460 : decode cL_law 460 = .ok (.bipush 8, 2) := by decide +kernel
theorem dL_law_462 : decode cL_law 462 = .ok (.invokestatic 106, 3) := by decide +kernel
theorem dL_law_465 : decode cL_law 465 = .ok (.bipush (-9), 2) := by decide +kernel
theorem dL_law_467 : decode cL_law 467 = .ok (.if_icmp .eq 5, 3) := by decide +kernel
theorem dL_law_470 : decode cL_law 470 = .ok (.iconst 0, 1) := by decide +kernel
theorem dL_law_471 : decode cL_law 471 = .ok (.ireturn, 1) := by decide +kernel
theorem dL_law_472 : decode cL_law 472 = .ok (.iload 19, 2) := by decide +kernel
theorem dL_law_474 : decode cL_law 474 = .ok (.ifCond .ne 47, 3) := by decide +kernel
theorem dL_law_477 : decode cL_law 477 = .ok (.iload 15, 2) := by decide +kernel
theorem dL_law_479 : decode cL_law 479 = .ok (.iload 18, 2) := by decide +kernel
theorem dL_law_481 : decode cL_law 481 = .ok (.ishr, 1) := by decide +kernel
theorem dL_law_482 : decode cL_law 482 = .ok (.iconst 1, 1) := by decide +kernel
theorem dL_law_483 : decode cL_law 483 = .ok (.iand, 1) := by decide +kernel
theorem dL_law_484 : decode cL_law 484 = .ok (.iload 21, 2) := by decide +kernel
theorem dL_law_486 : decode cL_law 486 = .ok (.iconst 2, 1) := by decide +kernel
theorem dL_law_487 : decode cL_law 487 = .ok (.if_icmp .ne 7, 3) := by decide +kernel
theorem dL_law_490 : decode cL_law 490 = .ok (.iconst 0, 1) := by decide +kernel
theorem dL_law_491 : decode cL_law 491 = .ok (.goto 4, 3) := by decide +kernel
theorem dL_law_494 : decode cL_law 494 = .ok (.iconst 1, 1) := by decide +kernel
theorem dL_law_495 : decode cL_law 495 = .ok (.if_icmp .ne 24, 3) := by decide +kernel
theorem dL_law_498 : decode cL_law 498 = .ok (.iload 16, 2) := by decide +kernel
theorem dL_law_500 : decode cL_law 500 = .ok (.iload 18, 2) := by decide +kernel
theorem dL_law_502 : decode cL_law 502 = .ok (.ishr, 1) := by decide +kernel
theorem dL_law_503 : decode cL_law 503 = .ok (.iconst 1, 1) := by decide +kernel
theorem dL_law_504 : decode cL_law 504 = .ok (.iand, 1) := by decide +kernel
theorem dL_law_505 : decode cL_law 505 = .ok (.iload 21, 2) := by decide +kernel
theorem dL_law_507 : decode cL_law 507 = .ok (.iconst 1, 1) := by decide +kernel
theorem dL_law_508 : decode cL_law 508 = .ok (.if_icmp .ne 7, 3) := by decide +kernel
theorem dL_law_511 : decode cL_law 511 = .ok (.iconst 1, 1) := by decide +kernel
theorem dL_law_512 : decode cL_law 512 = .ok (.goto 4, 3) := by decide +kernel
theorem dL_law_515 : decode cL_law 515 = .ok (.iconst 0, 1) := by decide +kernel
theorem dL_law_516 : decode cL_law 516 = .ok (.if_icmp .eq 5, 3) := by decide +kernel
theorem dL_law_519 : decode cL_law 519 = .ok (.iconst 0, 1) := by decide +kernel
theorem dL_law_520 : decode cL_law 520 = .ok (.ireturn, 1) := by decide +kernel
theorem dL_law_521 : decode cL_law 521 = .ok (.aload_n 1, 1) := by decide +kernel
theorem dL_law_522 : decode cL_law 522 = .ok (.iload 18, 2) := by decide +kernel
theorem dL_law_524 : decode cL_law 524 = .ok (.iconst 0, 1) := by decide +kernel
theorem dL_law_525 : decode cL_law 525 = .ok (.invokevirtual 113, 3) := by decide +kernel
theorem dL_law_528 : decode cL_law 528 = .ok (.istore 25, 2) := by decide +kernel
theorem dL_law_530 : decode cL_law 530 = .ok (.aload_n 1, 1) := by decide +kernel
theorem dL_law_531 : decode cL_law 531 = .ok (.iload 18, 2) := by decide +kernel
theorem dL_law_533 : decode cL_law 533 = .ok (.iconst 1, 1) := by decide +kernel
theorem dL_law_534 : decode cL_law 534 = .ok (.invokevirtual 113, 3) := by decide +kernel
theorem dL_law_537 : decode cL_law 537 = .ok (.istore 26, 2) := by decide +kernel
theorem dL_law_539 : decode cL_law 539 = .ok (.aload_n 1, 1) := by decide +kernel
theorem dL_law_540 : decode cL_law 540 = .ok (.iload 18, 2) := by decide +kernel
theorem dL_law_542 : decode cL_law 542 = .ok (.iconst 2, 1) := by decide +kernel
theorem dL_law_543 : decode cL_law 543 = .ok (.invokevirtual 113, 3) := by decide +kernel
theorem dL_law_546 : decode cL_law 546 = .ok (.istore 27, 2) := by decide +kernel
theorem dL_law_548 : decode cL_law 548 = .ok (.iload 25, 2) := by decide +kernel
theorem dL_law_550 : decode cL_law 550 = .ok (.iload 26, 2) := by decide +kernel
theorem dL_law_552 : decode cL_law 552 = .ok (.iand, 1) := by decide +kernel
theorem dL_law_553 : decode cL_law 553 = .ok (.ifCond .ne 64, 3) := by decide +kernel
theorem dL_law_556 : decode cL_law 556 = .ok (.iload 25, 2) := by decide +kernel
theorem dL_law_558 : decode cL_law 558 = .ok (.iload 27, 2) := by decide +kernel
theorem dL_law_560 : decode cL_law 560 = .ok (.iand, 1) := by decide +kernel
theorem dL_law_561 : decode cL_law 561 = .ok (.ifCond .ne 56, 3) := by decide +kernel
theorem dL_law_564 : decode cL_law 564 = .ok (.iload 26, 2) := by decide +kernel
theorem dL_law_566 : decode cL_law 566 = .ok (.iload 27, 2) := by decide +kernel
theorem dL_law_568 : decode cL_law 568 = .ok (.iand, 1) := by decide +kernel
theorem dL_law_569 : decode cL_law 569 = .ok (.ifCond .ne 48, 3) := by decide +kernel
theorem dL_law_572 : decode cL_law 572 = .ok (.iload 25, 2) := by decide +kernel
theorem dL_law_574 : decode cL_law 574 = .ok (.iload 26, 2) := by decide +kernel
theorem dL_law_576 : decode cL_law 576 = .ok (.ior, 1) := by decide +kernel
theorem dL_law_577 : decode cL_law 577 = .ok (.iload 27, 2) := by decide +kernel
theorem dL_law_579 : decode cL_law 579 = .ok (.ior, 1) := by decide +kernel
theorem dL_law_580 : decode cL_law 580 = .ok (.ldc 8, 2) := by decide +kernel
theorem dL_law_582 : decode cL_law 582 = .ok (.if_icmp .ne 35, 3) := by decide +kernel
theorem dL_law_585 : decode cL_law 585 = .ok (.iload 21, 2) := by decide +kernel
theorem dL_law_587 : decode cL_law 587 = .ok (.ifCond .ne 8, 3) := by decide +kernel
theorem dL_law_590 : decode cL_law 590 = .ok (.iload 25, 2) := by decide +kernel
theorem dL_law_592 : decode cL_law 592 = .ok (.goto 16, 3) := by decide +kernel
theorem dL_law_595 : decode cL_law 595 = .ok (.iload 21, 2) := by decide +kernel
theorem dL_law_597 : decode cL_law 597 = .ok (.iconst 1, 1) := by decide +kernel
theorem dL_law_598 : decode cL_law 598 = .ok (.if_icmp .ne 8, 3) := by decide +kernel
theorem dL_law_601 : decode cL_law 601 = .ok (.iload 26, 2) := by decide +kernel
theorem dL_law_603 : decode cL_law 603 = .ok (.goto 5, 3) := by decide +kernel
theorem dL_law_606 : decode cL_law 606 = .ok (.iload 27, 2) := by decide +kernel
theorem dL_law_608 : decode cL_law 608 = .ok (.iload 11, 2) := by decide +kernel
theorem dL_law_610 : decode cL_law 610 = .ok (.ishr, 1) := by decide +kernel
theorem dL_law_611 : decode cL_law 611 = .ok (.iconst 1, 1) := by decide +kernel
theorem dL_law_612 : decode cL_law 612 = .ok (.iand, 1) := by decide +kernel
theorem dL_law_613 : decode cL_law 613 = .ok (.iconst 1, 1) := by decide +kernel
theorem dL_law_614 : decode cL_law 614 = .ok (.if_icmp .eq 5, 3) := by decide +kernel
theorem dL_law_617 : decode cL_law 617 = .ok (.iconst 0, 1) := by decide +kernel
theorem dL_law_618 : decode cL_law 618 = .ok (.ireturn, 1) := by decide +kernel
theorem dL_law_619 : decode cL_law 619 = .ok (.aload_n 1, 1) := by decide +kernel
theorem dL_law_620 : decode cL_law 620 = .ok (.iconst 2, 1) := by decide +kernel
theorem dL_law_621 : decode cL_law 621 = .ok (.invokevirtual 80, 3) := by decide +kernel
theorem dL_law_624 : decode cL_law 624 = .ok (.iload 11, 2) := by decide +kernel
theorem dL_law_626 : decode cL_law 626 = .ok (.if_icmp .lt 30, 3) := by decide +kernel
theorem dL_law_629 : decode cL_law 629 = .ok (.aload_n 1, 1) := by decide +kernel
theorem dL_law_630 : decode cL_law 630 = .ok (.iload 18, 2) := by decide +kernel
theorem dL_law_632 : decode cL_law 632 = .ok (.iconst 4, 1) := by decide +kernel
theorem dL_law_633 : decode cL_law 633 = .ok (.invokestatic 106, 3) := by decide +kernel
theorem dL_law_636 : decode cL_law 636 = .ok (.iload 20, 2) := by decide +kernel
theorem dL_law_638 : decode cL_law 638 = .ok (.if_icmp .lt 18, 3) := by decide +kernel
theorem dL_law_641 : decode cL_law 641 = .ok (.aload_n 1, 1) := by decide +kernel
theorem dL_law_642 : decode cL_law 642 = .ok (.iload 10, 2) := by decide +kernel
theorem dL_law_644 : decode cL_law 644 = .ok (.invokevirtual 110, 3) := by decide +kernel
theorem dL_law_647 : decode cL_law 647 = .ok (.iconst 1, 1) := by decide +kernel
theorem dL_law_648 : decode cL_law 648 = .ok (.if_icmp .ne 8, 3) := by decide +kernel
theorem dL_law_651 : decode cL_law 651 = .ok (.iload 20, 2) := by decide +kernel
theorem dL_law_653 : decode cL_law 653 = .ok (.ifCond .ge 5, 3) := by decide +kernel
theorem dL_law_656 : decode cL_law 656 = .ok (.iconst 0, 1) := by decide +kernel
theorem dL_law_657 : decode cL_law 657 = .ok (.ireturn, 1) := by decide +kernel
theorem dL_law_658 : decode cL_law 658 = .ok (.iinc 18 1, 3) := by decide +kernel
theorem dL_law_661 : decode cL_law 661 = .ok (.goto (-459), 3) := by decide +kernel
theorem dL_law_664 : decode cL_law 664 = .ok (.aload_n 1, 1) := by decide +kernel
theorem dL_law_665 : decode cL_law 665 = .ok (.invokevirtual 116, 3) := by decide +kernel
theorem dL_law_668 : decode cL_law 668 = .ok (.istore 18, 2) := by decide +kernel
theorem dL_law_670 : decode cL_law 670 = .ok (.aload_n 1, 1) := by decide +kernel
theorem dL_law_671 : decode cL_law 671 = .ok (.invokevirtual 73, 3) := by decide +kernel
theorem dL_law_674 : decode cL_law 674 = .ok (.istore 19, 2) := by decide +kernel
theorem dL_law_676 : decode cL_law 676 = .ok (.iload 18, 2) := by decide +kernel
theorem dL_law_678 : decode cL_law 678 = .ok (.ifCond .lt 30, 3) := by decide +kernel
theorem dL_law_681 : decode cL_law 681 = .ok (.iload 18, 2) := by decide +kernel
theorem dL_law_683 : decode cL_law 683 = .ok (.bipush 30, 2) := by decide +kernel
theorem dL_law_685 : decode cL_law 685 = .ok (.if_icmp .gt 23, 3) := by decide +kernel
theorem dL_law_688 : decode cL_law 688 = .ok (.aload_n 1, 1) := by decide +kernel
theorem dL_law_689 : decode cL_law 689 = .ok (.iload 18, 2) := by decide +kernel
theorem dL_law_691 : decode cL_law 691 = .ok (.invokevirtual 119, 3) := by decide +kernel
theorem dL_law_694 : decode cL_law 694 = .ok (.iload 19, 2) := by decide +kernel
theorem dL_law_696 : decode cL_law 696 = .ok (.if_icmp .ne 12, 3) := by decide +kernel
theorem dL_law_699 : decode cL_law 699 = .ok (.aload_n 1, 1) := by decide +kernel
theorem dL_law_700 : decode cL_law 700 = .ok (.invokevirtual 73, 3) := by decide +kernel
theorem dL_law_703 : decode cL_law 703 = .ok (.iload 19, 2) := by decide +kernel
theorem dL_law_705 : decode cL_law 705 = .ok (.if_icmp .le 5, 3) := by decide +kernel
theorem dL_law_708 : decode cL_law 708 = .ok (.iconst 0, 1) := by decide +kernel
theorem dL_law_709 : decode cL_law 709 = .ok (.ireturn, 1) := by decide +kernel
theorem dL_law_710 : decode cL_law 710 = .ok (.iconst 0, 1) := by decide +kernel
theorem dL_law_711 : decode cL_law 711 = .ok (.istore 20, 2) := by decide +kernel
theorem dL_law_713 : decode cL_law 713 = .ok (.iload 20, 2) := by decide +kernel
theorem dL_law_715 : decode cL_law 715 = .ok (.bipush 31, 2) := by decide +kernel
theorem dL_law_717 : decode cL_law 717 = .ok (.if_icmp .ge 80, 3) := by decide +kernel
theorem dL_law_720 : decode cL_law 720 = .ok (.aload_n 1, 1) := by decide +kernel
theorem dL_law_721 : decode cL_law 721 = .ok (.iload 20, 2) := by decide +kernel
theorem dL_law_723 : decode cL_law 723 = .ok (.invokevirtual 119, 3) := by decide +kernel
theorem dL_law_726 : decode cL_law 726 = .ok (.istore 21, 2) := by decide +kernel
theorem dL_law_728 : decode cL_law 728 = .ok (.iload 21, 2) := by decide +kernel
theorem dL_law_730 : decode cL_law 730 = .ok (.iload 19, 2) := by decide +kernel
theorem dL_law_732 : decode cL_law 732 = .ok (.if_icmp .lt 57, 3) := by decide +kernel
theorem dL_law_735 : decode cL_law 735 = .ok (.iload 21, 2) := by decide +kernel
theorem dL_law_737 : decode cL_law 737 = .ok (.iload 19, 2) := by decide +kernel
theorem dL_law_739 : decode cL_law 739 = .ok (.if_icmp .ne 10, 3) := by decide +kernel
theorem dL_law_742 : decode cL_law 742 = .ok (.iload 20, 2) := by decide +kernel
theorem dL_law_744 : decode cL_law 744 = .ok (.iload 18, 2) := by decide +kernel
theorem dL_law_746 : decode cL_law 746 = .ok (.if_icmp .lt 43, 3) := by decide +kernel
theorem dL_law_749 : decode cL_law 749 = .ok (.aload_n 1, 1) := by decide +kernel
theorem dL_law_750 : decode cL_law 750 = .ok (.invokevirtual 73, 3) := by decide +kernel
theorem dL_law_753 : decode cL_law 753 = .ok (.iload 21, 2) := by decide +kernel
theorem dL_law_755 : decode cL_law 755 = .ok (.if_icmp .gt 34, 3) := by decide +kernel
theorem dL_law_758 : decode cL_law 758 = .ok (.aload_n 1, 1) := by decide +kernel
theorem dL_law_759 : decode cL_law 759 = .ok (.iload 20, 2) := by decide +kernel
theorem dL_law_761 : decode cL_law 761 = .ok (.invokevirtual 121, 3) := by decide +kernel
theorem dL_law_764 : decode cL_law 764 = .ok (.iconst 1, 1) := by decide +kernel
theorem dL_law_765 : decode cL_law 765 = .ok (.if_icmp .ne 24, 3) := by decide +kernel
theorem dL_law_768 : decode cL_law 768 = .ok (.aload_n 1, 1) := by decide +kernel
theorem dL_law_769 : decode cL_law 769 = .ok (.invokevirtual 123, 3) := by decide +kernel
theorem dL_law_772 : decode cL_law 772 = .ok (.lconst 0, 1) := by decide +kernel
theorem dL_law_773 : decode cL_law 773 = .ok (.lcmp, 1) := by decide +kernel
theorem dL_law_774 : decode cL_law 774 = .ok (.ifCond .lt 15, 3) := by decide +kernel
theorem dL_law_777 : decode cL_law 777 = .ok (.aload_n 1, 1) := by decide +kernel
theorem dL_law_778 : decode cL_law 778 = .ok (.invokevirtual 123, 3) := by decide +kernel
theorem dL_law_781 : decode cL_law 781 = .ok (.aload_n 1, 1) := by decide +kernel
theorem dL_law_782 : decode cL_law 782 = .ok (.invokevirtual 126, 3) := by decide +kernel
theorem dL_law_785 : decode cL_law 785 = .ok (.lcmp, 1) := by decide +kernel
theorem dL_law_786 : decode cL_law 786 = .ok (.ifCond .le 5, 3) := by decide +kernel
theorem dL_law_789 : decode cL_law 789 = .ok (.iconst 0, 1) := by decide +kernel
theorem dL_law_790 : decode cL_law 790 = .ok (.ireturn, 1) := by decide +kernel
theorem dL_law_791 : decode cL_law 791 = .ok (.iinc 20 1, 3) := by decide +kernel
theorem dL_law_794 : decode cL_law 794 = .ok (.goto (-81), 3) := by decide +kernel
theorem dL_law_797 : decode cL_law 797 = .ok (.aload_n 1, 1) := by decide +kernel
theorem dL_law_798 : decode cL_law 798 = .ok (.iconst 1, 1) := by decide +kernel
theorem dL_law_799 : decode cL_law 799 = .ok (.invokevirtual 129, 3) := by decide +kernel
theorem dL_law_802 : decode cL_law 802 = .ok (.istore 20, 2) := by decide +kernel
theorem dL_law_804 : decode cL_law 804 = .ok (.iload 5, 2) := by decide +kernel
theorem dL_law_806 : decode cL_law 806 = .ok (.iload 12, 2) := by decide +kernel
theorem dL_law_808 : decode cL_law 808 = .ok (.invokestatic 132, 3) := by decide +kernel
theorem dL_law_811 : decode cL_law 811 = .ok (.isub, 1) := by decide +kernel
theorem dL_law_812 : decode cL_law 812 = .ok (.istore 21, 2) := by decide +kernel
theorem dL_law_814 : decode cL_law 814 = .ok (.iload 20, 2) := by decide +kernel
theorem dL_law_816 : decode cL_law 816 = .ok (.ifCond .lt 32, 3) := by decide +kernel
theorem dL_law_819 : decode cL_law 819 = .ok (.iload 20, 2) := by decide +kernel
theorem dL_law_821 : decode cL_law 821 = .ok (.iload 21, 2) := by decide +kernel
theorem dL_law_823 : decode cL_law 823 = .ok (.if_icmp .gt 25, 3) := by decide +kernel
theorem dL_law_826 : decode cL_law 826 = .ok (.aload_n 1, 1) := by decide +kernel
theorem dL_law_827 : decode cL_law 827 = .ok (.iconst 1, 1) := by decide +kernel
theorem dL_law_828 : decode cL_law 828 = .ok (.iload 21, 2) := by decide +kernel
theorem dL_law_830 : decode cL_law 830 = .ok (.invokevirtual 135, 3) := by decide +kernel
theorem dL_law_833 : decode cL_law 833 = .ok (.bipush (-3), 2) := by decide +kernel
theorem dL_law_835 : decode cL_law 835 = .ok (.if_icmp .ne 13, 3) := by decide +kernel
theorem dL_law_838 : decode cL_law 838 = .ok (.aload_n 1, 1) := by decide +kernel
theorem dL_law_839 : decode cL_law 839 = .ok (.iconst 1, 1) := by decide +kernel
theorem dL_law_840 : decode cL_law 840 = .ok (.invokevirtual 138, 3) := by decide +kernel
theorem dL_law_843 : decode cL_law 843 = .ok (.iload 20, 2) := by decide +kernel
theorem dL_law_845 : decode cL_law 845 = .ok (.if_icmp .eq 5, 3) := by decide +kernel
theorem dL_law_848 : decode cL_law 848 = .ok (.iconst 0, 1) := by decide +kernel
theorem dL_law_849 : decode cL_law 849 = .ok (.ireturn, 1) := by decide +kernel
theorem dL_law_850 : decode cL_law 850 = .ok (.aload_n 1, 1) := by decide +kernel
theorem dL_law_851 : decode cL_law 851 = .ok (.invokevirtual 73, 3) := by decide +kernel
theorem dL_law_854 : decode cL_law 854 = .ok (.istore 22, 2) := by decide +kernel
theorem dL_law_856 : decode cL_law 856 = .ok (.iconst 0, 1) := by decide +kernel
theorem dL_law_857 : decode cL_law 857 = .ok (.istore 23, 2) := by decide +kernel
theorem dL_law_859 : decode cL_law 859 = .ok (.iload 23, 2) := by decide +kernel
theorem dL_law_861 : decode cL_law 861 = .ok (.iload 21, 2) := by decide +kernel
theorem dL_law_863 : decode cL_law 863 = .ok (.if_icmp .ge 47, 3) := by decide +kernel
theorem dL_law_866 : decode cL_law 866 = .ok (.aload_n 1, 1) := by decide +kernel
theorem dL_law_867 : decode cL_law 867 = .ok (.iconst 1, 1) := by decide +kernel
theorem dL_law_868 : decode cL_law 868 = .ok (.iload 23, 2) := by decide +kernel
theorem dL_law_870 : decode cL_law 870 = .ok (.invokevirtual 135, 3) := by decide +kernel
theorem dL_law_873 : decode cL_law 873 = .ok (.iconst 1, 1) := by decide +kernel
theorem dL_law_874 : decode cL_law 874 = .ok (.if_icmp .ne 10, 3) := by decide +kernel
theorem dL_law_877 : decode cL_law 877 = .ok (.aload_n 1, 1) := by decide +kernel
theorem dL_law_878 : decode cL_law 878 = .ok (.invokevirtual 73, 3) := by decide +kernel
theorem dL_law_881 : decode cL_law 881 = .ok (.goto 5, 3) := by decide +kernel
theorem dL_law_884 : decode cL_law 884 = .ok (.bipush (-99), 2) := by decide +kernel
theorem dL_law_886 : decode cL_law 886 = .ok (.istore 24, 2) := by decide +kernel
theorem dL_law_888 : decode cL_law 888 = .ok (.iload 24, 2) := by decide +kernel
theorem dL_law_890 : decode cL_law 890 = .ok (.ifCond .lt 12, 3) := by decide +kernel
theorem dL_law_893 : decode cL_law 893 = .ok (.aload_n 1, 1) := by decide +kernel
theorem dL_law_894 : decode cL_law 894 = .ok (.iload 24, 2) := by decide +kernel
theorem dL_law_896 : decode cL_law 896 = .ok (.invokevirtual 71, 3) := by decide +kernel
theorem dL_law_899 : decode cL_law 899 = .ok (.ifCond .ge 5, 3) := by decide +kernel
theorem dL_law_902 : decode cL_law 902 = .ok (.iconst 0, 1) := by decide +kernel
theorem dL_law_903 : decode cL_law 903 = .ok (.ireturn, 1) := by decide +kernel
theorem dL_law_904 : decode cL_law 904 = .ok (.iinc 23 1, 3) := by decide +kernel
theorem dL_law_907 : decode cL_law 907 = .ok (.goto (-48), 3) := by decide +kernel
theorem dL_law_910 : decode cL_law 910 = .ok (.aload_n 1, 1) := by decide +kernel
theorem dL_law_911 : decode cL_law 911 = .ok (.iconst 5, 1) := by decide +kernel
theorem dL_law_912 : decode cL_law 912 = .ok (.invokevirtual 101, 3) := by decide +kernel
theorem dL_law_915 : decode cL_law 915 = .ok (.iload 14, 2) := by decide +kernel
theorem dL_law_917 : decode cL_law 917 = .ok (.iload 20, 2) := by decide +kernel
theorem dL_law_919 : decode cL_law 919 = .ok (.iadd, 1) := by decide +kernel
theorem dL_law_920 : decode cL_law 920 = .ok (.if_icmp .ne 29, 3) := by decide +kernel
theorem dL_law_923 : decode cL_law 923 = .ok (.aload_n 1, 1) := by decide +kernel
theorem dL_law_924 : decode cL_law 924 = .ok (.iconst 1, 1) := by decide +kernel
theorem dL_law_925 : decode cL_law 925 = .ok (.invokevirtual 101, 3) := by decide +kernel
theorem dL_law_928 : decode cL_law 928 = .ok (.iload 22, 2) := by decide +kernel
theorem dL_law_930 : decode cL_law 930 = .ok (.if_icmp .ne 19, 3) := by decide +kernel
theorem dL_law_933 : decode cL_law 933 = .ok (.iload 21, 2) := by decide +kernel
theorem dL_law_935 : decode cL_law 935 = .ok (.ifCond .le 16, 3) := by decide +kernel
theorem dL_law_938 : decode cL_law 938 = .ok (.aload_n 1, 1) := by decide +kernel
theorem dL_law_939 : decode cL_law 939 = .ok (.iload 10, 2) := by decide +kernel
theorem dL_law_941 : decode cL_law 941 = .ok (.invokevirtual 110, 3) := by decide +kernel
theorem dL_law_944 : decode cL_law 944 = .ok (.iload 21, 2) := by decide +kernel
theorem dL_law_946 : decode cL_law 946 = .ok (.if_icmp .eq 5, 3) := by decide +kernel
theorem dL_law_949 : decode cL_law 949 = .ok (.iconst 0, 1) := by decide +kernel
theorem dL_law_950 : decode cL_law 950 = .ok (.ireturn, 1) := by decide +kernel
theorem dL_law_951 : decode cL_law 951 = .ok (.aload_n 1, 1) := by decide +kernel
theorem dL_law_952 : decode cL_law 952 = .ok (.iconst 2, 1) := by decide +kernel
theorem dL_law_953 : decode cL_law 953 = .ok (.iload 21, 2) := by decide +kernel
theorem dL_law_955 : decode cL_law 955 = .ok (.invokevirtual 141, 3) := by decide +kernel
theorem dL_law_958 : decode cL_law 958 = .ok (.iload 21, 2) := by decide +kernel
theorem dL_law_960 : decode cL_law 960 = .ok (.if_icmp .eq 5, 3) := by decide +kernel
theorem dL_law_963 : decode cL_law 963 = .ok (.iconst 0, 1) := by decide +kernel
theorem dL_law_964 : decode cL_law 964 = .ok (.ireturn, 1) := by decide +kernel
theorem dL_law_965 : decode cL_law 965 = .ok (.iconst 0, 1) := by decide +kernel
theorem dL_law_966 : decode cL_law 966 = .ok (.istore 23, 2) := by decide +kernel
theorem dL_law_968 : decode cL_law 968 = .ok (.iconst 0, 1) := by decide +kernel
theorem dL_law_969 : decode cL_law 969 = .ok (.istore 24, 2) := by decide +kernel
theorem dL_law_971 : decode cL_law 971 = .ok (.iload 24, 2) := by decide +kernel
theorem dL_law_973 : decode cL_law 973 = .ok (.iload 5, 2) := by decide +kernel
theorem dL_law_975 : decode cL_law 975 = .ok (.if_icmp .ge 37, 3) := by decide +kernel
theorem dL_law_978 : decode cL_law 978 = .ok (.iload 12, 2) := by decide +kernel
theorem dL_law_980 : decode cL_law 980 = .ok (.iload 24, 2) := by decide +kernel
theorem dL_law_982 : decode cL_law 982 = .ok (.ishr, 1) := by decide +kernel
theorem dL_law_983 : decode cL_law 983 = .ok (.iconst 1, 1) := by decide +kernel
theorem dL_law_984 : decode cL_law 984 = .ok (.iand, 1) := by decide +kernel
theorem dL_law_985 : decode cL_law 985 = .ok (.ifCond .ne 21, 3) := by decide +kernel
theorem dL_law_988 : decode cL_law 988 = .ok (.aload_n 1, 1) := by decide +kernel
theorem dL_law_989 : decode cL_law 989 = .ok (.iconst 2, 1) := by decide +kernel
theorem dL_law_990 : decode cL_law 990 = .ok (.iload 23, 2) := by decide +kernel
theorem dL_law_992 : decode cL_law 992 = .ok (.iload 24, 2) := by decide +kernel
theorem dL_law_994 : decode cL_law 994 = .ok (.invokevirtual 144, 3) := by decide +kernel
theorem dL_law_997 : decode cL_law 997 = .ok (.iconst 1, 1) := by decide +kernel
theorem dL_law_998 : decode cL_law 998 = .ok (.if_icmp .eq 5, 3) := by decide +kernel
theorem dL_law_1001 : decode cL_law 1001 = .ok (.iconst 0, 1) := by decide +kernel
theorem dL_law_1002 : decode cL_law 1002 = .ok (.ireturn, 1) := by decide +kernel
theorem dL_law_1003 : decode cL_law 1003 = .ok (.iinc 23 1, 3) := by decide +kernel
theorem dL_law_1006 : decode cL_law 1006 = .ok (.iinc 24 1, 3) := by decide +kernel
theorem dL_law_1009 : decode cL_law 1009 = .ok (.goto (-38), 3) := by decide +kernel
theorem dL_law_1012 : decode cL_law 1012 = .ok (.aload_n 1, 1) := by decide +kernel
theorem dL_law_1013 : decode cL_law 1013 = .ok (.iconst 2, 1) := by decide +kernel
theorem dL_law_1014 : decode cL_law 1014 = .ok (.invokevirtual 138, 3) := by decide +kernel
theorem dL_law_1017 : decode cL_law 1017 = .ok (.iload 20, 2) := by decide +kernel
theorem dL_law_1019 : decode cL_law 1019 = .ok (.if_icmp .ge 5, 3) := by decide +kernel
theorem dL_law_1022 : decode cL_law 1022 = .ok (.iconst 0, 1) := by decide +kernel
theorem dL_law_1023 : decode cL_law 1023 = .ok (.ireturn, 1) := by decide +kernel
theorem dL_law_1024 : decode cL_law 1024 = .ok (.aload_n 1, 1) := by decide +kernel
theorem dL_law_1025 : decode cL_law 1025 = .ok (.invokevirtual 147, 3) := by decide +kernel
theorem dL_law_1028 : decode cL_law 1028 = .ok (.istore 24, 2) := by decide +kernel
theorem dL_law_1030 : decode cL_law 1030 = .ok (.aload_n 1, 1) := by decide +kernel
theorem dL_law_1031 : decode cL_law 1031 = .ok (.invokevirtual 73, 3) := by decide +kernel
theorem dL_law_1034 : decode cL_law 1034 = .ok (.istore 25, 2) := by decide +kernel
theorem dL_law_1036 : decode cL_law 1036 = .ok (.iload 24, 2) := by decide +kernel
theorem dL_law_1038 : decode cL_law 1038 = .ok (.bipush (-9), 2) := by decide +kernel
theorem dL_law_1040 : decode cL_law 1040 = .ok (.if_icmp .lt 57, 3) := by decide +kernel
theorem dL_law_1043 : decode cL_law 1043 = .ok (.iload 24, 2) := by decide +kernel
theorem dL_law_1045 : decode cL_law 1045 = .ok (.bipush (-9), 2) := by decide +kernel
theorem dL_law_1047 : decode cL_law 1047 = .ok (.if_icmp .le 8, 3) := by decide +kernel
theorem dL_law_1050 : decode cL_law 1050 = .ok (.iload 24, 2) := by decide +kernel
theorem dL_law_1052 : decode cL_law 1052 = .ok (.ifCond .lt 45, 3) := by decide +kernel
theorem dL_law_1055 : decode cL_law 1055 = .ok (.iload 24, 2) := by decide +kernel
theorem dL_law_1057 : decode cL_law 1057 = .ok (.bipush 18, 2) := by decide +kernel
theorem dL_law_1059 : decode cL_law 1059 = .ok (.if_icmp .gt 38, 3) := by decide +kernel
theorem dL_law_1062 : decode cL_law 1062 = .ok (.iload 24, 2) := by decide +kernel
theorem dL_law_1064 : decode cL_law 1064 = .ok (.ifCond .lt 35, 3) := by decide +kernel
theorem dL_law_1067 : decode cL_law 1067 = .ok (.iload 25, 2) := by decide +kernel
theorem dL_law_1069 : decode cL_law 1069 = .ok (.iload 24, 2) := by decide +kernel
theorem dL_law_1071 : decode cL_law 1071 = .ok (.if_icmp .gt 26, 3) := by decide +kernel
theorem dL_law_1074 : decode cL_law 1074 = .ok (.iload 25, 2) := by decide +kernel
theorem dL_law_1076 : decode cL_law 1076 = .ok (.ifCond .ne 7, 3) := by decide +kernel
theorem dL_law_1079 : decode cL_law 1079 = .ok (.iconst 1, 1) := by decide +kernel
theorem dL_law_1080 : decode cL_law 1080 = .ok (.goto 4, 3) := by decide +kernel
theorem dL_law_1083 : decode cL_law 1083 = .ok (.iconst 0, 1) := by decide +kernel
theorem dL_law_1084 : decode cL_law 1084 = .ok (.iload 24, 2) := by decide +kernel
theorem dL_law_1086 : decode cL_law 1086 = .ok (.ifCond .ne 7, 3) := by decide +kernel
theorem dL_law_1089 : decode cL_law 1089 = .ok (.iconst 1, 1) := by decide +kernel
theorem dL_law_1090 : decode cL_law 1090 = .ok (.goto 4, 3) := by decide +kernel
theorem dL_law_1093 : decode cL_law 1093 = .ok (.iconst 0, 1) := by decide +kernel
theorem dL_law_1094 : decode cL_law 1094 = .ok (.if_icmp .eq 5, 3) := by decide +kernel
theorem dL_law_1097 : decode cL_law 1097 = .ok (.iconst 0, 1) := by decide +kernel
theorem dL_law_1098 : decode cL_law 1098 = .ok (.ireturn, 1) := by decide +kernel
theorem dL_law_1099 : decode cL_law 1099 = .ok (.iconst 0, 1) := by decide +kernel
theorem dL_law_1100 : decode cL_law 1100 = .ok (.istore 26, 2) := by decide +kernel
theorem dL_law_1102 : decode cL_law 1102 = .ok (.iconst 0, 1) := by decide +kernel
theorem dL_law_1103 : decode cL_law 1103 = .ok (.istore 27, 2) := by decide +kernel
theorem dL_law_1105 : decode cL_law 1105 = .ok (.iconst 0, 1) := by decide +kernel
theorem dL_law_1106 : decode cL_law 1106 = .ok (.istore 28, 2) := by decide +kernel
theorem dL_law_1108 : decode cL_law 1108 = .ok (.iload 28, 2) := by decide +kernel
theorem dL_law_1110 : decode cL_law 1110 = .ok (.iload 5, 2) := by decide +kernel
theorem dL_law_1112 : decode cL_law 1112 = .ok (.if_icmp .ge 96, 3) := by decide +kernel
theorem dL_law_1115 : decode cL_law 1115 = .ok (.iload 24, 2) := by decide +kernel
theorem dL_law_1117 : decode cL_law 1117 = .ok (.ifCond .lt 91, 3) := by decide +kernel
theorem dL_law_1120 : decode cL_law 1120 = .ok (.aload 4, 2) := by decide +kernel
theorem dL_law_1122 : decode cL_law 1122 = .ok (.iload 28, 2) := by decide +kernel
theorem dL_law_1124 : decode cL_law 1124 = .ok (.iconst 0, 1) := by decide +kernel
theorem dL_law_1125 : decode cL_law 1125 = .ok (.iastore, 1) := by decide +kernel
theorem dL_law_1126 : decode cL_law 1126 = .ok (.iload 15, 2) := by decide +kernel
theorem dL_law_1128 : decode cL_law 1128 = .ok (.iload 28, 2) := by decide +kernel
theorem dL_law_1130 : decode cL_law 1130 = .ok (.ishr, 1) := by decide +kernel
theorem dL_law_1131 : decode cL_law 1131 = .ok (.iconst 1, 1) := by decide +kernel
theorem dL_law_1132 : decode cL_law 1132 = .ok (.iand, 1) := by decide +kernel
theorem dL_law_1133 : decode cL_law 1133 = .ok (.iconst 1, 1) := by decide +kernel
theorem dL_law_1134 : decode cL_law 1134 = .ok (.if_icmp .ne 50, 3) := by decide +kernel
theorem dL_law_1137 : decode cL_law 1137 = .ok (.aload_n 1, 1) := by decide +kernel
theorem dL_law_1138 : decode cL_law 1138 = .ok (.iload 28, 2) := by decide +kernel
theorem dL_law_1140 : decode cL_law 1140 = .ok (.iconst 1, 1) := by decide +kernel
theorem dL_law_1141 : decode cL_law 1141 = .ok (.invokestatic 106, 3) := by decide +kernel
theorem dL_law_1144 : decode cL_law 1144 = .ok (.ifCond .ne 40, 3) := by decide +kernel
theorem dL_law_1147 : decode cL_law 1147 = .ok (.aload_n 1, 1) := by decide +kernel
theorem dL_law_1148 : decode cL_law 1148 = .ok (.iload 28, 2) := by decide +kernel
theorem dL_law_1150 : decode cL_law 1150 = .ok (.bipush 6, 2) := by decide +kernel
theorem dL_law_1152 : decode cL_law 1152 = .ok (.invokestatic 106, 3) := by decide +kernel
theorem dL_law_1155 : decode cL_law 1155 = .ok (.ifCond .ne 29, 3) := by decide +kernel
theorem dL_law_1158 : decode cL_law 1158 = .ok (.aload_n 1, 1) := by decide +kernel
theorem dL_law_1159 : decode cL_law 1159 = .ok (.iload 28, 2) := by decide +kernel
theorem dL_law_1161 : decode cL_law 1161 = .ok (.invokevirtual 77, 3) := by decide +kernel
theorem dL_law_1164 : decode cL_law 1164 = .ok (.ifCond .ge 5, 3) := by decide +kernel
theorem dL_law_1167 : decode cL_law 1167 = .ok (.iconst 0, 1) := by decide +kernel
theorem dL_law_1168 : decode cL_law 1168 = .ok (.ireturn, 1) := by decide +kernel
theorem dL_law_1169 : decode cL_law 1169 = .ok (.aload 4, 2) := by decide +kernel
theorem dL_law_1171 : decode cL_law 1171 = .ok (.iload 28, 2) := by decide +kernel
theorem dL_law_1173 : decode cL_law 1173 = .ok (.dup2, 1) := by decide +kernel
theorem dL_law_1174 : decode cL_law 1174 = .ok (.iaload, 1) := by decide +kernel
theorem dL_law_1175 : decode cL_law 1175 = .ok (.iconst 1, 1) := by decide +kernel
theorem dL_law_1176 : decode cL_law 1176 = .ok (.iadd, 1) := by decide +kernel
theorem dL_law_1177 : decode cL_law 1177 = .ok (.iastore, 1) := by decide +kernel
theorem dL_law_1178 : decode cL_law 1178 = .ok (.iinc 26 1, 3) := by decide +kernel
theorem dL_law_1181 : decode cL_law 1181 = .ok (.goto (-55), 3) := by decide +kernel
theorem dL_law_1184 : decode cL_law 1184 = .ok (.iload 27, 2) := by decide +kernel
theorem dL_law_1186 : decode cL_law 1186 = .ok (.aload 4, 2) := by decide +kernel
theorem dL_law_1188 : decode cL_law 1188 = .ok (.iload 28, 2) := by decide +kernel
theorem dL_law_1190 : decode cL_law 1190 = .ok (.iaload, 1) := by decide +kernel
theorem dL_law_1191 : decode cL_law 1191 = .ok (.ifCond .le 7, 3) := by decide +kernel
theorem dL_law_1194 : decode cL_law 1194 = .ok (.iconst 1, 1) := by decide +kernel
theorem dL_law_1195 : decode cL_law 1195 = .ok (.goto 4, 3) := by decide +kernel
theorem dL_law_1198 : decode cL_law 1198 = .ok (.iconst 0, 1) := by decide +kernel
theorem dL_law_1199 : decode cL_law 1199 = .ok (.iadd, 1) := by decide +kernel
theorem dL_law_1200 : decode cL_law 1200 = .ok (.istore 27, 2) := by decide +kernel
theorem dL_law_1202 : decode cL_law 1202 = .ok (.iinc 28 1, 3) := by decide +kernel
theorem dL_law_1205 : decode cL_law 1205 = .ok (.goto (-97), 3) := by decide +kernel
theorem dL_law_1208 : decode cL_law 1208 = .ok (.iload 24, 2) := by decide +kernel
theorem dL_law_1210 : decode cL_law 1210 = .ok (.ifCond .lt 69, 3) := by decide +kernel
theorem dL_law_1213 : decode cL_law 1213 = .ok (.iload 26, 2) := by decide +kernel
theorem dL_law_1215 : decode cL_law 1215 = .ok (.iload 24, 2) := by decide +kernel
theorem dL_law_1217 : decode cL_law 1217 = .ok (.if_icmp .ne 60, 3) := by decide +kernel
theorem dL_law_1220 : decode cL_law 1220 = .ok (.iload 27, 2) := by decide +kernel
theorem dL_law_1222 : decode cL_law 1222 = .ok (.iload 25, 2) := by decide +kernel
theorem dL_law_1224 : decode cL_law 1224 = .ok (.if_icmp .ne 53, 3) := by decide +kernel
theorem dL_law_1227 : decode cL_law 1227 = .ok (.aload_n 1, 1) := by decide +kernel
theorem dL_law_1228 : decode cL_law 1228 = .ok (.invokevirtual 147, 3) := by decide +kernel
theorem dL_law_1231 : decode cL_law 1231 = .ok (.ifCond .ne 46, 3) := by decide +kernel
theorem dL_law_1234 : decode cL_law 1234 = .ok (.iload 26, 2) := by decide +kernel
theorem dL_law_1236 : decode cL_law 1236 = .ok (.ifCond .le 14, 3) := by decide +kernel
theorem dL_law_1239 : decode cL_law 1239 = .ok (.aload_n 1, 1) := by decide +kernel
theorem dL_law_1240 : decode cL_law 1240 = .ok (.iload 10, 2) := by decide +kernel
theorem dL_law_1242 : decode cL_law 1242 = .ok (.invokevirtual 110, 3) := by decide +kernel
theorem dL_law_1245 : decode cL_law 1245 = .ok (.iload 26, 2) := by decide +kernel
theorem dL_law_1247 : decode cL_law 1247 = .ok (.if_icmp .ne 30, 3) := by decide +kernel
theorem dL_law_1250 : decode cL_law 1250 = .ok (.aload_n 1, 1) := by decide +kernel
theorem dL_law_1251 : decode cL_law 1251 = .ok (.iconst 0, 1) := by decide +kernel
theorem dL_law_1252 : decode cL_law 1252 = .ok (.invokevirtual 150, 3) := by decide +kernel
theorem dL_law_1255 : decode cL_law 1255 = .ok (.iconst 1, 1) := by decide +kernel
theorem dL_law_1256 : decode cL_law 1256 = .ok (.if_icmp .ne 21, 3) := by decide +kernel
theorem dL_law_1259 : decode cL_law 1259 = .ok (.aload_n 1, 1) := by decide +kernel
theorem dL_law_1260 : decode cL_law 1260 = .ok (.invokevirtual 123, 3) := by decide +kernel
theorem dL_law_1263 : decode cL_law 1263 = .ok (.iload 24, 2) := by decide +kernel
theorem dL_law_1265 : decode cL_law 1265 = .ok (.ifCond .ne 7, 3) := by decide +kernel
theorem dL_law_1268 : decode cL_law 1268 = .ok (.lconst 1, 1) := by decide +kernel
theorem dL_law_1269 : decode cL_law 1269 = .ok (.goto 4, 3) := by decide +kernel
theorem dL_law_1272 : decode cL_law 1272 = .ok (.lconst 0, 1) := by decide +kernel
theorem dL_law_1273 : decode cL_law 1273 = .ok (.lcmp, 1) := by decide +kernel
theorem dL_law_1274 : decode cL_law 1274 = .ok (.ifCond .eq 5, 3) := by decide +kernel
theorem dL_law_1277 : decode cL_law 1277 = .ok (.iconst 0, 1) := by decide +kernel
theorem dL_law_1278 : decode cL_law 1278 = .ok (.ireturn, 1) := by decide +kernel
theorem dL_law_1279 : decode cL_law 1279 = .ok (.iload 24, 2) := by decide +kernel
theorem dL_law_1281 : decode cL_law 1281 = .ok (.ifCond .ge 23, 3) := by decide +kernel
theorem dL_law_1284 : decode cL_law 1284 = .ok (.aload_n 1, 1) := by decide +kernel
theorem dL_law_1285 : decode cL_law 1285 = .ok (.iconst 0, 1) := by decide +kernel
theorem dL_law_1286 : decode cL_law 1286 = .ok (.invokevirtual 150, 3) := by decide +kernel
theorem dL_law_1289 : decode cL_law 1289 = .ok (.iconst 1, 1) := by decide +kernel
theorem dL_law_1290 : decode cL_law 1290 = .ok (.if_icmp .ne 12, 3) := by decide +kernel
theorem dL_law_1293 : decode cL_law 1293 = .ok (.aload_n 1, 1) := by decide +kernel
theorem dL_law_1294 : decode cL_law 1294 = .ok (.invokevirtual 123, 3) := by decide +kernel
theorem dL_law_1297 : decode cL_law 1297 = .ok (.lconst 0, 1) := by decide +kernel
theorem dL_law_1298 : decode cL_law 1298 = .ok (.lcmp, 1) := by decide +kernel
theorem dL_law_1299 : decode cL_law 1299 = .ok (.ifCond .eq 5, 3) := by decide +kernel
theorem dL_law_1302 : decode cL_law 1302 = .ok (.iconst 0, 1) := by decide +kernel
theorem dL_law_1303 : decode cL_law 1303 = .ok (.ireturn, 1) := by decide +kernel
theorem dL_law_1304 : decode cL_law 1304 = .ok (.aload_n 1, 1) := by decide +kernel
theorem dL_law_1305 : decode cL_law 1305 = .ok (.iconst 3, 1) := by decide +kernel
theorem dL_law_1306 : decode cL_law 1306 = .ok (.iconst 4, 1) := by decide +kernel
theorem dL_law_1307 : decode cL_law 1307 = .ok (.invokevirtual 141, 3) := by decide +kernel
theorem dL_law_1310 : decode cL_law 1310 = .ok (.iconst 4, 1) := by decide +kernel
theorem dL_law_1311 : decode cL_law 1311 = .ok (.if_icmp .eq 5, 3) := by decide +kernel
theorem dL_law_1314 : decode cL_law 1314 = .ok (.iconst 0, 1) := by decide +kernel
theorem dL_law_1315 : decode cL_law 1315 = .ok (.ireturn, 1) := by decide +kernel
theorem dL_law_1316 : decode cL_law 1316 = .ok (.iconst 0, 1) := by decide +kernel
theorem dL_law_1317 : decode cL_law 1317 = .ok (.istore 28, 2) := by decide +kernel
theorem dL_law_1319 : decode cL_law 1319 = .ok (.iload 28, 2) := by decide +kernel
theorem dL_law_1321 : decode cL_law 1321 = .ok (.iconst 2, 1) := by decide +kernel
theorem dL_law_1322 : decode cL_law 1322 = .ok (.if_icmp .ge 77, 3) := by decide +kernel
theorem dL_law_1325 : decode cL_law 1325 = .ok (.iload 9, 2) := by decide +kernel
theorem dL_law_1327 : decode cL_law 1327 = .ok (.iconst 3, 1) := by decide +kernel
theorem dL_law_1328 : decode cL_law 1328 = .ok (.iload 28, 2) := by decide +kernel
theorem dL_law_1330 : decode cL_law 1330 = .ok (.imul, 1) := by decide +kernel
theorem dL_law_1331 : decode cL_law 1331 = .ok (.ishr, 1) := by decide +kernel
theorem dL_law_1332 : decode cL_law 1332 = .ok (.iload 5, 2) := by decide +kernel
theorem dL_law_1334 : decode cL_law 1334 = .ok (.invokestatic 15, 3) := by decide +kernel
theorem dL_law_1337 : decode cL_law 1337 = .ok (.istore 29, 2) := by decide +kernel
theorem dL_law_1339 : decode cL_law 1339 = .ok (.aload_n 1, 1) := by decide +kernel
theorem dL_law_1340 : decode cL_law 1340 = .ok (.iconst 3, 1) := by decide +kernel
theorem dL_law_1341 : decode cL_law 1341 = .ok (.iconst 2, 1) := by decide +kernel
theorem dL_law_1342 : decode cL_law 1342 = .ok (.iload 28, 2) := by decide +kernel
theorem dL_law_1344 : decode cL_law 1344 = .ok (.imul, 1) := by decide +kernel
theorem dL_law_1345 : decode cL_law 1345 = .ok (.iload 29, 2) := by decide +kernel
theorem dL_law_1347 : decode cL_law 1347 = .ok (.invokevirtual 144, 3) := by decide +kernel
theorem dL_law_1350 : decode cL_law 1350 = .ok (.iconst 1, 1) := by decide +kernel
theorem dL_law_1351 : decode cL_law 1351 = .ok (.if_icmp .ne 40, 3) := by decide +kernel
theorem dL_law_1354 : decode cL_law 1354 = .ok (.aload_n 1, 1) := by decide +kernel
theorem dL_law_1355 : decode cL_law 1355 = .ok (.iconst 3, 1) := by decide +kernel
theorem dL_law_1356 : decode cL_law 1356 = .ok (.iconst 2, 1) := by decide +kernel
theorem dL_law_1357 : decode cL_law 1357 = .ok (.iload 28, 2) := by decide +kernel
theorem dL_law_1359 : decode cL_law 1359 = .ok (.imul, 1) := by decide +kernel
theorem dL_law_1360 : decode cL_law 1360 = .ok (.iconst 1, 1) := by decide +kernel
theorem dL_law_1361 : decode cL_law 1361 = .ok (.iadd, 1) := by decide +kernel
theorem dL_law_1362 : decode cL_law 1362 = .ok (.aload_n 1, 1) := by decide +kernel
theorem dL_law_1363 : decode cL_law 1363 = .ok (.iload 29, 2) := by decide +kernel
theorem dL_law_1365 : decode cL_law 1365 = .ok (.iconst 5, 1) := by decide +kernel
theorem dL_law_1366 : decode cL_law 1366 = .ok (.invokestatic 106, 3) := by decide +kernel
theorem dL_law_1369 : decode cL_law 1369 = .ok (.ifCond .ne 7, 3) := by decide +kernel
theorem dL_law_1372 : decode cL_law 1372 = .ok (.iconst 2, 1) := by decide +kernel
theorem dL_law_1373 : decode cL_law 1373 = .ok (.goto 11, 3) := by decide +kernel
theorem dL_law_1376 : decode cL_law 1376 = .ok (.aload_n 1, 1) := by decide +kernel
theorem dL_law_1377 : decode cL_law 1377 = .ok (.iload 29, 2) := by decide +kernel
theorem dL_law_1379 : decode cL_law 1379 = .ok (.bipush 6, 2) := by decide +kernel
theorem dL_law_1381 : decode cL_law 1381 = .ok (.invokestatic 106, 3) := by decide +kernel
theorem dL_law_1384 : decode cL_law 1384 = .ok (.invokevirtual 144, 3) := by decide +kernel
theorem dL_law_1387 : decode cL_law 1387 = .ok (.iconst 1, 1) := by decide +kernel
theorem dL_law_1388 : decode cL_law 1388 = .ok (.if_icmp .eq 5, 3) := by decide +kernel
theorem dL_law_1391 : decode cL_law 1391 = .ok (.iconst 0, 1) := by decide +kernel
theorem dL_law_1392 : decode cL_law 1392 = .ok (.ireturn, 1) := by decide +kernel
theorem dL_law_1393 : decode cL_law 1393 = .ok (.iinc 28 1, 3) := by decide +kernel
theorem dL_law_1396 : decode cL_law 1396 = .ok (.goto (-77), 3) := by decide +kernel
theorem dL_law_1399 : decode cL_law 1399 = .ok (.aload_n 1, 1) := by decide +kernel
theorem dL_law_1400 : decode cL_law 1400 = .ok (.iconst 3, 1) := by decide +kernel
theorem dL_law_1401 : decode cL_law 1401 = .ok (.invokevirtual 153, 3) := by decide +kernel
theorem dL_law_1404 : decode cL_law 1404 = .ok (.istore 28, 2) := by decide +kernel
theorem dL_law_1406 : decode cL_law 1406 = .ok (.aload_n 1, 1) := by decide +kernel
theorem dL_law_1407 : decode cL_law 1407 = .ok (.invokevirtual 73, 3) := by decide +kernel
theorem dL_law_1410 : decode cL_law 1410 = .ok (.istore 29, 2) := by decide +kernel
theorem dL_law_1412 : decode cL_law 1412 = .ok (.aload_n 1, 1) := by decide +kernel
theorem dL_law_1413 : decode cL_law 1413 = .ok (.iconst 3, 1) := by decide +kernel
theorem dL_law_1414 : decode cL_law 1414 = .ok (.invokevirtual 156, 3) := by decide +kernel
theorem dL_law_1417 : decode cL_law 1417 = .ok (.istore 30, 2) := by decide +kernel
theorem dL_law_1419 : decode cL_law 1419 = .ok (.aload_n 1, 1) := by decide +kernel
theorem dL_law_1420 : decode cL_law 1420 = .ok (.invokevirtual 73, 3) := by decide +kernel
theorem dL_law_1423 : decode cL_law 1423 = .ok (.istore 31, 2) := by decide +kernel
theorem dL_law_1425 : decode cL_law 1425 = .ok (.iload 28, 2) := by decide +kernel
theorem dL_law_1427 : decode cL_law 1427 = .ok (.iload 11, 2) := by decide +kernel
theorem dL_law_1429 : decode cL_law 1429 = .ok (.ishr, 1) := by decide +kernel
theorem dL_law_1430 : decode cL_law 1430 = .ok (.iconst 1, 1) := by decide +kernel
theorem dL_law_1431 : decode cL_law 1431 = .ok (.iand, 1) := by decide +kernel
theorem dL_law_1432 : decode cL_law 1432 = .ok (.iconst 1, 1) := by decide +kernel
theorem dL_law_1433 : decode cL_law 1433 = .ok (.if_icmp .ne 38, 3) := by decide +kernel
theorem dL_law_1436 : decode cL_law 1436 = .ok (.iload 29, 2) := by decide +kernel
theorem dL_law_1438 : decode cL_law 1438 = .ok (.iload 28, 2) := by decide +kernel
theorem dL_law_1440 : decode cL_law 1440 = .ok (.invokestatic 132, 3) := by decide +kernel
theorem dL_law_1443 : decode cL_law 1443 = .ok (.if_icmp .ne 28, 3) := by decide +kernel
theorem dL_law_1446 : decode cL_law 1446 = .ok (.iload 30, 2) := by decide +kernel
theorem dL_law_1448 : decode cL_law 1448 = .ok (.ifCond .lt 23, 3) := by decide +kernel
theorem dL_law_1451 : decode cL_law 1451 = .ok (.iload 30, 2) := by decide +kernel
theorem dL_law_1453 : decode cL_law 1453 = .ok (.iload 5, 2) := by decide +kernel
theorem dL_law_1455 : decode cL_law 1455 = .ok (.if_icmp .ge 16, 3) := by decide +kernel
theorem dL_law_1458 : decode cL_law 1458 = .ok (.iload 31, 2) := by decide +kernel
theorem dL_law_1460 : decode cL_law 1460 = .ok (.iconst 1, 1) := by decide +kernel
theorem dL_law_1461 : decode cL_law 1461 = .ok (.if_icmp .lt 10, 3) := by decide +kernel
theorem dL_law_1464 : decode cL_law 1464 = .ok (.iload 31, 2) := by decide +kernel
theorem dL_law_1466 : decode cL_law 1466 = .ok (.iload 29, 2) := by decide +kernel
theorem dL_law_1468 : decode cL_law 1468 = .ok (.if_icmp .le 5, 3) := by decide +kernel
theorem dL_law_1471 : decode cL_law 1471 = .ok (.iconst 0, 1) := by decide +kernel
theorem dL_law_1472 : decode cL_law 1472 = .ok (.ireturn, 1) := by decide +kernel
theorem dL_law_1473 : decode cL_law 1473 = .ok (.iconst 0, 1) := by decide +kernel
theorem dL_law_1474 : decode cL_law 1474 = .ok (.istore 32, 2) := by decide +kernel
theorem dL_law_1476 : decode cL_law 1476 = .ok (.iconst 0, 1) := by decide +kernel
theorem dL_law_1477 : decode cL_law 1477 = .ok (.istore 33, 2) := by decide +kernel
theorem dL_law_1479 : decode cL_law 1479 = .ok (.iload 33, 2) := by decide +kernel
theorem dL_law_1481 : decode cL_law 1481 = .ok (.iload 5, 2) := by decide +kernel
theorem dL_law_1483 : decode cL_law 1483 = .ok (.if_icmp .ge 98, 3) := by decide +kernel
theorem dL_law_1486 : decode cL_law 1486 = .ok (.iconst 0, 1) := by decide +kernel
theorem dL_law_1487 : decode cL_law 1487 = .ok (.istore 34, 2) := by decide +kernel
theorem dL_law_1489 : decode cL_law 1489 = .ok (.iconst 0, 1) := by decide +kernel
theorem dL_law_1490 : decode cL_law 1490 = .ok (.istore 35, 2) := by decide +kernel
theorem dL_law_1492 : decode cL_law 1492 = .ok (.iload 35, 2) := by decide +kernel
theorem dL_law_1494 : decode cL_law 1494 = .ok (.iconst 3, 1) := by decide +kernel
theorem dL_law_1495 : decode cL_law 1495 = .ok (.if_icmp .ge 41, 3) := by decide +kernel
theorem dL_law_1498 : decode cL_law 1498 = .ok (.iload 28, 2) := by decide +kernel
theorem dL_law_1500 : decode cL_law 1500 = .ok (.aload_n 1, 1) := by decide +kernel
theorem dL_law_1501 : decode cL_law 1501 = .ok (.iload 33, 2) := by decide +kernel
theorem dL_law_1503 : decode cL_law 1503 = .ok (.iload 35, 2) := by decide +kernel
theorem dL_law_1505 : decode cL_law 1505 = .ok (.invokevirtual 113, 3) := by decide +kernel
theorem dL_law_1508 : decode cL_law 1508 = .ok (.iand, 1) := by decide +kernel
theorem dL_law_1509 : decode cL_law 1509 = .ok (.invokestatic 132, 3) := by decide +kernel
theorem dL_law_1512 : decode cL_law 1512 = .ok (.istore 36, 2) := by decide +kernel
theorem dL_law_1514 : decode cL_law 1514 = .ok (.iload 36, 2) := by decide +kernel
theorem dL_law_1516 : decode cL_law 1516 = .ok (.iload 34, 2) := by decide +kernel
theorem dL_law_1518 : decode cL_law 1518 = .ok (.if_icmp .le 8, 3) := by decide +kernel
theorem dL_law_1521 : decode cL_law 1521 = .ok (.iload 36, 2) := by decide +kernel
theorem dL_law_1523 : decode cL_law 1523 = .ok (.goto 5, 3) := by decide +kernel
theorem dL_law_1526 : decode cL_law 1526 = .ok (.iload 34, 2) := by decide +kernel
theorem dL_law_1528 : decode cL_law 1528 = .ok (.istore 34, 2) := by decide +kernel
theorem dL_law_1530 : decode cL_law 1530 = .ok (.iinc 35 1, 3) := by decide +kernel
theorem dL_law_1533 : decode cL_law 1533 = .ok (.goto (-41), 3) := by decide +kernel
theorem dL_law_1536 : decode cL_law 1536 = .ok (.iload 34, 2) := by decide +kernel
theorem dL_law_1538 : decode cL_law 1538 = .ok (.iload 31, 2) := by decide +kernel
theorem dL_law_1540 : decode cL_law 1540 = .ok (.if_icmp .lt 17, 3) := by decide +kernel
theorem dL_law_1543 : decode cL_law 1543 = .ok (.iload 33, 2) := by decide +kernel
theorem dL_law_1545 : decode cL_law 1545 = .ok (.iload 30, 2) := by decide +kernel
theorem dL_law_1547 : decode cL_law 1547 = .ok (.if_icmp .ge 12, 3) := by decide +kernel
theorem dL_law_1550 : decode cL_law 1550 = .ok (.iload 34, 2) := by decide +kernel
theorem dL_law_1552 : decode cL_law 1552 = .ok (.iload 31, 2) := by decide +kernel
theorem dL_law_1554 : decode cL_law 1554 = .ok (.if_icmp .ne 5, 3) := by decide +kernel
theorem dL_law_1557 : decode cL_law 1557 = .ok (.iconst 0, 1) := by decide +kernel
theorem dL_law_1558 : decode cL_law 1558 = .ok (.ireturn, 1) := by decide +kernel
theorem dL_law_1559 : decode cL_law 1559 = .ok (.iload 33, 2) := by decide +kernel
theorem dL_law_1561 : decode cL_law 1561 = .ok (.iload 30, 2) := by decide +kernel
theorem dL_law_1563 : decode cL_law 1563 = .ok (.if_icmp .ne 8, 3) := by decide +kernel
theorem dL_law_1566 : decode cL_law 1566 = .ok (.iload 34, 2) := by decide +kernel
theorem dL_law_1568 : decode cL_law 1568 = .ok (.goto 5, 3) := by decide +kernel
theorem dL_law_1571 : decode cL_law 1571 = .ok (.iload 32, 2) := by decide +kernel
theorem dL_law_1573 : decode cL_law 1573 = .ok (.istore 32, 2) := by decide +kernel
theorem dL_law_1575 : decode cL_law 1575 = .ok (.iinc 33 1, 3) := by decide +kernel
theorem dL_law_1578 : decode cL_law 1578 = .ok (.goto (-99), 3) := by decide +kernel
theorem dL_law_1581 : decode cL_law 1581 = .ok (.iload 32, 2) := by decide +kernel
theorem dL_law_1583 : decode cL_law 1583 = .ok (.iload 31, 2) := by decide +kernel
theorem dL_law_1585 : decode cL_law 1585 = .ok (.if_icmp .eq 5, 3) := by decide +kernel
theorem dL_law_1588 : decode cL_law 1588 = .ok (.iconst 0, 1) := by decide +kernel
theorem dL_law_1589 : decode cL_law 1589 = .ok (.ireturn, 1) := by decide +kernel
theorem dL_law_1590 : decode cL_law 1590 = .ok (.iload 9, 2) := by decide +kernel
theorem dL_law_1592 : decode cL_law 1592 = .ok (.bipush 7, 2) := by decide +kernel
theorem dL_law_1594 : decode cL_law 1594 = .ok (.ishr, 1) := by decide +kernel
theorem dL_law_1595 : decode cL_law 1595 = .ok (.iload 5, 2) := by decide +kernel
theorem dL_law_1597 : decode cL_law 1597 = .ok (.invokestatic 15, 3) := by decide +kernel
theorem dL_law_1600 : decode cL_law 1600 = .ok (.istore 33, 2) := by decide +kernel
theorem dL_law_1602 : decode cL_law 1602 = .ok (.aload_n 1, 1) := by decide +kernel
theorem dL_law_1603 : decode cL_law 1603 = .ok (.iconst 4, 1) := by decide +kernel
theorem dL_law_1604 : decode cL_law 1604 = .ok (.iconst 2, 1) := by decide +kernel
theorem dL_law_1605 : decode cL_law 1605 = .ok (.invokevirtual 141, 3) := by decide +kernel
theorem dL_law_1608 : decode cL_law 1608 = .ok (.iconst 2, 1) := by decide +kernel
theorem dL_law_1609 : decode cL_law 1609 = .ok (.if_icmp .ne 47, 3) := by decide +kernel
theorem dL_law_1612 : decode cL_law 1612 = .ok (.aload_n 1, 1) := by decide +kernel
theorem dL_law_1613 : decode cL_law 1613 = .ok (.iconst 4, 1) := by decide +kernel
theorem dL_law_1614 : decode cL_law 1614 = .ok (.iconst 0, 1) := by decide +kernel
theorem dL_law_1615 : decode cL_law 1615 = .ok (.iload 11, 2) := by decide +kernel
theorem dL_law_1617 : decode cL_law 1617 = .ok (.invokevirtual 144, 3) := by decide +kernel
theorem dL_law_1620 : decode cL_law 1620 = .ok (.iconst 1, 1) := by decide +kernel
theorem dL_law_1621 : decode cL_law 1621 = .ok (.if_icmp .ne 35, 3) := by decide +kernel
theorem dL_law_1624 : decode cL_law 1624 = .ok (.aload_n 1, 1) := by decide +kernel
theorem dL_law_1625 : decode cL_law 1625 = .ok (.iconst 4, 1) := by decide +kernel
theorem dL_law_1626 : decode cL_law 1626 = .ok (.iconst 1, 1) := by decide +kernel
theorem dL_law_1627 : decode cL_law 1627 = .ok (.aload_n 1, 1) := by decide +kernel
theorem dL_law_1628 : decode cL_law 1628 = .ok (.iload 33, 2) := by decide +kernel
theorem dL_law_1630 : decode cL_law 1630 = .ok (.iconst 5, 1) := by decide +kernel
theorem dL_law_1631 : decode cL_law 1631 = .ok (.invokestatic 106, 3) := by decide +kernel
theorem dL_law_1634 : decode cL_law 1634 = .ok (.ifCond .ne 7, 3) := by decide +kernel
theorem dL_law_1637 : decode cL_law 1637 = .ok (.iconst 2, 1) := by decide +kernel
theorem dL_law_1638 : decode cL_law 1638 = .ok (.goto 11, 3) := by decide +kernel
theorem dL_law_1641 : decode cL_law 1641 = .ok (.aload_n 1, 1) := by decide +kernel
theorem dL_law_1642 : decode cL_law 1642 = .ok (.iload 33, 2) := by decide +kernel
theorem dL_law_1644 : decode cL_law 1644 = .ok (.bipush 6, 2) := by decide +kernel
theorem dL_law_1646 : decode cL_law 1646 = .ok (.invokestatic 106, 3) := by decide +kernel
theorem dL_law_1649 : decode cL_law 1649 = .ok (.invokevirtual 144, 3) := by decide +kernel
theorem dL_law_1652 : decode cL_law 1652 = .ok (.iconst 1, 1) := by decide +kernel
theorem dL_law_1653 : decode cL_law 1653 = .ok (.if_icmp .eq 5, 3) := by decide +kernel
theorem dL_law_1656 : decode cL_law 1656 = .ok (.iconst 0, 1) := by decide +kernel
theorem dL_law_1657 : decode cL_law 1657 = .ok (.ireturn, 1) := by decide +kernel
theorem dL_law_1658 : decode cL_law 1658 = .ok (.aload_n 1, 1) := by decide +kernel
theorem dL_law_1659 : decode cL_law 1659 = .ok (.iload 33, 2) := by decide +kernel
theorem dL_law_1661 : decode cL_law 1661 = .ok (.iconst 4, 1) := by decide +kernel
theorem dL_law_1662 : decode cL_law 1662 = .ok (.invokevirtual 159, 3) := by decide +kernel
theorem dL_law_1665 : decode cL_law 1665 = .ok (.istore 34, 2) := by decide +kernel
theorem dL_law_1667 : decode cL_law 1667 = .ok (.aload_n 1, 1) := by decide +kernel
theorem dL_law_1668 : decode cL_law 1668 = .ok (.iload 33, 2) := by decide +kernel
theorem dL_law_1670 : decode cL_law 1670 = .ok (.iconst 4, 1) := by decide +kernel
theorem dL_law_1671 : decode cL_law 1671 = .ok (.invokevirtual 162, 3) := by decide +kernel
theorem dL_law_1674 : decode cL_law 1674 = .ok (.istore 35, 2) := by decide +kernel
theorem dL_law_1676 : decode cL_law 1676 = .ok (.iload 34, 2) := by decide +kernel
theorem dL_law_1678 : decode cL_law 1678 = .ok (.aload_n 2, 1) := by decide +kernel
theorem dL_law_1679 : decode cL_law 1679 = .ok (.bipush 23, 2) := by decide +kernel
theorem dL_law_1681 : decode cL_law 1681 = .ok (.iload 33, 2) := by decide +kernel
theorem dL_law_1683 : decode cL_law 1683 = .ok (.iadd, 1) := by decide +kernel
theorem dL_law_1684 : decode cL_law 1684 = .ok (.iaload, 1) := by decide +kernel
theorem dL_law_1685 : decode cL_law 1685 = .ok (.ishr, 1) := by decide +kernel
theorem dL_law_1686 : decode cL_law 1686 = .ok (.iconst 1, 1) := by decide +kernel
theorem dL_law_1687 : decode cL_law 1687 = .ok (.iand, 1) := by decide +kernel
theorem dL_law_1688 : decode cL_law 1688 = .ok (.iconst 1, 1) := by decide +kernel
theorem dL_law_1689 : decode cL_law 1689 = .ok (.if_icmp .ne 34, 3) := by decide +kernel
theorem dL_law_1692 : decode cL_law 1692 = .ok (.iload 34, 2) := by decide +kernel
theorem dL_law_1694 : decode cL_law 1694 = .ok (.sipush 1023, 3) := by decide +kernel
theorem dL_law_1697 : decode cL_law 1697 = .ok (.if_icmp .gt 26, 3) := by decide +kernel
theorem dL_law_1700 : decode cL_law 1700 = .ok (.iload 35, 2) := by decide +kernel
theorem dL_law_1702 : decode cL_law 1702 = .ok (.aload_n 1, 1) := by decide +kernel
theorem dL_law_1703 : decode cL_law 1703 = .ok (.iload 33, 2) := by decide +kernel
theorem dL_law_1705 : decode cL_law 1705 = .ok (.iconst 0, 1) := by decide +kernel
theorem dL_law_1706 : decode cL_law 1706 = .ok (.invokestatic 106, 3) := by decide +kernel
theorem dL_law_1709 : decode cL_law 1709 = .ok (.ishr, 1) := by decide +kernel
theorem dL_law_1710 : decode cL_law 1710 = .ok (.iconst 1, 1) := by decide +kernel
theorem dL_law_1711 : decode cL_law 1711 = .ok (.iand, 1) := by decide +kernel
theorem dL_law_1712 : decode cL_law 1712 = .ok (.iconst 1, 1) := by decide +kernel
theorem dL_law_1713 : decode cL_law 1713 = .ok (.if_icmp .ne 10, 3) := by decide +kernel
theorem dL_law_1716 : decode cL_law 1716 = .ok (.iload 35, 2) := by decide +kernel
theorem dL_law_1718 : decode cL_law 1718 = .ok (.bipush 63, 2) := by decide +kernel
theorem dL_law_1720 : decode cL_law 1720 = .ok (.if_icmp .le 5, 3) := by decide +kernel
theorem dL_law_1723 : decode cL_law 1723 = .ok (.iconst 0, 1) := by decide +kernel
theorem dL_law_1724 : decode cL_law 1724 = .ok (.ireturn, 1) := by decide +kernel
theorem dL_law_1725 : decode cL_law 1725 = .ok (.aload_n 1, 1) := by decide +kernel
theorem dL_law_1726 : decode cL_law 1726 = .ok (.iconst 0, 1) := by decide +kernel
theorem dL_law_1727 : decode cL_law 1727 = .ok (.invokevirtual 165, 3) := by decide +kernel
theorem dL_law_1730 : decode cL_law 1730 = .ok (.iload 17, 2) := by decide +kernel
theorem dL_law_1732 : decode cL_law 1732 = .ok (.if_icmp .ne 63, 3) := by decide +kernel
theorem dL_law_1735 : decode cL_law 1735 = .ok (.aload_n 1, 1) := by decide +kernel
theorem dL_law_1736 : decode cL_law 1736 = .ok (.iconst 1, 1) := by decide +kernel
theorem dL_law_1737 : decode cL_law 1737 = .ok (.invokevirtual 165, 3) := by decide +kernel
theorem dL_law_1740 : decode cL_law 1740 = .ok (.iload 17, 2) := by decide +kernel
theorem dL_law_1742 : decode cL_law 1742 = .ok (.if_icmp .gt 53, 3) := by decide +kernel
theorem dL_law_1745 : decode cL_law 1745 = .ok (.aload_n 1, 1) := by decide +kernel
theorem dL_law_1746 : decode cL_law 1746 = .ok (.iconst 2, 1) := by decide +kernel
theorem dL_law_1747 : decode cL_law 1747 = .ok (.invokevirtual 165, 3) := by decide +kernel
theorem dL_law_1750 : decode cL_law 1750 = .ok (.aload_n 1, 1) := by decide +kernel
theorem dL_law_1751 : decode cL_law 1751 = .ok (.iconst 1, 1) := by decide +kernel
theorem dL_law_1752 : decode cL_law 1752 = .ok (.invokevirtual 165, 3) := by decide +kernel
theorem dL_law_1755 : decode cL_law 1755 = .ok (.if_icmp .lt 40, 3) := by decide +kernel
theorem dL_law_1758 : decode cL_law 1758 = .ok (.aload_n 1, 1) := by decide +kernel
theorem dL_law_1759 : decode cL_law 1759 = .ok (.iconst 3, 1) := by decide +kernel
theorem dL_law_1760 : decode cL_law 1760 = .ok (.invokevirtual 165, 3) := by decide +kernel
theorem dL_law_1763 : decode cL_law 1763 = .ok (.aload_n 1, 1) := by decide +kernel
theorem dL_law_1764 : decode cL_law 1764 = .ok (.iconst 2, 1) := by decide +kernel
theorem dL_law_1765 : decode cL_law 1765 = .ok (.invokevirtual 165, 3) := by decide +kernel
theorem dL_law_1768 : decode cL_law 1768 = .ok (.if_icmp .gt 27, 3) := by decide +kernel
theorem dL_law_1771 : decode cL_law 1771 = .ok (.aload_n 1, 1) := by decide +kernel
theorem dL_law_1772 : decode cL_law 1772 = .ok (.iconst 4, 1) := by decide +kernel
theorem dL_law_1773 : decode cL_law 1773 = .ok (.invokevirtual 165, 3) := by decide +kernel
theorem dL_law_1776 : decode cL_law 1776 = .ok (.aload_n 1, 1) := by decide +kernel
theorem dL_law_1777 : decode cL_law 1777 = .ok (.iconst 3, 1) := by decide +kernel
theorem dL_law_1778 : decode cL_law 1778 = .ok (.invokevirtual 165, 3) := by decide +kernel
theorem dL_law_1781 : decode cL_law 1781 = .ok (.if_icmp .lt 14, 3) := by decide +kernel
theorem dL_law_1784 : decode cL_law 1784 = .ok (.aload_n 1, 1) := by decide +kernel
theorem dL_law_1785 : decode cL_law 1785 = .ok (.bipush 6, 2) := by decide +kernel
theorem dL_law_1787 : decode cL_law 1787 = .ok (.invokevirtual 165, 3) := by decide +kernel
theorem dL_law_1790 : decode cL_law 1790 = .ok (.iload 5, 2) := by decide +kernel
theorem dL_law_1792 : decode cL_law 1792 = .ok (.if_icmp .le 5, 3) := by decide +kernel
theorem dL_law_1795 : decode cL_law 1795 = .ok (.iconst 0, 1) := by decide +kernel
theorem dL_law_1796 : decode cL_law 1796 = .ok (.ireturn, 1) := by decide +kernel
theorem dL_law_1797 : decode cL_law 1797 = .ok (.aload_n 1, 1) := by decide +kernel
theorem dL_law_1798 : decode cL_law 1798 = .ok (.iconst 0, 1) := by decide +kernel
theorem dL_law_1799 : decode cL_law 1799 = .ok (.invokevirtual 168, 3) := by decide +kernel
theorem dL_law_1802 : decode cL_law 1802 = .ok (.iconst 1, 1) := by decide +kernel
theorem dL_law_1803 : decode cL_law 1803 = .ok (.if_icmp .ne 89, 3) := by decide +kernel
theorem dL_law_1806 : decode cL_law 1806 = .ok (.aload_n 1, 1) := by decide +kernel
theorem dL_law_1807 : decode cL_law 1807 = .ok (.invokevirtual 123, 3) := by decide +kernel
theorem dL_law_1810 : decode cL_law 1810 = .ok (.iload 16, 2) := by decide +kernel
theorem dL_law_1812 : decode cL_law 1812 = .ok (.invokestatic 132, 3) := by decide +kernel
theorem dL_law_1815 : decode cL_law 1815 = .ok (.i2l, 1) := by decide +kernel
theorem dL_law_1816 : decode cL_law 1816 = .ok (.lcmp, 1) := by decide +kernel
theorem dL_law_1817 : decode cL_law 1817 = .ok (.ifCond .ne 75, 3) := by decide +kernel
theorem dL_law_1820 : decode cL_law 1820 = .ok (.aload_n 1, 1) := by decide +kernel
theorem dL_law_1821 : decode cL_law 1821 = .ok (.invokevirtual 126, 3) := by decide +kernel
theorem dL_law_1824 : decode cL_law 1824 = .ok (.lconst 1, 1) := by decide +kernel
theorem dL_law_1825 : decode cL_law 1825 = .ok (.lcmp, 1) := by decide +kernel
theorem dL_law_1826 : decode cL_law 1826 = .ok (.ifCond .ne 66, 3) := by decide +kernel
theorem dL_law_1829 : decode cL_law 1829 = .ok (.aload_n 1, 1) := by decide +kernel
theorem dL_law_1830 : decode cL_law 1830 = .ok (.bipush 12, 2) := by decide +kernel
theorem dL_law_1832 : decode cL_law 1832 = .ok (.invokevirtual 168, 3) := by decide +kernel
theorem dL_law_1835 : decode cL_law 1835 = .ok (.iconst 1, 1) := by decide +kernel
theorem dL_law_1836 : decode cL_law 1836 = .ok (.if_icmp .ne 56, 3) := by decide +kernel
theorem dL_law_1839 : decode cL_law 1839 = .ok (.aload_n 1, 1) := by decide +kernel
theorem dL_law_1840 : decode cL_law 1840 = .ok (.invokevirtual 123, 3) := by decide +kernel
theorem dL_law_1843 : decode cL_law 1843 = .ok (.iload 16, 2) := by decide +kernel
theorem dL_law_1845 : decode cL_law 1845 = .ok (.invokestatic 132, 3) := by decide +kernel
theorem dL_law_1848 : decode cL_law 1848 = .ok (.i2l, 1) := by decide +kernel
theorem dL_law_1849 : decode cL_law 1849 = .ok (.lcmp, 1) := by decide +kernel
theorem dL_law_1850 : decode cL_law 1850 = .ok (.ifCond .gt 42, 3) := by decide +kernel
theorem dL_law_1853 : decode cL_law 1853 = .ok (.aload_n 1, 1) := by decide +kernel
theorem dL_law_1854 : decode cL_law 1854 = .ok (.iload 9, 2) := by decide +kernel
theorem dL_law_1856 : decode cL_law 1856 = .ok (.bipush 11, 2) := by decide +kernel
theorem dL_law_1858 : decode cL_law 1858 = .ok (.ishr, 1) := by decide +kernel
theorem dL_law_1859 : decode cL_law 1859 = .ok (.bipush 13, 2) := by decide +kernel
theorem dL_law_1861 : decode cL_law 1861 = .ok (.invokestatic 15, 3) := by decide +kernel
theorem dL_law_1864 : decode cL_law 1864 = .ok (.invokevirtual 150, 3) := by decide +kernel
theorem dL_law_1867 : decode cL_law 1867 = .ok (.iconst 1, 1) := by decide +kernel
theorem dL_law_1868 : decode cL_law 1868 = .ok (.if_icmp .ne 24, 3) := by decide +kernel
theorem dL_law_1871 : decode cL_law 1871 = .ok (.aload_n 1, 1) := by decide +kernel
theorem dL_law_1872 : decode cL_law 1872 = .ok (.invokevirtual 123, 3) := by decide +kernel
theorem dL_law_1875 : decode cL_law 1875 = .ok (.lconst 0, 1) := by decide +kernel
theorem dL_law_1876 : decode cL_law 1876 = .ok (.lcmp, 1) := by decide +kernel
theorem dL_law_1877 : decode cL_law 1877 = .ok (.ifCond .lt 15, 3) := by decide +kernel
theorem dL_law_1880 : decode cL_law 1880 = .ok (.aload_n 1, 1) := by decide +kernel
theorem dL_law_1881 : decode cL_law 1881 = .ok (.invokevirtual 123, 3) := by decide +kernel
theorem dL_law_1884 : decode cL_law 1884 = .ok (.aload_n 1, 1) := by decide +kernel
theorem dL_law_1885 : decode cL_law 1885 = .ok (.invokevirtual 126, 3) := by decide +kernel
theorem dL_law_1888 : decode cL_law 1888 = .ok (.lcmp, 1) := by decide +kernel
theorem dL_law_1889 : decode cL_law 1889 = .ok (.ifCond .le 5, 3) := by decide +kernel
theorem dL_law_1892 : decode cL_law 1892 = .ok (.iconst 0, 1) := by decide +kernel
theorem dL_law_1893 : decode cL_law 1893 = .ok (.ireturn, 1) := by decide +kernel
theorem dL_law_1894 : decode cL_law 1894 = .ok (.aload_n 1, 1) := by decide +kernel
theorem dL_law_1895 : decode cL_law 1895 = .ok (.iconst 3, 1) := by decide +kernel
theorem dL_law_1896 : decode cL_law 1896 = .ok (.iconst 1, 1) := by decide +kernel
theorem dL_law_1897 : decode cL_law 1897 = .ok (.iload 9, 2) := by decide +kernel
theorem dL_law_1899 : decode cL_law 1899 = .ok (.ldc 171, 2) := by decide +kernel
theorem dL_law_1901 : decode cL_law 1901 = .ok (.iand, 1) := by decide +kernel
theorem dL_law_1902 : decode cL_law 1902 = .ok (.iadd, 1) := by decide +kernel
theorem dL_law_1903 : decode cL_law 1903 = .ok (.invokevirtual 172, 3) := by decide +kernel
theorem dL_law_1906 : decode cL_law 1906 = .ok (.istore 36, 2) := by decide +kernel
theorem dL_law_1908 : decode cL_law 1908 = .ok (.iload 36, 2) := by decide +kernel
theorem dL_law_1910 : decode cL_law 1910 = .ok (.ifCond .lt 82, 3) := by decide +kernel
theorem dL_law_1913 : decode cL_law 1913 = .ok (.iload 36, 2) := by decide +kernel
theorem dL_law_1915 : decode cL_law 1915 = .ok (.iconst 3, 1) := by decide +kernel
theorem dL_law_1916 : decode cL_law 1916 = .ok (.if_icmp .gt 76, 3) := by decide +kernel
theorem dL_law_1919 : decode cL_law 1919 = .ok (.aload_n 1, 1) := by decide +kernel
theorem dL_law_1920 : decode cL_law 1920 = .ok (.iconst 2, 1) := by decide +kernel
theorem dL_law_1921 : decode cL_law 1921 = .ok (.invokevirtual 101, 3) := by decide +kernel
theorem dL_law_1924 : decode cL_law 1924 = .ok (.iload 10, 2) := by decide +kernel
theorem dL_law_1926 : decode cL_law 1926 = .ok (.iconst 3, 1) := by decide +kernel
theorem dL_law_1927 : decode cL_law 1927 = .ok (.iadd, 1) := by decide +kernel
theorem dL_law_1928 : decode cL_law 1928 = .ok (.if_icmp .ne 64, 3) := by decide +kernel
theorem dL_law_1931 : decode cL_law 1931 = .ok (.aload_n 1, 1) := by decide +kernel
theorem dL_law_1932 : decode cL_law 1932 = .ok (.iconst 5, 1) := by decide +kernel
theorem dL_law_1933 : decode cL_law 1933 = .ok (.invokevirtual 101, 3) := by decide +kernel
theorem dL_law_1936 : decode cL_law 1936 = .ok (.iload 14, 2) := by decide +kernel
theorem dL_law_1938 : decode cL_law 1938 = .ok (.iload 36, 2) := by decide +kernel
theorem dL_law_1940 : decode cL_law 1940 = .ok (.iadd, 1) := by decide +kernel
theorem dL_law_1941 : decode cL_law 1941 = .ok (.if_icmp .ne 51, 3) := by decide +kernel
theorem dL_law_1944 : decode cL_law 1944 = .ok (.aload_n 1, 1) := by decide +kernel
theorem dL_law_1945 : decode cL_law 1945 = .ok (.iload 10, 2) := by decide +kernel
theorem dL_law_1947 : decode cL_law 1947 = .ok (.invokevirtual 110, 3) := by decide +kernel
theorem dL_law_1950 : decode cL_law 1950 = .ok (.iconst 3, 1) := by decide +kernel
theorem dL_law_1951 : decode cL_law 1951 = .ok (.if_icmp .ne 41, 3) := by decide +kernel
theorem dL_law_1954 : decode cL_law 1954 = .ok (.aload_n 1, 1) := by decide +kernel
theorem dL_law_1955 : decode cL_law 1955 = .ok (.iconst 1, 1) := by decide +kernel
theorem dL_law_1956 : decode cL_law 1956 = .ok (.invokevirtual 101, 3) := by decide +kernel
theorem dL_law_1959 : decode cL_law 1959 = .ok (.iload 11, 2) := by decide +kernel
theorem dL_law_1961 : decode cL_law 1961 = .ok (.if_icmp .ne 31, 3) := by decide +kernel
theorem dL_law_1964 : decode cL_law 1964 = .ok (.aload_n 1, 1) := by decide +kernel
theorem dL_law_1965 : decode cL_law 1965 = .ok (.iconst 3, 1) := by decide +kernel
theorem dL_law_1966 : decode cL_law 1966 = .ok (.invokevirtual 101, 3) := by decide +kernel
theorem dL_law_1969 : decode cL_law 1969 = .ok (.iload 12, 2) := by decide +kernel
theorem dL_law_1971 : decode cL_law 1971 = .ok (.if_icmp .ne 21, 3) := by decide +kernel
theorem dL_law_1974 : decode cL_law 1974 = .ok (.aload_n 1, 1) := by decide +kernel
theorem dL_law_1975 : decode cL_law 1975 = .ok (.invokevirtual 104, 3) := by decide +kernel
theorem dL_law_1978 : decode cL_law 1978 = .ok (.iload 15, 2) := by decide +kernel
theorem dL_law_1980 : decode cL_law 1980 = .ok (.if_icmp .ne 12, 3) := by decide +kernel
theorem dL_law_1983 : decode cL_law 1983 = .ok (.aload_n 1, 1) := by decide +kernel
theorem dL_law_1984 : decode cL_law 1984 = .ok (.invokevirtual 73, 3) := by decide +kernel
theorem dL_law_1987 : decode cL_law 1987 = .ok (.iload 16, 2) := by decide +kernel
theorem dL_law_1989 : decode cL_law 1989 = .ok (.if_icmp .eq 5, 3) := by decide +kernel
theorem dL_law_1992 : decode cL_law 1992 = .ok (.iconst 0, 1) := by decide +kernel
theorem dL_law_1993 : decode cL_law 1993 = .ok (.ireturn, 1) := by decide +kernel
theorem dL_law_1994 : decode cL_law 1994 = .ok (.iinc 8 1, 3) := by decide +kernel
theorem dL_law_1997 : decode cL_law 1997 = .ok (.goto (-1937), 3) := by decide +kernel
theorem dL_law_2000 : decode cL_law 2000 = .ok (.aload_n 1, 1) := by decide +kernel
theorem dL_law_2001 : decode cL_law 2001 = .ok (.iconst 2, 1) := by decide +kernel
theorem dL_law_2002 : decode cL_law 2002 = .ok (.invokevirtual 101, 3) := by decide +kernel
theorem dL_law_2005 : decode cL_law 2005 = .ok (.istore 8, 2) := by decide +kernel
theorem dL_law_2007 : decode cL_law 2007 = .ok (.aload_n 1, 1) := by decide +kernel
theorem dL_law_2008 : decode cL_law 2008 = .ok (.iconst 1, 1) := by decide +kernel
theorem dL_law_2009 : decode cL_law 2009 = .ok (.invokevirtual 94, 3) := by decide +kernel
theorem dL_law_2012 : decode cL_law 2012 = .ok (.iload 8, 2) := by decide +kernel
theorem dL_law_2014 : decode cL_law 2014 = .ok (.if_icmp .ne 49, 3) := by decide +kernel
theorem dL_law_2017 : decode cL_law 2017 = .ok (.aload_n 1, 1) := by decide +kernel
theorem dL_law_2018 : decode cL_law 2018 = .ok (.iconst 0, 1) := by decide +kernel
theorem dL_law_2019 : decode cL_law 2019 = .ok (.invokevirtual 175, 3) := by decide +kernel
theorem dL_law_2022 : decode cL_law 2022 = .ok (.ifCond .ne 41, 3) := by decide +kernel
theorem dL_law_2025 : decode cL_law 2025 = .ok (.aload_n 1, 1) := by decide +kernel
theorem dL_law_2026 : decode cL_law 2026 = .ok (.iconst 3, 1) := by decide +kernel
theorem dL_law_2027 : decode cL_law 2027 = .ok (.invokevirtual 101, 3) := by decide +kernel
theorem dL_law_2030 : decode cL_law 2030 = .ok (.ifCond .ne 33, 3) := by decide +kernel
theorem dL_law_2033 : decode cL_law 2033 = .ok (.aload_n 1, 1) := by decide +kernel
theorem dL_law_2034 : decode cL_law 2034 = .ok (.iconst 1, 1) := by decide +kernel
theorem dL_law_2035 : decode cL_law 2035 = .ok (.invokevirtual 175, 3) := by decide +kernel
theorem dL_law_2038 : decode cL_law 2038 = .ok (.iload 8, 2) := by decide +kernel
theorem dL_law_2040 : decode cL_law 2040 = .ok (.if_icmp .ne 23, 3) := by decide +kernel
theorem dL_law_2043 : decode cL_law 2043 = .ok (.aload_n 1, 1) := by decide +kernel
theorem dL_law_2044 : decode cL_law 2044 = .ok (.iconst 0, 1) := by decide +kernel
theorem dL_law_2045 : decode cL_law 2045 = .ok (.invokevirtual 110, 3) := by decide +kernel
theorem dL_law_2048 : decode cL_law 2048 = .ok (.iload 8, 2) := by decide +kernel
theorem dL_law_2050 : decode cL_law 2050 = .ok (.if_icmp .ne 13, 3) := by decide +kernel
theorem dL_law_2053 : decode cL_law 2053 = .ok (.aload_n 1, 1) := by decide +kernel
theorem dL_law_2054 : decode cL_law 2054 = .ok (.iconst 1, 1) := by decide +kernel
theorem dL_law_2055 : decode cL_law 2055 = .ok (.invokevirtual 101, 3) := by decide +kernel
theorem dL_law_2058 : decode cL_law 2058 = .ok (.bipush 8, 2) := by decide +kernel
theorem dL_law_2060 : decode cL_law 2060 = .ok (.if_icmp .eq 5, 3) := by decide +kernel
theorem dL_law_2063 : decode cL_law 2063 = .ok (.iconst 0, 1) := by decide +kernel
theorem dL_law_2064 : decode cL_law 2064 = .ok (.ireturn, 1) := by decide +kernel
theorem dL_law_2065 : decode cL_law 2065 = .ok (.iconst 0, 1) := by decide +kernel
theorem dL_law_2066 : decode cL_law 2066 = .ok (.istore 9, 2) := by decide +kernel
theorem dL_law_2068 : decode cL_law 2068 = .ok (.iload 9, 2) := by decide +kernel
theorem dL_law_2070 : decode cL_law 2070 = .ok (.bipush 6, 2) := by decide +kernel
theorem dL_law_2072 : decode cL_law 2072 = .ok (.if_icmp .ge 32, 3) := by decide +kernel
theorem dL_law_2075 : decode cL_law 2075 = .ok (.aload_n 1, 1) := by decide +kernel
theorem dL_law_2076 : decode cL_law 2076 = .ok (.iload 9, 2) := by decide +kernel
theorem dL_law_2078 : decode cL_law 2078 = .ok (.invokevirtual 178, 3) := by decide +kernel
theorem dL_law_2081 : decode cL_law 2081 = .ok (.istore 10, 2) := by decide +kernel
theorem dL_law_2083 : decode cL_law 2083 = .ok (.iload 10, 2) := by decide +kernel
theorem dL_law_2085 : decode cL_law 2085 = .ok (.iconst 1, 1) := by decide +kernel
theorem dL_law_2086 : decode cL_law 2086 = .ok (.if_icmp .eq 12, 3) := by decide +kernel
theorem dL_law_2089 : decode cL_law 2089 = .ok (.iload 10, 2) := by decide +kernel
theorem dL_law_2091 : decode cL_law 2091 = .ok (.bipush (-3), 2) := by decide +kernel
theorem dL_law_2093 : decode cL_law 2093 = .ok (.if_icmp .eq 5, 3) := by decide +kernel
theorem dL_law_2096 : decode cL_law 2096 = .ok (.iconst 0, 1) := by decide +kernel
theorem dL_law_2097 : decode cL_law 2097 = .ok (.ireturn, 1) := by decide +kernel
theorem dL_law_2098 : decode cL_law 2098 = .ok (.iinc 9 1, 3) := by decide +kernel
theorem dL_law_2101 : decode cL_law 2101 = .ok (.goto (-33), 3) := by decide +kernel
theorem dL_law_2104 : decode cL_law 2104 = .ok (.aload_n 1, 1) := by decide +kernel
theorem dL_law_2105 : decode cL_law 2105 = .ok (.iconst 0, 1) := by decide +kernel
theorem dL_law_2106 : decode cL_law 2106 = .ok (.invokevirtual 35, 3) := by decide +kernel
theorem dL_law_2109 : decode cL_law 2109 = .ok (.iload 5, 2) := by decide +kernel
theorem dL_law_2111 : decode cL_law 2111 = .ok (.if_icmp .ne 17, 3) := by decide +kernel
theorem dL_law_2114 : decode cL_law 2114 = .ok (.aload_n 1, 1) := by decide +kernel
theorem dL_law_2115 : decode cL_law 2115 = .ok (.invokevirtual 90, 3) := by decide +kernel
theorem dL_law_2118 : decode cL_law 2118 = .ok (.lload 6, 2) := by decide +kernel
theorem dL_law_2120 : decode cL_law 2120 = .ok (.lcmp, 1) := by decide +kernel
theorem dL_law_2121 : decode cL_law 2121 = .ok (.ifCond .ne 7, 3) := by decide +kernel
theorem dL_law_2124 : decode cL_law 2124 = .ok (.iconst 1, 1) := by decide +kernel
theorem dL_law_2125 : decode cL_law 2125 = .ok (.goto 4, 3) := by decide +kernel
theorem dL_law_2128 : decode cL_law 2128 = .ok (.iconst 0, 1) := by decide +kernel
theorem dL_law_2129 : decode cL_law 2129 = .ok (.ireturn, 1) := by decide +kernel
