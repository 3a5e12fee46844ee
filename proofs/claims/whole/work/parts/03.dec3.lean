theorem dX8_least_56 : decode cX8_least 56 = .ok (.iload_n 3, 1) := by decide +kernel
theorem dX8_least_57 : decode cX8_least 57 = .ok (.aload_n 0, 1) := by decide +kernel
theorem dX8_least_58 : decode cX8_least 58 = .ok (.getfield 7, 3) := by decide +kernel
theorem dX8_least_61 : decode cX8_least 61 = .ok (.iconst 1, 1) := by decide +kernel
theorem dX8_least_62 : decode cX8_least 62 = .ok (.iaload, 1) := by decide +kernel
theorem dX8_least_63 : decode cX8_least 63 = .ok (.invokevirtual 179, 3) := by decide +kernel
theorem dX8_least_66 : decode cX8_least 66 = .ok (.aload_n 0, 1) := by decide +kernel
theorem dX8_least_67 : decode cX8_least 67 = .ok (.iconst 0, 1) := by decide +kernel
theorem dX8_least_68 : decode cX8_least 68 = .ok (.iload_n 3, 1) := by decide +kernel
theorem dX8_least_69 : decode cX8_least 69 = .ok (.invokevirtual 182, 3) := by decide +kernel
theorem dX8_least_72 : decode cX8_least 72 = .ok (.isub, 1) := by decide +kernel
theorem dX8_least_73 : decode cX8_least 73 = .ok (.invokestatic 163, 3) := by decide +kernel
theorem dX8_least_76 : decode cX8_least 76 = .ok (.iconst 1, 1) := by decide +kernel
theorem dX8_least_77 : decode cX8_least 77 = .ok (.iadd, 1) := by decide +kernel
theorem dX8_least_78 : decode cX8_least 78 = .ok (.iconst 2, 1) := by decide +kernel
theorem dX8_least_79 : decode cX8_least 79 = .ok (.idiv, 1) := by decide +kernel
theorem dX8_least_80 : decode cX8_least 80 = .ok (.istore 4, 2) := by decide +kernel
theorem dX8_least_82 : decode cX8_least 82 = .ok (.aload_n 0, 1) := by decide +kernel
theorem dX8_least_83 : decode cX8_least 83 = .ok (.getfield 7, 3) := by decide +kernel
theorem dX8_least_86 : decode cX8_least 86 = .ok (.iconst 5, 1) := by decide +kernel
theorem dX8_least_87 : decode cX8_least 87 = .ok (.iload_n 3, 1) := by decide +kernel
theorem dX8_least_88 : decode cX8_least 88 = .ok (.iadd, 1) := by decide +kernel
theorem dX8_least_89 : decode cX8_least 89 = .ok (.iaload, 1) := by decide +kernel
theorem dX8_least_90 : decode cX8_least 90 = .ok (.iload 4, 2) := by decide +kernel
theorem dX8_least_92 : decode cX8_least 92 = .ok (.iadd, 1) := by decide +kernel
theorem dX8_least_93 : decode cX8_least 93 = .ok (.iconst 3, 1) := by decide +kernel
theorem dX8_least_94 : decode cX8_least 94 = .ok (.if_icmp .le 6, 3) := by decide +kernel
theorem dX8_least_97 : decode cX8_least 97 = .ok (.bipush (-9), 2) := by decide +kernel
theorem dX8_least_99 : decode cX8_least 99 = .ok (.ireturn, 1) := by decide +kernel
theorem dX8_least_100 : decode cX8_least 100 = .ok (.iload_n 1, 1) := by decide +kernel
theorem dX8_least_101 : decode cX8_least 101 = .ok (.iload 4, 2) := by decide +kernel
theorem dX8_least_103 : decode cX8_least 103 = .ok (.iadd, 1) := by decide +kernel
theorem dX8_least_104 : decode cX8_least 104 = .ok (.istore_n 1, 1) := by decide +kernel
theorem dX8_least_105 : decode cX8_least 105 = .ok (.iload_n 2, 1) := by decide +kernel
theorem dX8_least_106 : decode cX8_least 106 = .ok (.iload 4, 2) := by decide +kernel
theorem dX8_least_108 : decode cX8_least 108 = .ok (.ifCond .le 7, 3) := by decide +kernel
theorem dX8_least_111 : decode cX8_least 111 = .ok (.iconst 1, 1) := by decide +kernel
theorem dX8_least_112 : decode cX8_least 112 = .ok (.goto 4, 3) := by decide +kernel
theorem dX8_least_115 : decode cX8_least 115 = .ok (.iconst 0, 1) := by decide +kernel
theorem dX8_least_116 : decode cX8_least 116 = .ok (.iadd, 1) := by decide +kernel
theorem dX8_least_117 : decode cX8_least 117 = .ok (.istore_n 2, 1) := by decide +kernel
theorem dX8_least_118 : decode cX8_least 118 = .ok (.iinc 3 1, 3) := by decide +kernel
theorem dX8_least_121 : decode cX8_least 121 = .ok (.goto (-105), 3) := by decide +kernel
theorem dX8_least_124 : decode cX8_least 124 = .ok (.aload_n 0, 1) := by decide +kernel
theorem dX8_least_125 : decode cX8_least 125 = .ok (.iload_n 2, 1) := by decide +kernel
theorem dX8_least_126 : decode cX8_least 126 = .ok (.putfield 69, 3) := by decide +kernel
theorem dX8_least_129 : decode cX8_least 129 = .ok (.iload_n 1, 1) := by decide +kernel
theorem dX8_least_130 : decode cX8_least 130 = .ok (.ireturn, 1) := by decide +kernel
theorem dX8_noPairs_0 : decode cX8_noPairs 0 = .ok (.aload_n 0, 1) := by decide +kernel
theorem dX8_noPairs_1 : decode cX8_noPairs 1 = .ok (.getfield 25, 3) := by decide +kernel
theorem dX8_noPairs_4 : decode cX8_noPairs 4 = .ok (.iload_n 1, 1) := by decide +kernel
theorem dX8_noPairs_5 : decode cX8_noPairs 5 = .ok (.iaload, 1) := by decide +kernel
theorem dX8_noPairs_6 : decode cX8_noPairs 6 = .ok (.ifCond .ge 9, 3) := by decide +kernel
theorem dX8_noPairs_9 : decode cX8_noPairs 9 = .ok (.aload_n 0, 1) := by decide +kernel
theorem dX8_noPairs_10 : decode cX8_noPairs 10 = .ok (.iconst 1, 1) := by decide +kernel
theorem dX8_noPairs_11 : decode cX8_noPairs 11 = .ok (.invokevirtual 84, 3) := by decide +kernel
theorem dX8_noPairs_14 : decode cX8_noPairs 14 = .ok (.ireturn, 1) := by decide +kernel
theorem dX8_noPairs_15 : decode cX8_noPairs 15 = .ok (.aload_n 0, 1) := by decide +kernel
theorem dX8_noPairs_16 : decode cX8_noPairs 16 = .ok (.getfield 25, 3) := by decide +kernel
theorem dX8_noPairs_19 : decode cX8_noPairs 19 = .ok (.iload_n 1, 1) := by decide +kernel
theorem dX8_noPairs_20 : decode cX8_noPairs 20 = .ok (.iaload, 1) := by decide +kernel
theorem dX8_noPairs_21 : decode cX8_noPairs 21 = .ok (.iconst 2, 1) := by decide +kernel
theorem dX8_noPairs_22 : decode cX8_noPairs 22 = .ok (.irem, 1) := by decide +kernel
theorem dX8_noPairs_23 : decode cX8_noPairs 23 = .ok (.ifCond .eq 9, 3) := by decide +kernel
theorem dX8_noPairs_26 : decode cX8_noPairs 26 = .ok (.aload_n 0, 1) := by decide +kernel
theorem dX8_noPairs_27 : decode cX8_noPairs 27 = .ok (.iconst 5, 1) := by decide +kernel
theorem dX8_noPairs_28 : decode cX8_noPairs 28 = .ok (.invokevirtual 84, 3) := by decide +kernel
theorem dX8_noPairs_31 : decode cX8_noPairs 31 = .ok (.ireturn, 1) := by decide +kernel
theorem dX8_noPairs_32 : decode cX8_noPairs 32 = .ok (.iconst 1, 1) := by decide +kernel
theorem dX8_noPairs_33 : decode cX8_noPairs 33 = .ok (.istore_n 3, 1) := by decide +kernel
theorem dX8_noPairs_34 : decode cX8_noPairs 34 = .ok (.bipush 40, 2) := by decide +kernel
theorem dX8_noPairs_36 : decode cX8_noPairs 36 = .ok (.iload_n 1, 1) := by decide +kernel
theorem dX8_noPairs_37 : decode cX8_noPairs 37 = .ok (.imul, 1) := by decide +kernel
theorem dX8_noPairs_38 : decode cX8_noPairs 38 = .ok (.istore 4, 2) := by decide +kernel
theorem dX8_noPairs_40 : decode cX8_noPairs 40 = .ok (.iload 4, 2) := by decide +kernel
theorem dX8_noPairs_42 : decode cX8_noPairs 42 = .ok (.bipush 40, 2) := by decide +kernel
theorem dX8_noPairs_44 : decode cX8_noPairs 44 = .ok (.iload_n 1, 1) := by decide +kernel
theorem dX8_noPairs_45 : decode cX8_noPairs 45 = .ok (.imul, 1) := by decide +kernel
theorem dX8_noPairs_46 : decode cX8_noPairs 46 = .ok (.aload_n 0, 1) := by decide +kernel
theorem dX8_noPairs_47 : decode cX8_noPairs 47 = .ok (.getfield 25, 3) := by decide +kernel
theorem dX8_noPairs_50 : decode cX8_noPairs 50 = .ok (.iload_n 1, 1) := by decide +kernel
theorem dX8_noPairs_51 : decode cX8_noPairs 51 = .ok (.iaload, 1) := by decide +kernel
theorem dX8_noPairs_52 : decode cX8_noPairs 52 = .ok (.iadd, 1) := by decide +kernel
theorem dX8_noPairs_53 : decode cX8_noPairs 53 = .ok (.if_icmp .ge 56, 3) := by decide +kernel
theorem dX8_noPairs_56 : decode cX8_noPairs 56 = .ok (.iload_n 3, 1) := by decide +kernel
theorem dX8_noPairs_57 : decode cX8_noPairs 57 = .ok (.ifCond .eq 44, 3) := by decide +kernel
theorem dX8_noPairs_60 : decode cX8_noPairs 60 = .ok (.aload_n 0, 1) := by decide +kernel
theorem dX8_noPairs_61 : decode cX8_noPairs 61 = .ok (.getfield 28, 3) := by decide +kernel
theorem dX8_noPairs_64 : decode cX8_noPairs 64 = .ok (.iload 4, 2) := by decide +kernel
theorem dX8_noPairs_66 : decode cX8_noPairs 66 = .ok (.iaload, 1) := by decide +kernel
theorem dX8_noPairs_67 : decode cX8_noPairs 67 = .ok (.i2l, 1) := by decide +kernel
theorem dX8_noPairs_68 : decode cX8_noPairs 68 = .ok (.lconst 0, 1) := by decide +kernel
theorem dX8_noPairs_69 : decode cX8_noPairs 69 = .ok (.iload_n 2, 1) := by decide +kernel
theorem dX8_noPairs_70 : decode cX8_noPairs 70 = .ok (.i2l, 1) := by decide +kernel
theorem dX8_noPairs_71 : decode cX8_noPairs 71 = .ok (.invokestatic 74, 3) := by decide +kernel
theorem dX8_noPairs_74 : decode cX8_noPairs 74 = .ok (.ifCond .eq 27, 3) := by decide +kernel
theorem dX8_noPairs_77 : decode cX8_noPairs 77 = .ok (.aload_n 0, 1) := by decide +kernel
theorem dX8_noPairs_78 : decode cX8_noPairs 78 = .ok (.getfield 28, 3) := by decide +kernel
theorem dX8_noPairs_81 : decode cX8_noPairs 81 = .ok (.iload 4, 2) := by decide +kernel
theorem dX8_noPairs_83 : decode cX8_noPairs 83 = .ok (.iconst 1, 1) := by decide +kernel
theorem dX8_noPairs_84 : decode cX8_noPairs 84 = .ok (.iadd, 1) := by decide +kernel
theorem dX8_noPairs_85 : decode cX8_noPairs 85 = .ok (.iaload, 1) := by decide +kernel
theorem dX8_noPairs_86 : decode cX8_noPairs 86 = .ok (.i2l, 1) := by decide +kernel
theorem dX8_noPairs_87 : decode cX8_noPairs 87 = .ok (.lconst 0, 1) := by decide +kernel
theorem dX8_noPairs_88 : decode cX8_noPairs 88 = .ok (.ldc2_w 232, 3) := by decide +kernel
theorem dX8_noPairs_91 : decode cX8_noPairs 91 = .ok (.invokestatic 74, 3) := by decide +kernel
theorem dX8_noPairs_94 : decode cX8_noPairs 94 = .ok (.ifCond .eq 7, 3) := by decide +kernel
theorem dX8_noPairs_97 : decode cX8_noPairs 97 = .ok (.iconst 1, 1) := by decide +kernel
theorem dX8_noPairs_98 : decode cX8_noPairs 98 = .ok (.goto 4, 3) := by decide +kernel
theorem dX8_noPairs_101 : decode cX8_noPairs 101 = .ok (.iconst 0, 1) := by decide +kernel
theorem dX8_noPairs_102 : decode cX8_noPairs 102 = .ok (.istore_n 3, 1) := by decide +kernel
theorem dX8_noPairs_103 : decode cX8_noPairs 103 = .ok (.iinc 4 2, 3) := by decide +kernel
theorem dX8_noPairs_106 : decode cX8_noPairs 106 = .ok (.goto (-66), 3) := by decide +kernel
theorem dX8_noPairs_109 : decode cX8_noPairs 109 = .ok (.iload_n 3, 1) := by decide +kernel
theorem dX8_noPairs_110 : decode cX8_noPairs 110 = .ok (.ifCond .eq 7, 3) := by decide +kernel
theorem dX8_noPairs_113 : decode cX8_noPairs 113 = .ok (.iconst 0, 1) := by decide +kernel
theorem dX8_noPairs_114 : decode cX8_noPairs 114 = .ok (.goto 8, 3) := by decide +kernel
theorem dX8_noPairs_117 : decode cX8_noPairs 117 = .ok (.aload_n 0, 1) := by decide +kernel
theorem dX8_noPairs_118 : decode cX8_noPairs 118 = .ok (.iconst 3, 1) := by decide +kernel
theorem dX8_noPairs_119 : decode cX8_noPairs 119 = .ok (.invokevirtual 84, 3) := by decide +kernel
theorem dX8_noPairs_122 : decode cX8_noPairs 122 = .ok (.ireturn, 1) := by decide +kernel
theorem dX8_fitting_0 : decode cX8_fitting 0 = .ok (.iconst 0, 1) := by decide +kernel
theorem dX8_fitting_1 : decode cX8_fitting 1 = .ok (.istore_n 2, 1) := by decide +kernel
theorem dX8_fitting_2 : decode cX8_fitting 2 = .ok (.iconst 0, 1) := by decide +kernel
theorem dX8_fitting_3 : decode cX8_fitting 3 = .ok (.istore_n 3, 1) := by decide +kernel
theorem dX8_fitting_4 : decode cX8_fitting 4 = .ok (.iload_n 3, 1) := by decide +kernel
theorem dX8_fitting_5 : decode cX8_fitting 5 = .ok (.bipush 31, 2) := by decide +kernel
theorem dX8_fitting_7 : decode cX8_fitting 7 = .ok (.if_icmp .ge 92, 3) := by decide +kernel
theorem dX8_fitting_10 : decode cX8_fitting 10 = .ok (.iconst 1, 1) := by decide +kernel
theorem dX8_fitting_11 : decode cX8_fitting 11 = .ok (.istore 4, 2) := by decide +kernel
theorem dX8_fitting_13 : decode cX8_fitting 13 = .ok (.bipush 40, 2) := by decide +kernel
theorem dX8_fitting_15 : decode cX8_fitting 15 = .ok (.iload_n 1, 1) := by decide +kernel
theorem dX8_fitting_16 : decode cX8_fitting 16 = .ok (.imul, 1) := by decide +kernel
theorem dX8_fitting_17 : decode cX8_fitting 17 = .ok (.istore 5, 2) := by decide +kernel
theorem dX8_fitting_19 : decode cX8_fitting 19 = .ok (.iload 5, 2) := by decide +kernel
theorem dX8_fitting_21 : decode cX8_fitting 21 = .ok (.bipush 40, 2) := by decide +kernel
theorem dX8_fitting_23 : decode cX8_fitting 23 = .ok (.iload_n 1, 1) := by decide +kernel
theorem dX8_fitting_24 : decode cX8_fitting 24 = .ok (.imul, 1) := by decide +kernel
theorem dX8_fitting_25 : decode cX8_fitting 25 = .ok (.aload_n 0, 1) := by decide +kernel
theorem dX8_fitting_26 : decode cX8_fitting 26 = .ok (.getfield 25, 3) := by decide +kernel
theorem dX8_fitting_29 : decode cX8_fitting 29 = .ok (.iload_n 1, 1) := by decide +kernel
theorem dX8_fitting_30 : decode cX8_fitting 30 = .ok (.iaload, 1) := by decide +kernel
theorem dX8_fitting_31 : decode cX8_fitting 31 = .ok (.iadd, 1) := by decide +kernel
theorem dX8_fitting_32 : decode cX8_fitting 32 = .ok (.if_icmp .ge 46, 3) := by decide +kernel
theorem dX8_fitting_35 : decode cX8_fitting 35 = .ok (.iload 4, 2) := by decide +kernel
theorem dX8_fitting_37 : decode cX8_fitting 37 = .ok (.ifCond .eq 32, 3) := by decide +kernel
theorem dX8_fitting_40 : decode cX8_fitting 40 = .ok (.aload_n 0, 1) := by decide +kernel
theorem dX8_fitting_41 : decode cX8_fitting 41 = .ok (.iconst 0, 1) := by decide +kernel
theorem dX8_fitting_42 : decode cX8_fitting 42 = .ok (.aload_n 0, 1) := by decide +kernel
theorem dX8_fitting_43 : decode cX8_fitting 43 = .ok (.getfield 28, 3) := by decide +kernel
theorem dX8_fitting_46 : decode cX8_fitting 46 = .ok (.iload 5, 2) := by decide +kernel
theorem dX8_fitting_48 : decode cX8_fitting 48 = .ok (.iaload, 1) := by decide +kernel
theorem dX8_fitting_49 : decode cX8_fitting 49 = .ok (.iload_n 3, 1) := by decide +kernel
theorem dX8_fitting_50 : decode cX8_fitting 50 = .ok (.invokevirtual 222, 3) := by decide +kernel
theorem dX8_fitting_53 : decode cX8_fitting 53 = .ok (.aload_n 0, 1) := by decide +kernel
theorem dX8_fitting_54 : decode cX8_fitting 54 = .ok (.getfield 28, 3) := by decide +kernel
theorem dX8_fitting_57 : decode cX8_fitting 57 = .ok (.iload 5, 2) := by decide +kernel
theorem dX8_fitting_59 : decode cX8_fitting 59 = .ok (.iconst 1, 1) := by decide +kernel
theorem dX8_fitting_60 : decode cX8_fitting 60 = .ok (.iadd, 1) := by decide +kernel
theorem dX8_fitting_61 : decode cX8_fitting 61 = .ok (.iaload, 1) := by decide +kernel
theorem dX8_fitting_62 : decode cX8_fitting 62 = .ok (.if_icmp .ne 7, 3) := by decide +kernel
theorem dX8_fitting_65 : decode cX8_fitting 65 = .ok (.iconst 1, 1) := by decide +kernel
theorem dX8_fitting_66 : decode cX8_fitting 66 = .ok (.goto 4, 3) := by decide +kernel
theorem dX8_fitting_69 : decode cX8_fitting 69 = .ok (.iconst 0, 1) := by decide +kernel
theorem dX8_fitting_70 : decode cX8_fitting 70 = .ok (.istore 4, 2) := by decide +kernel
theorem dX8_fitting_72 : decode cX8_fitting 72 = .ok (.iinc 5 2, 3) := by decide +kernel
theorem dX8_fitting_75 : decode cX8_fitting 75 = .ok (.goto (-56), 3) := by decide +kernel
theorem dX8_fitting_78 : decode cX8_fitting 78 = .ok (.iload_n 2, 1) := by decide +kernel
theorem dX8_fitting_79 : decode cX8_fitting 79 = .ok (.iload 4, 2) := by decide +kernel
theorem dX8_fitting_81 : decode cX8_fitting 81 = .ok (.ifCond .eq 9, 3) := by decide +kernel
theorem dX8_fitting_84 : decode cX8_fitting 84 = .ok (.iconst 1, 1) := by decide +kernel
theorem dX8_fitting_85 : decode cX8_fitting 85 = .ok (.iload_n 3, 1) := by decide +kernel
theorem dX8_fitting_86 : decode cX8_fitting 86 = .ok (.ishl, 1) := by decide +kernel
theorem dX8_fitting_87 : decode cX8_fitting 87 = .ok (.goto 4, 3) := by decide +kernel
theorem dX8_fitting_90 : decode cX8_fitting 90 = .ok (.iconst 0, 1) := by decide +kernel
theorem dX8_fitting_91 : decode cX8_fitting 91 = .ok (.ior, 1) := by decide +kernel
theorem dX8_fitting_92 : decode cX8_fitting 92 = .ok (.istore_n 2, 1) := by decide +kernel
theorem dX8_fitting_93 : decode cX8_fitting 93 = .ok (.iinc 3 1, 3) := by decide +kernel
theorem dX8_fitting_96 : decode cX8_fitting 96 = .ok (.goto (-92), 3) := by decide +kernel
theorem dX8_fitting_99 : decode cX8_fitting 99 = .ok (.iload_n 2, 1) := by decide +kernel
theorem dX8_fitting_100 : decode cX8_fitting 100 = .ok (.ireturn, 1) := by decide +kernel
theorem dX8_fits_0 : decode cX8_fits 0 = .ok (.iload_n 1, 1) := by decide +kernel
theorem dX8_fits_1 : decode cX8_fits 1 = .ok (.invokestatic 80, 3) := by decide +kernel
theorem dX8_fits_4 : decode cX8_fits 4 = .ok (.ifCond .ne 5, 3) := by decide +kernel
theorem dX8_fits_7 : decode cX8_fits 7 = .ok (.iconst (-1), 1) := by decide +kernel
theorem dX8_fits_8 : decode cX8_fits 8 = .ok (.ireturn, 1) := by decide +kernel
theorem dX8_fits_9 : decode cX8_fits 9 = .ok (.aload_n 0, 1) := by decide +kernel
theorem dX8_fits_10 : decode cX8_fits 10 = .ok (.getfield 157, 3) := by decide +kernel
theorem dX8_fits_13 : decode cX8_fits 13 = .ok (.ifCond .ne 6, 3) := by decide +kernel
theorem dX8_fits_16 : decode cX8_fits 16 = .ok (.bipush (-4), 2) := by decide +kernel
theorem dX8_fits_18 : decode cX8_fits 18 = .ok (.ireturn, 1) := by decide +kernel
theorem dX8_fits_19 : decode cX8_fits 19 = .ok (.aload_n 0, 1) := by decide +kernel
theorem dX8_fits_20 : decode cX8_fits 20 = .ok (.iload_n 1, 1) := by decide +kernel
theorem dX8_fits_21 : decode cX8_fits 21 = .ok (.aload_n 0, 1) := by decide +kernel
theorem dX8_fits_22 : decode cX8_fits 22 = .ok (.getfield 157, 3) := by decide +kernel
theorem dX8_fits_25 : decode cX8_fits 25 = .ok (.iconst 1, 1) := by decide +kernel
theorem dX8_fits_26 : decode cX8_fits 26 = .ok (.isub, 1) := by decide +kernel
theorem dX8_fits_27 : decode cX8_fits 27 = .ok (.invokevirtual 268, 3) := by decide +kernel
theorem dX8_fits_30 : decode cX8_fits 30 = .ok (.istore_n 2, 1) := by decide +kernel
theorem dX8_fits_31 : decode cX8_fits 31 = .ok (.iload_n 2, 1) := by decide +kernel
theorem dX8_fits_32 : decode cX8_fits 32 = .ok (.ifCond .eq 5, 3) := by decide +kernel
theorem dX8_fits_35 : decode cX8_fits 35 = .ok (.iload_n 2, 1) := by decide +kernel
theorem dX8_fits_36 : decode cX8_fits 36 = .ok (.ireturn, 1) := by decide +kernel
theorem dX8_fits_37 : decode cX8_fits 37 = .ok (.aload_n 0, 1) := by decide +kernel
theorem dX8_fits_38 : decode cX8_fits 38 = .ok (.iload_n 1, 1) := by decide +kernel
theorem dX8_fits_39 : decode cX8_fits 39 = .ok (.invokevirtual 271, 3) := by decide +kernel
theorem dX8_fits_42 : decode cX8_fits 42 = .ok (.istore_n 3, 1) := by decide +kernel
theorem dX8_fits_43 : decode cX8_fits 43 = .ok (.aload_n 0, 1) := by decide +kernel
theorem dX8_fits_44 : decode cX8_fits 44 = .ok (.iload_n 3, 1) := by decide +kernel
theorem dX8_fits_45 : decode cX8_fits 45 = .ok (.invokestatic 274, 3) := by decide +kernel
theorem dX8_fits_48 : decode cX8_fits 48 = .ok (.putfield 69, 3) := by decide +kernel
theorem dX8_fits_51 : decode cX8_fits 51 = .ok (.iload_n 3, 1) := by decide +kernel
theorem dX8_fits_52 : decode cX8_fits 52 = .ok (.ireturn, 1) := by decide +kernel
theorem dX8_greatestPart_0 : decode cX8_greatestPart 0 = .ok (.iconst 0, 1) := by decide +kernel
theorem dX8_greatestPart_1 : decode cX8_greatestPart 1 = .ok (.istore_n 3, 1) := by decide +kernel
theorem dX8_greatestPart_2 : decode cX8_greatestPart 2 = .ok (.iload_n 3, 1) := by decide +kernel
theorem dX8_greatestPart_3 : decode cX8_greatestPart 3 = .ok (.iconst 3, 1) := by decide +kernel
theorem dX8_greatestPart_4 : decode cX8_greatestPart 4 = .ok (.if_icmp .ge 16, 3) := by decide +kernel
theorem dX8_greatestPart_7 : decode cX8_greatestPart 7 = .ok (.aload_n 0, 1) := by decide +kernel
theorem dX8_greatestPart_8 : decode cX8_greatestPart 8 = .ok (.getfield 53, 3) := by decide +kernel
theorem dX8_greatestPart_11 : decode cX8_greatestPart 11 = .ok (.iload_n 3, 1) := by decide +kernel
theorem dX8_greatestPart_12 : decode cX8_greatestPart 12 = .ok (.iconst 0, 1) := by decide +kernel
theorem dX8_greatestPart_13 : decode cX8_greatestPart 13 = .ok (.iastore, 1) := by decide +kernel
theorem dX8_greatestPart_14 : decode cX8_greatestPart 14 = .ok (.iinc 3 1, 3) := by decide +kernel
theorem dX8_greatestPart_17 : decode cX8_greatestPart 17 = .ok (.goto (-15), 3) := by decide +kernel
theorem dX8_greatestPart_20 : decode cX8_greatestPart 20 = .ok (.iconst 0, 1) := by decide +kernel
theorem dX8_greatestPart_21 : decode cX8_greatestPart 21 = .ok (.istore_n 3, 1) := by decide +kernel
theorem dX8_greatestPart_22 : decode cX8_greatestPart 22 = .ok (.iconst 0, 1) := by decide +kernel
theorem dX8_greatestPart_23 : decode cX8_greatestPart 23 = .ok (.istore 4, 2) := by decide +kernel
theorem dX8_greatestPart_25 : decode cX8_greatestPart 25 = .ok (.iload 4, 2) := by decide +kernel
theorem dX8_greatestPart_27 : decode cX8_greatestPart 27 = .ok (.bipush 31, 2) := by decide +kernel
theorem dX8_greatestPart_29 : decode cX8_greatestPart 29 = .ok (.if_icmp .ge 62, 3) := by decide +kernel
theorem dX8_greatestPart_32 : decode cX8_greatestPart 32 = .ok (.iload_n 2, 1) := by decide +kernel
theorem dX8_greatestPart_33 : decode cX8_greatestPart 33 = .ok (.iload 4, 2) := by decide +kernel
theorem dX8_greatestPart_35 : decode cX8_greatestPart 35 = .ok (.invokestatic 216, 3) := by decide +kernel
theorem dX8_greatestPart_38 : decode cX8_greatestPart 38 = .ok (.ifCond .eq 47, 3) := by decide +kernel
theorem dX8_greatestPart_41 : decode cX8_greatestPart 41 = .ok (.aload_n 0, 1) := by decide +kernel
theorem dX8_greatestPart_42 : decode cX8_greatestPart 42 = .ok (.iconst 0, 1) := by decide +kernel
theorem dX8_greatestPart_43 : decode cX8_greatestPart 43 = .ok (.iload_n 1, 1) := by decide +kernel
theorem dX8_greatestPart_44 : decode cX8_greatestPart 44 = .ok (.iload 4, 2) := by decide +kernel
theorem dX8_greatestPart_46 : decode cX8_greatestPart 46 = .ok (.invokevirtual 222, 3) := by decide +kernel
theorem dX8_greatestPart_49 : decode cX8_greatestPart 49 = .ok (.istore 5, 2) := by decide +kernel
theorem dX8_greatestPart_51 : decode cX8_greatestPart 51 = .ok (.aload_n 0, 1) := by decide +kernel
theorem dX8_greatestPart_52 : decode cX8_greatestPart 52 = .ok (.getfield 53, 3) := by decide +kernel
theorem dX8_greatestPart_55 : decode cX8_greatestPart 55 = .ok (.iload 5, 2) := by decide +kernel
theorem dX8_greatestPart_57 : decode cX8_greatestPart 57 = .ok (.dup2, 1) := by decide +kernel
theorem dX8_greatestPart_58 : decode cX8_greatestPart 58 = .ok (.iaload, 1) := by decide +kernel
theorem dX8_greatestPart_59 : decode cX8_greatestPart 59 = .ok (.iconst 1, 1) := by decide +kernel
theorem dX8_greatestPart_60 : decode cX8_greatestPart 60 = .ok (.iadd, 1) := by decide +kernel
theorem dX8_greatestPart_61 : decode cX8_greatestPart 61 = .ok (.iastore, 1) := by decide +kernel
theorem dX8_greatestPart_62 : decode cX8_greatestPart 62 = .ok (.aload_n 0, 1) := by decide +kernel
theorem dX8_greatestPart_63 : decode cX8_greatestPart 63 = .ok (.getfield 53, 3) := by decide +kernel
theorem dX8_greatestPart_66 : decode cX8_greatestPart 66 = .ok (.iload 5, 2) := by decide +kernel
theorem dX8_greatestPart_68 : decode cX8_greatestPart 68 = .ok (.iaload, 1) := by decide +kernel
theorem dX8_greatestPart_69 : decode cX8_greatestPart 69 = .ok (.iload_n 3, 1) := by decide +kernel
theorem dX8_greatestPart_70 : decode cX8_greatestPart 70 = .ok (.if_icmp .le 13, 3) := by decide +kernel
theorem dX8_greatestPart_73 : decode cX8_greatestPart 73 = .ok (.aload_n 0, 1) := by decide +kernel
theorem dX8_greatestPart_74 : decode cX8_greatestPart 74 = .ok (.getfield 53, 3) := by decide +kernel
theorem dX8_greatestPart_77 : decode cX8_greatestPart 77 = .ok (.iload 5, 2) := by decide +kernel
theorem dX8_greatestPart_79 : decode cX8_greatestPart 79 = .ok (.iaload, 1) := by decide +kernel
theorem dX8_greatestPart_80 : decode cX8_greatestPart 80 = .ok (.goto 4, 3) := by decide +kernel
theorem dX8_greatestPart_83 : decode cX8_greatestPart 83 = .ok (.iload_n 3, 1) := by decide +kernel
theorem dX8_greatestPart_84 : decode cX8_greatestPart 84 = .ok (.istore_n 3, 1) := by decide +kernel
theorem dX8_greatestPart_85 : decode cX8_greatestPart 85 = .ok (.iinc 4 1, 3) := by decide +kernel
theorem dX8_greatestPart_88 : decode cX8_greatestPart 88 = .ok (.goto (-63), 3) := by decide +kernel
theorem dX8_greatestPart_91 : decode cX8_greatestPart 91 = .ok (.iload_n 3, 1) := by decide +kernel
theorem dX8_greatestPart_92 : decode cX8_greatestPart 92 = .ok (.ireturn, 1) := by decide +kernel
theorem dX8_ask_0 : decode cX8_ask 0 = .ok (.iload_n 1, 1) := by decide +kernel
theorem dX8_ask_1 : decode cX8_ask 1 = .ok (.invokestatic 80, 3) := by decide +kernel
theorem dX8_ask_4 : decode cX8_ask 4 = .ok (.ifCond .ne 5, 3) := by decide +kernel
theorem dX8_ask_7 : decode cX8_ask 7 = .ok (.iconst (-1), 1) := by decide +kernel
theorem dX8_ask_8 : decode cX8_ask 8 = .ok (.ireturn, 1) := by decide +kernel
theorem dX8_ask_9 : decode cX8_ask 9 = .ok (.aload_n 0, 1) := by decide +kernel
theorem dX8_ask_10 : decode cX8_ask 10 = .ok (.getfield 157, 3) := by decide +kernel
theorem dX8_ask_13 : decode cX8_ask 13 = .ok (.ifCond .ne 6, 3) := by decide +kernel
theorem dX8_ask_16 : decode cX8_ask 16 = .ok (.bipush (-4), 2) := by decide +kernel
theorem dX8_ask_18 : decode cX8_ask 18 = .ok (.ireturn, 1) := by decide +kernel
theorem dX8_ask_19 : decode cX8_ask 19 = .ok (.aload_n 0, 1) := by decide +kernel
theorem dX8_ask_20 : decode cX8_ask 20 = .ok (.iload_n 1, 1) := by decide +kernel
theorem dX8_ask_21 : decode cX8_ask 21 = .ok (.aload_n 0, 1) := by decide +kernel
theorem dX8_ask_22 : decode cX8_ask 22 = .ok (.getfield 157, 3) := by decide +kernel
theorem dX8_ask_25 : decode cX8_ask 25 = .ok (.iconst 1, 1) := by decide +kernel
theorem dX8_ask_26 : decode cX8_ask 26 = .ok (.isub, 1) := by decide +kernel
theorem dX8_ask_27 : decode cX8_ask 27 = .ok (.invokevirtual 268, 3) := by decide +kernel
theorem dX8_ask_30 : decode cX8_ask 30 = .ok (.istore_n 2, 1) := by decide +kernel
theorem dX8_ask_31 : decode cX8_ask 31 = .ok (.iload_n 2, 1) := by decide +kernel
theorem dX8_ask_32 : decode cX8_ask 32 = .ok (.ifCond .eq 5, 3) := by decide +kernel
theorem dX8_ask_35 : decode cX8_ask 35 = .ok (.iload_n 2, 1) := by decide +kernel
theorem dX8_ask_36 : decode cX8_ask 36 = .ok (.ireturn, 1) := by decide +kernel
theorem dX8_ask_37 : decode cX8_ask 37 = .ok (.aload_n 0, 1) := by decide +kernel
theorem dX8_ask_38 : decode cX8_ask 38 = .ok (.iload_n 1, 1) := by decide +kernel
theorem dX8_ask_39 : decode cX8_ask 39 = .ok (.invokevirtual 271, 3) := by decide +kernel
theorem dX8_ask_42 : decode cX8_ask 42 = .ok (.istore_n 3, 1) := by decide +kernel
theorem dX8_ask_43 : decode cX8_ask 43 = .ok (.iload_n 3, 1) := by decide +kernel
theorem dX8_ask_44 : decode cX8_ask 44 = .ok (.ifCond .ne 6, 3) := by decide +kernel
theorem dX8_ask_47 : decode cX8_ask 47 = .ok (.bipush (-9), 2) := by decide +kernel
theorem dX8_ask_49 : decode cX8_ask 49 = .ok (.ireturn, 1) := by decide +kernel
theorem dX8_ask_50 : decode cX8_ask 50 = .ok (.iconst 0, 1) := by decide +kernel
theorem dX8_ask_51 : decode cX8_ask 51 = .ok (.istore 4, 2) := by decide +kernel
theorem dX8_ask_53 : decode cX8_ask 53 = .ok (.iconst 1, 1) := by decide +kernel
theorem dX8_ask_54 : decode cX8_ask 54 = .ok (.istore 5, 2) := by decide +kernel
theorem dX8_ask_56 : decode cX8_ask 56 = .ok (.iload 5, 2) := by decide +kernel
theorem dX8_ask_58 : decode cX8_ask 58 = .ok (.aload_n 0, 1) := by decide +kernel
theorem dX8_ask_59 : decode cX8_ask 59 = .ok (.getfield 157, 3) := by decide +kernel
theorem dX8_ask_62 : decode cX8_ask 62 = .ok (.if_icmp .ge 35, 3) := by decide +kernel
theorem dX8_ask_65 : decode cX8_ask 65 = .ok (.aload_n 0, 1) := by decide +kernel
theorem dX8_ask_66 : decode cX8_ask 66 = .ok (.iload 5, 2) := by decide +kernel
theorem dX8_ask_68 : decode cX8_ask 68 = .ok (.iload_n 3, 1) := by decide +kernel
theorem dX8_ask_69 : decode cX8_ask 69 = .ok (.invokevirtual 277, 3) := by decide +kernel
theorem dX8_ask_72 : decode cX8_ask 72 = .ok (.aload_n 0, 1) := by decide +kernel
theorem dX8_ask_73 : decode cX8_ask 73 = .ok (.iload 4, 2) := by decide +kernel
theorem dX8_ask_75 : decode cX8_ask 75 = .ok (.iload_n 3, 1) := by decide +kernel
theorem dX8_ask_76 : decode cX8_ask 76 = .ok (.invokevirtual 277, 3) := by decide +kernel
theorem dX8_ask_79 : decode cX8_ask 79 = .ok (.if_icmp .ge 8, 3) := by decide +kernel
theorem dX8_ask_82 : decode cX8_ask 82 = .ok (.iload 5, 2) := by decide +kernel
theorem dX8_ask_84 : decode cX8_ask 84 = .ok (.goto 5, 3) := by decide +kernel
theorem dX8_ask_87 : decode cX8_ask 87 = .ok (.iload 4, 2) := by decide +kernel
theorem dX8_ask_89 : decode cX8_ask 89 = .ok (.istore 4, 2) := by decide +kernel
theorem dX8_ask_91 : decode cX8_ask 91 = .ok (.iinc 5 1, 3) := by decide +kernel
theorem dX8_ask_94 : decode cX8_ask 94 = .ok (.goto (-38), 3) := by decide +kernel
theorem dX8_ask_97 : decode cX8_ask 97 = .ok (.aload_n 0, 1) := by decide +kernel
theorem dX8_ask_98 : decode cX8_ask 98 = .ok (.aload_n 0, 1) := by decide +kernel
theorem dX8_ask_99 : decode cX8_ask 99 = .ok (.iload 4, 2) := by decide +kernel
theorem dX8_ask_101 : decode cX8_ask 101 = .ok (.iload_n 3, 1) := by decide +kernel
theorem dX8_ask_102 : decode cX8_ask 102 = .ok (.invokevirtual 277, 3) := by decide +kernel
theorem dX8_ask_105 : decode cX8_ask 105 = .ok (.putfield 69, 3) := by decide +kernel
theorem dX8_ask_108 : decode cX8_ask 108 = .ok (.iload 4, 2) := by decide +kernel
theorem dX8_ask_110 : decode cX8_ask 110 = .ok (.ireturn, 1) := by decide +kernel
theorem dX8_isTold_0 : decode cX8_isTold 0 = .ok (.iconst 1, 1) := by decide +kernel
theorem dX8_isTold_1 : decode cX8_isTold 1 = .ok (.istore 5, 2) := by decide +kernel
theorem dX8_isTold_3 : decode cX8_isTold 3 = .ok (.bipush 40, 2) := by decide +kernel
theorem dX8_isTold_5 : decode cX8_isTold 5 = .ok (.iload_n 2, 1) := by decide +kernel
theorem dX8_isTold_6 : decode cX8_isTold 6 = .ok (.imul, 1) := by decide +kernel
theorem dX8_isTold_7 : decode cX8_isTold 7 = .ok (.istore 6, 2) := by decide +kernel
theorem dX8_isTold_9 : decode cX8_isTold 9 = .ok (.iload 6, 2) := by decide +kernel
theorem dX8_isTold_11 : decode cX8_isTold 11 = .ok (.bipush 40, 2) := by decide +kernel
theorem dX8_isTold_13 : decode cX8_isTold 13 = .ok (.iload_n 2, 1) := by decide +kernel
theorem dX8_isTold_14 : decode cX8_isTold 14 = .ok (.imul, 1) := by decide +kernel
theorem dX8_isTold_15 : decode cX8_isTold 15 = .ok (.aload_n 0, 1) := by decide +kernel
theorem dX8_isTold_16 : decode cX8_isTold 16 = .ok (.getfield 25, 3) := by decide +kernel
theorem dX8_isTold_19 : decode cX8_isTold 19 = .ok (.iload_n 2, 1) := by decide +kernel
theorem dX8_isTold_20 : decode cX8_isTold 20 = .ok (.iaload, 1) := by decide +kernel
theorem dX8_isTold_21 : decode cX8_isTold 21 = .ok (.iadd, 1) := by decide +kernel
theorem dX8_isTold_22 : decode cX8_isTold 22 = .ok (.if_icmp .ge 48, 3) := by decide +kernel
theorem dX8_isTold_25 : decode cX8_isTold 25 = .ok (.iload 5, 2) := by decide +kernel
theorem dX8_isTold_27 : decode cX8_isTold 27 = .ok (.ifCond .eq 34, 3) := by decide +kernel
theorem dX8_isTold_30 : decode cX8_isTold 30 = .ok (.aload_n 0, 1) := by decide +kernel
theorem dX8_isTold_31 : decode cX8_isTold 31 = .ok (.iload_n 1, 1) := by decide +kernel
theorem dX8_isTold_32 : decode cX8_isTold 32 = .ok (.iload_n 3, 1) := by decide +kernel
theorem dX8_isTold_33 : decode cX8_isTold 33 = .ok (.iload 4, 2) := by decide +kernel
theorem dX8_isTold_35 : decode cX8_isTold 35 = .ok (.aload_n 0, 1) := by decide +kernel
theorem dX8_isTold_36 : decode cX8_isTold 36 = .ok (.getfield 28, 3) := by decide +kernel
theorem dX8_isTold_39 : decode cX8_isTold 39 = .ok (.iload 6, 2) := by decide +kernel
theorem dX8_isTold_41 : decode cX8_isTold 41 = .ok (.iaload, 1) := by decide +kernel
theorem dX8_isTold_42 : decode cX8_isTold 42 = .ok (.invokevirtual 280, 3) := by decide +kernel
theorem dX8_isTold_45 : decode cX8_isTold 45 = .ok (.aload_n 0, 1) := by decide +kernel
theorem dX8_isTold_46 : decode cX8_isTold 46 = .ok (.getfield 28, 3) := by decide +kernel
theorem dX8_isTold_49 : decode cX8_isTold 49 = .ok (.iload 6, 2) := by decide +kernel
theorem dX8_isTold_51 : decode cX8_isTold 51 = .ok (.iconst 1, 1) := by decide +kernel
theorem dX8_isTold_52 : decode cX8_isTold 52 = .ok (.iadd, 1) := by decide +kernel
theorem dX8_isTold_53 : decode cX8_isTold 53 = .ok (.iaload, 1) := by decide +kernel
theorem dX8_isTold_54 : decode cX8_isTold 54 = .ok (.if_icmp .ne 7, 3) := by decide +kernel
theorem dX8_isTold_57 : decode cX8_isTold 57 = .ok (.iconst 1, 1) := by decide +kernel
theorem dX8_isTold_58 : decode cX8_isTold 58 = .ok (.goto 4, 3) := by decide +kernel
theorem dX8_isTold_61 : decode cX8_isTold 61 = .ok (.iconst 0, 1) := by decide +kernel
theorem dX8_isTold_62 : decode cX8_isTold 62 = .ok (.istore 5, 2) := by decide +kernel
theorem dX8_isTold_64 : decode cX8_isTold 64 = .ok (.iinc 6 2, 3) := by decide +kernel
theorem dX8_isTold_67 : decode cX8_isTold 67 = .ok (.goto (-58), 3) := by decide +kernel
theorem dX8_isTold_70 : decode cX8_isTold 70 = .ok (.iload 5, 2) := by decide +kernel
theorem dX8_isTold_72 : decode cX8_isTold 72 = .ok (.ireturn, 1) := by decide +kernel
theorem dX8_hands_0 : decode cX8_hands 0 = .ok (.aload_n 0, 1) := by decide +kernel
theorem dX8_hands_1 : decode cX8_hands 1 = .ok (.iload_n 1, 1) := by decide +kernel
theorem dX8_hands_2 : decode cX8_hands 2 = .ok (.invokevirtual 191, 3) := by decide +kernel
theorem dX8_hands_5 : decode cX8_hands 5 = .ok (.ifCond .eq 10, 3) := by decide +kernel
theorem dX8_hands_8 : decode cX8_hands 8 = .ok (.iload_n 2, 1) := by decide +kernel
theorem dX8_hands_9 : decode cX8_hands 9 = .ok (.invokestatic 80, 3) := by decide +kernel
theorem dX8_hands_12 : decode cX8_hands 12 = .ok (.ifCond .ne 5, 3) := by decide +kernel
theorem dX8_hands_15 : decode cX8_hands 15 = .ok (.iconst (-1), 1) := by decide +kernel
theorem dX8_hands_16 : decode cX8_hands 16 = .ok (.ireturn, 1) := by decide +kernel
theorem dX8_hands_17 : decode cX8_hands 17 = .ok (.aload_n 0, 1) := by decide +kernel
theorem dX8_hands_18 : decode cX8_hands 18 = .ok (.iload_n 2, 1) := by decide +kernel
theorem dX8_hands_19 : decode cX8_hands 19 = .ok (.bipush 30, 2) := by decide +kernel
theorem dX8_hands_21 : decode cX8_hands 21 = .ok (.invokevirtual 268, 3) := by decide +kernel
theorem dX8_hands_24 : decode cX8_hands 24 = .ok (.istore_n 3, 1) := by decide +kernel
theorem dX8_hands_25 : decode cX8_hands 25 = .ok (.iload_n 3, 1) := by decide +kernel
theorem dX8_hands_26 : decode cX8_hands 26 = .ok (.ifCond .eq 5, 3) := by decide +kernel
theorem dX8_hands_29 : decode cX8_hands 29 = .ok (.iload_n 3, 1) := by decide +kernel
theorem dX8_hands_30 : decode cX8_hands 30 = .ok (.ireturn, 1) := by decide +kernel
theorem dX8_hands_31 : decode cX8_hands 31 = .ok (.iconst 0, 1) := by decide +kernel
theorem dX8_hands_32 : decode cX8_hands 32 = .ok (.istore 4, 2) := by decide +kernel
theorem dX8_hands_34 : decode cX8_hands 34 = .ok (.iconst 0, 1) := by decide +kernel
theorem dX8_hands_35 : decode cX8_hands 35 = .ok (.istore 5, 2) := by decide +kernel
theorem dX8_hands_37 : decode cX8_hands 37 = .ok (.iload 5, 2) := by decide +kernel
theorem dX8_hands_39 : decode cX8_hands 39 = .ok (.bipush 10, 2) := by decide +kernel
theorem dX8_hands_41 : decode cX8_hands 41 = .ok (.if_icmp .ge 39, 3) := by decide +kernel
theorem dX8_hands_44 : decode cX8_hands 44 = .ok (.iload 4, 2) := by decide +kernel
theorem dX8_hands_46 : decode cX8_hands 46 = .ok (.aload_n 0, 1) := by decide +kernel
theorem dX8_hands_47 : decode cX8_hands 47 = .ok (.iload_n 1, 1) := by decide +kernel
theorem dX8_hands_48 : decode cX8_hands 48 = .ok (.iload_n 2, 1) := by decide +kernel
theorem dX8_hands_49 : decode cX8_hands 49 = .ok (.aload_n 0, 1) := by decide +kernel
theorem dX8_hands_50 : decode cX8_hands 50 = .ok (.getfield 13, 3) := by decide +kernel
theorem dX8_hands_53 : decode cX8_hands 53 = .ok (.iload_n 1, 1) := by decide +kernel
theorem dX8_hands_54 : decode cX8_hands 54 = .ok (.iaload, 1) := by decide +kernel
theorem dX8_hands_55 : decode cX8_hands 55 = .ok (.iload 5, 2) := by decide +kernel
theorem dX8_hands_57 : decode cX8_hands 57 = .ok (.invokevirtual 283, 3) := by decide +kernel
theorem dX8_hands_60 : decode cX8_hands 60 = .ok (.ifCond .eq 10, 3) := by decide +kernel
theorem dX8_hands_63 : decode cX8_hands 63 = .ok (.iconst 1, 1) := by decide +kernel
theorem dX8_hands_64 : decode cX8_hands 64 = .ok (.iload 5, 2) := by decide +kernel
theorem dX8_hands_66 : decode cX8_hands 66 = .ok (.ishl, 1) := by decide +kernel
theorem dX8_hands_67 : decode cX8_hands 67 = .ok (.goto 4, 3) := by decide +kernel
theorem dX8_hands_70 : decode cX8_hands 70 = .ok (.iconst 0, 1) := by decide +kernel
theorem dX8_hands_71 : decode cX8_hands 71 = .ok (.ior, 1) := by decide +kernel
theorem dX8_hands_72 : decode cX8_hands 72 = .ok (.istore 4, 2) := by decide +kernel
theorem dX8_hands_74 : decode cX8_hands 74 = .ok (.iinc 5 1, 3) := by decide +kernel
theorem dX8_hands_77 : decode cX8_hands 77 = .ok (.goto (-40), 3) := by decide +kernel
theorem dX8_hands_80 : decode cX8_hands 80 = .ok (.iload 4, 2) := by decide +kernel
theorem dX8_hands_82 : decode cX8_hands 82 = .ok (.ireturn, 1) := by decide +kernel
theorem dX8_kinds_0 : decode cX8_kinds 0 = .ok (.aload_n 0, 1) := by decide +kernel
theorem dX8_kinds_1 : decode cX8_kinds 1 = .ok (.iload_n 1, 1) := by decide +kernel
theorem dX8_kinds_2 : decode cX8_kinds 2 = .ok (.invokevirtual 191, 3) := by decide +kernel
theorem dX8_kinds_5 : decode cX8_kinds 5 = .ok (.ifCond .eq 10, 3) := by decide +kernel
theorem dX8_kinds_8 : decode cX8_kinds 8 = .ok (.iload_n 2, 1) := by decide +kernel
theorem dX8_kinds_9 : decode cX8_kinds 9 = .ok (.invokestatic 80, 3) := by decide +kernel
theorem dX8_kinds_12 : decode cX8_kinds 12 = .ok (.ifCond .ne 5, 3) := by decide +kernel
theorem dX8_kinds_15 : decode cX8_kinds 15 = .ok (.iconst (-1), 1) := by decide +kernel
theorem dX8_kinds_16 : decode cX8_kinds 16 = .ok (.ireturn, 1) := by decide +kernel
theorem dX8_kinds_17 : decode cX8_kinds 17 = .ok (.aload_n 0, 1) := by decide +kernel
theorem dX8_kinds_18 : decode cX8_kinds 18 = .ok (.iload_n 2, 1) := by decide +kernel
theorem dX8_kinds_19 : decode cX8_kinds 19 = .ok (.bipush 30, 2) := by decide +kernel
theorem dX8_kinds_21 : decode cX8_kinds 21 = .ok (.invokevirtual 268, 3) := by decide +kernel
theorem dX8_kinds_24 : decode cX8_kinds 24 = .ok (.istore_n 3, 1) := by decide +kernel
theorem dX8_kinds_25 : decode cX8_kinds 25 = .ok (.iload_n 3, 1) := by decide +kernel
theorem dX8_kinds_26 : decode cX8_kinds 26 = .ok (.ifCond .eq 5, 3) := by decide +kernel
theorem dX8_kinds_29 : decode cX8_kinds 29 = .ok (.iload_n 3, 1) := by decide +kernel
theorem dX8_kinds_30 : decode cX8_kinds 30 = .ok (.ireturn, 1) := by decide +kernel
theorem dX8_kinds_31 : decode cX8_kinds 31 = .ok (.iconst 0, 1) := by decide +kernel
theorem dX8_kinds_32 : decode cX8_kinds 32 = .ok (.istore 4, 2) := by decide +kernel
theorem dX8_kinds_34 : decode cX8_kinds 34 = .ok (.iconst 0, 1) := by decide +kernel
theorem dX8_kinds_35 : decode cX8_kinds 35 = .ok (.istore 5, 2) := by decide +kernel
theorem dX8_kinds_37 : decode cX8_kinds 37 = .ok (.iload 5, 2) := by decide +kernel
theorem dX8_kinds_39 : decode cX8_kinds 39 = .ok (.bipush 6, 2) := by decide +kernel
theorem dX8_kinds_41 : decode cX8_kinds 41 = .ok (.if_icmp .ge 39, 3) := by decide +kernel
theorem dX8_kinds_44 : decode cX8_kinds 44 = .ok (.iload 4, 2) := by decide +kernel
theorem dX8_kinds_46 : decode cX8_kinds 46 = .ok (.aload_n 0, 1) := by decide +kernel
theorem dX8_kinds_47 : decode cX8_kinds 47 = .ok (.iload_n 1, 1) := by decide +kernel
theorem dX8_kinds_48 : decode cX8_kinds 48 = .ok (.iload_n 2, 1) := by decide +kernel
theorem dX8_kinds_49 : decode cX8_kinds 49 = .ok (.iload 5, 2) := by decide +kernel
theorem dX8_kinds_51 : decode cX8_kinds 51 = .ok (.aload_n 0, 1) := by decide +kernel
theorem dX8_kinds_52 : decode cX8_kinds 52 = .ok (.getfield 22, 3) := by decide +kernel
theorem dX8_kinds_55 : decode cX8_kinds 55 = .ok (.iload_n 1, 1) := by decide +kernel
theorem dX8_kinds_56 : decode cX8_kinds 56 = .ok (.iaload, 1) := by decide +kernel
theorem dX8_kinds_57 : decode cX8_kinds 57 = .ok (.invokevirtual 283, 3) := by decide +kernel
theorem dX8_kinds_60 : decode cX8_kinds 60 = .ok (.ifCond .eq 10, 3) := by decide +kernel
theorem dX8_kinds_63 : decode cX8_kinds 63 = .ok (.iconst 1, 1) := by decide +kernel
theorem dX8_kinds_64 : decode cX8_kinds 64 = .ok (.iload 5, 2) := by decide +kernel
theorem dX8_kinds_66 : decode cX8_kinds 66 = .ok (.ishl, 1) := by decide +kernel
theorem dX8_kinds_67 : decode cX8_kinds 67 = .ok (.goto 4, 3) := by decide +kernel
theorem dX8_kinds_70 : decode cX8_kinds 70 = .ok (.iconst 0, 1) := by decide +kernel
theorem dX8_kinds_71 : decode cX8_kinds 71 = .ok (.ior, 1) := by decide +kernel
theorem dX8_kinds_72 : decode cX8_kinds 72 = .ok (.istore 4, 2) := by decide +kernel
theorem dX8_kinds_74 : decode cX8_kinds 74 = .ok (.iinc 5 1, 3) := by decide +kernel
theorem dX8_kinds_77 : decode cX8_kinds 77 = .ok (.goto (-40), 3) := by decide +kernel
theorem dX8_kinds_80 : decode cX8_kinds 80 = .ok (.iload 4, 2) := by decide +kernel
theorem dX8_kinds_82 : decode cX8_kinds 82 = .ok (.ireturn, 1) := by decide +kernel
theorem dX8_foulBy_0 : decode cX8_foulBy 0 = .ok (.iconst 0, 1) := by decide +kernel
theorem dX8_foulBy_1 : decode cX8_foulBy 1 = .ok (.istore_n 2, 1) := by decide +kernel
theorem dX8_foulBy_2 : decode cX8_foulBy 2 = .ok (.iconst 0, 1) := by decide +kernel
theorem dX8_foulBy_3 : decode cX8_foulBy 3 = .ok (.istore_n 3, 1) := by decide +kernel
theorem dX8_foulBy_4 : decode cX8_foulBy 4 = .ok (.iload_n 3, 1) := by decide +kernel
theorem dX8_foulBy_5 : decode cX8_foulBy 5 = .ok (.aload_n 0, 1) := by decide +kernel
theorem dX8_foulBy_6 : decode cX8_foulBy 6 = .ok (.getfield 157, 3) := by decide +kernel
theorem dX8_foulBy_9 : decode cX8_foulBy 9 = .ok (.if_icmp .ge 35, 3) := by decide +kernel
theorem dX8_foulBy_12 : decode cX8_foulBy 12 = .ok (.iload_n 2, 1) := by decide +kernel
theorem dX8_foulBy_13 : decode cX8_foulBy 13 = .ok (.aload_n 0, 1) := by decide +kernel
theorem dX8_foulBy_14 : decode cX8_foulBy 14 = .ok (.iload_n 3, 1) := by decide +kernel
theorem dX8_foulBy_15 : decode cX8_foulBy 15 = .ok (.invokevirtual 219, 3) := by decide +kernel
theorem dX8_foulBy_18 : decode cX8_foulBy 18 = .ok (.ifCond .ne 17, 3) := by decide +kernel
theorem dX8_foulBy_21 : decode cX8_foulBy 21 = .ok (.aload_n 0, 1) := by decide +kernel
theorem dX8_foulBy_22 : decode cX8_foulBy 22 = .ok (.iconst 0, 1) := by decide +kernel
theorem dX8_foulBy_23 : decode cX8_foulBy 23 = .ok (.iload_n 3, 1) := by decide +kernel
theorem dX8_foulBy_24 : decode cX8_foulBy 24 = .ok (.iload_n 1, 1) := by decide +kernel
theorem dX8_foulBy_25 : decode cX8_foulBy 25 = .ok (.invokevirtual 222, 3) := by decide +kernel
theorem dX8_foulBy_28 : decode cX8_foulBy 28 = .ok (.ifCond .ne 7, 3) := by decide +kernel
theorem dX8_foulBy_31 : decode cX8_foulBy 31 = .ok (.iconst 1, 1) := by decide +kernel
theorem dX8_foulBy_32 : decode cX8_foulBy 32 = .ok (.goto 4, 3) := by decide +kernel
theorem dX8_foulBy_35 : decode cX8_foulBy 35 = .ok (.iconst 0, 1) := by decide +kernel
theorem dX8_foulBy_36 : decode cX8_foulBy 36 = .ok (.iadd, 1) := by decide +kernel
theorem dX8_foulBy_37 : decode cX8_foulBy 37 = .ok (.istore_n 2, 1) := by decide +kernel
theorem dX8_foulBy_38 : decode cX8_foulBy 38 = .ok (.iinc 3 1, 3) := by decide +kernel
theorem dX8_foulBy_41 : decode cX8_foulBy 41 = .ok (.goto (-37), 3) := by decide +kernel
theorem dX8_foulBy_44 : decode cX8_foulBy 44 = .ok (.iload_n 2, 1) := by decide +kernel
theorem dX8_foulBy_45 : decode cX8_foulBy 45 = .ok (.ireturn, 1) := by decide +kernel
theorem dX8_duel_0 : decode cX8_duel 0 = .ok (.iload_n 1, 1) := by decide +kernel
theorem dX8_duel_1 : decode cX8_duel 1 = .ok (.i2l, 1) := by decide +kernel
theorem dX8_duel_2 : decode cX8_duel 2 = .ok (.lconst 0, 1) := by decide +kernel
theorem dX8_duel_3 : decode cX8_duel 3 = .ok (.ldc2_w 287, 3) := by decide +kernel
theorem dX8_duel_6 : decode cX8_duel 6 = .ok (.invokestatic 74, 3) := by decide +kernel
theorem dX8_duel_9 : decode cX8_duel 9 = .ok (.ifCond .ne 5, 3) := by decide +kernel
theorem dX8_duel_12 : decode cX8_duel 12 = .ok (.iconst (-1), 1) := by decide +kernel
theorem dX8_duel_13 : decode cX8_duel 13 = .ok (.ireturn, 1) := by decide +kernel
theorem dX8_duel_14 : decode cX8_duel 14 = .ok (.aload_n 0, 1) := by decide +kernel
theorem dX8_duel_15 : decode cX8_duel 15 = .ok (.getfield 157, 3) := by decide +kernel
theorem dX8_duel_18 : decode cX8_duel 18 = .ok (.ifCond .ne 6, 3) := by decide +kernel
theorem dX8_duel_21 : decode cX8_duel 21 = .ok (.bipush (-4), 2) := by decide +kernel
theorem dX8_duel_23 : decode cX8_duel 23 = .ok (.ireturn, 1) := by decide +kernel
theorem dX8_duel_24 : decode cX8_duel 24 = .ok (.iconst 0, 1) := by decide +kernel
theorem dX8_duel_25 : decode cX8_duel 25 = .ok (.istore_n 2, 1) := by decide +kernel
theorem dX8_duel_26 : decode cX8_duel 26 = .ok (.iload_n 2, 1) := by decide +kernel
theorem dX8_duel_27 : decode cX8_duel 27 = .ok (.bipush 31, 2) := by decide +kernel
theorem dX8_duel_29 : decode cX8_duel 29 = .ok (.if_icmp .ge 20, 3) := by decide +kernel
theorem dX8_duel_32 : decode cX8_duel 32 = .ok (.aload_n 0, 1) := by decide +kernel
theorem dX8_duel_33 : decode cX8_duel 33 = .ok (.getfield 56, 3) := by decide +kernel
theorem dX8_duel_36 : decode cX8_duel 36 = .ok (.iload_n 2, 1) := by decide +kernel
theorem dX8_duel_37 : decode cX8_duel 37 = .ok (.aload_n 0, 1) := by decide +kernel
theorem dX8_duel_38 : decode cX8_duel 38 = .ok (.iload_n 2, 1) := by decide +kernel
theorem dX8_duel_39 : decode cX8_duel 39 = .ok (.invokevirtual 289, 3) := by decide +kernel
theorem dX8_duel_42 : decode cX8_duel 42 = .ok (.iastore, 1) := by decide +kernel
theorem dX8_duel_43 : decode cX8_duel 43 = .ok (.iinc 2 1, 3) := by decide +kernel
theorem dX8_duel_46 : decode cX8_duel 46 = .ok (.goto (-20), 3) := by decide +kernel
theorem dX8_duel_49 : decode cX8_duel 49 = .ok (.iload_n 1, 1) := by decide +kernel
theorem dX8_duel_50 : decode cX8_duel 50 = .ok (.iconst 1, 1) := by decide +kernel
theorem dX8_duel_51 : decode cX8_duel 51 = .ok (.isub, 1) := by decide +kernel
theorem dX8_duel_52 : decode cX8_duel 52 = .ok (.istore_n 2, 1) := by decide +kernel
theorem dX8_duel_53 : decode cX8_duel 53 = .ok (.iload_n 2, 1) := by decide +kernel
theorem dX8_duel_54 : decode cX8_duel 54 = .ok (.ifCond .lt 134, 3) := by decide +kernel
theorem dX8_duel_57 : decode cX8_duel 57 = .ok (.iconst 0, 1) := by decide +kernel
theorem dX8_duel_58 : decode cX8_duel 58 = .ok (.istore_n 3, 1) := by decide +kernel
theorem dX8_duel_59 : decode cX8_duel 59 = .ok (.iload_n 3, 1) := by decide +kernel
theorem dX8_duel_60 : decode cX8_duel 60 = .ok (.bipush 31, 2) := by decide +kernel
theorem dX8_duel_62 : decode cX8_duel 62 = .ok (.if_icmp .ge 94, 3) := by decide +kernel
theorem dX8_duel_65 : decode cX8_duel 65 = .ok (.aload_n 0, 1) := by decide +kernel
theorem dX8_duel_66 : decode cX8_duel 66 = .ok (.getfield 56, 3) := by decide +kernel
theorem dX8_duel_69 : decode cX8_duel 69 = .ok (.iload_n 3, 1) := by decide +kernel
theorem dX8_duel_70 : decode cX8_duel 70 = .ok (.iaload, 1) := by decide +kernel
theorem dX8_duel_71 : decode cX8_duel 71 = .ok (.istore 4, 2) := by decide +kernel
theorem dX8_duel_73 : decode cX8_duel 73 = .ok (.bipush (-3), 2) := by decide +kernel
theorem dX8_duel_75 : decode cX8_duel 75 = .ok (.istore 5, 2) := by decide +kernel
theorem dX8_duel_77 : decode cX8_duel 77 = .ok (.iload 5, 2) := by decide +kernel
theorem dX8_duel_79 : decode cX8_duel 79 = .ok (.iconst 4, 1) := by decide +kernel
theorem dX8_duel_80 : decode cX8_duel 80 = .ok (.if_icmp .ge 62, 3) := by decide +kernel
theorem dX8_duel_83 : decode cX8_duel 83 = .ok (.aload_n 0, 1) := by decide +kernel
theorem dX8_duel_84 : decode cX8_duel 84 = .ok (.getfield 56, 3) := by decide +kernel
theorem dX8_duel_87 : decode cX8_duel 87 = .ok (.iload_n 3, 1) := by decide +kernel
theorem dX8_duel_88 : decode cX8_duel 88 = .ok (.iload 5, 2) := by decide +kernel
theorem dX8_duel_90 : decode cX8_duel 90 = .ok (.iadd, 1) := by decide +kernel
theorem dX8_duel_91 : decode cX8_duel 91 = .ok (.invokestatic 213, 3) := by decide +kernel
theorem dX8_duel_94 : decode cX8_duel 94 = .ok (.iaload, 1) := by decide +kernel
theorem dX8_duel_95 : decode cX8_duel 95 = .ok (.istore 6, 2) := by decide +kernel
theorem dX8_duel_97 : decode cX8_duel 97 = .ok (.iload_n 2, 1) := by decide +kernel
theorem dX8_duel_98 : decode cX8_duel 98 = .ok (.iconst 2, 1) := by decide +kernel
theorem dX8_duel_99 : decode cX8_duel 99 = .ok (.irem, 1) := by decide +kernel
theorem dX8_duel_100 : decode cX8_duel 100 = .ok (.ifCond .ne 20, 3) := by decide +kernel
theorem dX8_duel_103 : decode cX8_duel 103 = .ok (.iload 6, 2) := by decide +kernel
theorem dX8_duel_105 : decode cX8_duel 105 = .ok (.iload 4, 2) := by decide +kernel
theorem dX8_duel_107 : decode cX8_duel 107 = .ok (.if_icmp .ge 8, 3) := by decide +kernel
theorem dX8_duel_110 : decode cX8_duel 110 = .ok (.iload 6, 2) := by decide +kernel
theorem dX8_duel_112 : decode cX8_duel 112 = .ok (.goto 22, 3) := by decide +kernel
theorem dX8_duel_115 : decode cX8_duel 115 = .ok (.iload 4, 2) := by decide +kernel
theorem dX8_duel_117 : decode cX8_duel 117 = .ok (.goto 17, 3) := by decide +kernel
theorem dX8_duel_120 : decode cX8_duel 120 = .ok (.iload 6, 2) := by decide +kernel
theorem dX8_duel_122 : decode cX8_duel 122 = .ok (.iload 4, 2) := by decide +kernel
theorem dX8_duel_124 : decode cX8_duel 124 = .ok (.if_icmp .le 8, 3) := by decide +kernel
theorem dX8_duel_127 : decode cX8_duel 127 = .ok (.iload 6, 2) := by decide +kernel
theorem dX8_duel_129 : decode cX8_duel 129 = .ok (.goto 5, 3) := by decide +kernel
theorem dX8_duel_132 : decode cX8_duel 132 = .ok (.iload 4, 2) := by decide +kernel
theorem dX8_duel_134 : decode cX8_duel 134 = .ok (.istore 4, 2) := by decide +kernel
theorem dX8_duel_136 : decode cX8_duel 136 = .ok (.iinc 5 1, 3) := by decide +kernel
theorem dX8_duel_139 : decode cX8_duel 139 = .ok (.goto (-62), 3) := by decide +kernel
theorem dX8_duel_142 : decode cX8_duel 142 = .ok (.aload_n 0, 1) := by decide +kernel
theorem dX8_duel_143 : decode cX8_duel 143 = .ok (.getfield 59, 3) := by decide +kernel
theorem dX8_duel_146 : decode cX8_duel 146 = .ok (.iload_n 3, 1) := by decide +kernel
theorem dX8_duel_147 : decode cX8_duel 147 = .ok (.iload 4, 2) := by decide +kernel
theorem dX8_duel_149 : decode cX8_duel 149 = .ok (.iastore, 1) := by decide +kernel
theorem dX8_duel_150 : decode cX8_duel 150 = .ok (.iinc 3 1, 3) := by decide +kernel
theorem dX8_duel_153 : decode cX8_duel 153 = .ok (.goto (-94), 3) := by decide +kernel
theorem dX8_duel_156 : decode cX8_duel 156 = .ok (.iconst 0, 1) := by decide +kernel
theorem dX8_duel_157 : decode cX8_duel 157 = .ok (.istore_n 3, 1) := by decide +kernel
theorem dX8_duel_158 : decode cX8_duel 158 = .ok (.iload_n 3, 1) := by decide +kernel
theorem dX8_duel_159 : decode cX8_duel 159 = .ok (.bipush 31, 2) := by decide +kernel
theorem dX8_duel_161 : decode cX8_duel 161 = .ok (.if_icmp .ge 21, 3) := by decide +kernel
theorem dX8_duel_164 : decode cX8_duel 164 = .ok (.aload_n 0, 1) := by decide +kernel
theorem dX8_duel_165 : decode cX8_duel 165 = .ok (.getfield 56, 3) := by decide +kernel
theorem dX8_duel_168 : decode cX8_duel 168 = .ok (.iload_n 3, 1) := by decide +kernel
theorem dX8_duel_169 : decode cX8_duel 169 = .ok (.aload_n 0, 1) := by decide +kernel
theorem dX8_duel_170 : decode cX8_duel 170 = .ok (.getfield 59, 3) := by decide +kernel
theorem dX8_duel_173 : decode cX8_duel 173 = .ok (.iload_n 3, 1) := by decide +kernel
theorem dX8_duel_174 : decode cX8_duel 174 = .ok (.iaload, 1) := by decide +kernel
theorem dX8_duel_175 : decode cX8_duel 175 = .ok (.iastore, 1) := by decide +kernel
theorem dX8_duel_176 : decode cX8_duel 176 = .ok (.iinc 3 1, 3) := by decide +kernel
theorem dX8_duel_179 : decode cX8_duel 179 = .ok (.goto (-21), 3) := by decide +kernel
theorem dX8_duel_182 : decode cX8_duel 182 = .ok (.iinc 2 (-1), 3) := by decide +kernel
theorem dX8_duel_185 : decode cX8_duel 185 = .ok (.goto (-132), 3) := by decide +kernel
theorem dX8_duel_188 : decode cX8_duel 188 = .ok (.aload_n 0, 1) := by decide +kernel
theorem dX8_duel_189 : decode cX8_duel 189 = .ok (.getfield 56, 3) := by decide +kernel
theorem dX8_duel_192 : decode cX8_duel 192 = .ok (.aload_n 0, 1) := by decide +kernel
theorem dX8_duel_193 : decode cX8_duel 193 = .ok (.getfield 7, 3) := by decide +kernel
theorem dX8_duel_196 : decode cX8_duel 196 = .ok (.iconst 1, 1) := by decide +kernel
theorem dX8_duel_197 : decode cX8_duel 197 = .ok (.iaload, 1) := by decide +kernel
theorem dX8_duel_198 : decode cX8_duel 198 = .ok (.iaload, 1) := by decide +kernel
theorem dX8_duel_199 : decode cX8_duel 199 = .ok (.ireturn, 1) := by decide +kernel
theorem dX8_cleanWays_0 : decode cX8_cleanWays 0 = .ok (.aload_n 0, 1) := by decide +kernel
theorem dX8_cleanWays_1 : decode cX8_cleanWays 1 = .ok (.iload_n 1, 1) := by decide +kernel
theorem dX8_cleanWays_2 : decode cX8_cleanWays 2 = .ok (.aload_n 0, 1) := by decide +kernel
theorem dX8_cleanWays_3 : decode cX8_cleanWays 3 = .ok (.getfield 7, 3) := by decide +kernel
theorem dX8_cleanWays_6 : decode cX8_cleanWays 6 = .ok (.iconst 1, 1) := by decide +kernel
theorem dX8_cleanWays_7 : decode cX8_cleanWays 7 = .ok (.iaload, 1) := by decide +kernel
theorem dX8_cleanWays_8 : decode cX8_cleanWays 8 = .ok (.invokevirtual 179, 3) := by decide +kernel
theorem dX8_cleanWays_11 : decode cX8_cleanWays 11 = .ok (.istore_n 3, 1) := by decide +kernel
theorem dX8_cleanWays_12 : decode cX8_cleanWays 12 = .ok (.iload_n 3, 1) := by decide +kernel
theorem dX8_cleanWays_13 : decode cX8_cleanWays 13 = .ok (.iconst 3, 1) := by decide +kernel
theorem dX8_cleanWays_14 : decode cX8_cleanWays 14 = .ok (.iadd, 1) := by decide +kernel
theorem dX8_cleanWays_15 : decode cX8_cleanWays 15 = .ok (.aload_n 0, 1) := by decide +kernel
theorem dX8_cleanWays_16 : decode cX8_cleanWays 16 = .ok (.iconst 0, 1) := by decide +kernel
theorem dX8_cleanWays_17 : decode cX8_cleanWays 17 = .ok (.iload_n 1, 1) := by decide +kernel
theorem dX8_cleanWays_18 : decode cX8_cleanWays 18 = .ok (.invokevirtual 182, 3) := by decide +kernel
theorem dX8_cleanWays_21 : decode cX8_cleanWays 21 = .ok (.if_icmp .gt 7, 3) := by decide +kernel
theorem dX8_cleanWays_24 : decode cX8_cleanWays 24 = .ok (.iload_n 2, 1) := by decide +kernel
theorem dX8_cleanWays_25 : decode cX8_cleanWays 25 = .ok (.goto 4, 3) := by decide +kernel
theorem dX8_cleanWays_28 : decode cX8_cleanWays 28 = .ok (.iconst 0, 1) := by decide +kernel
theorem dX8_cleanWays_29 : decode cX8_cleanWays 29 = .ok (.iload_n 3, 1) := by decide +kernel
theorem dX8_cleanWays_30 : decode cX8_cleanWays 30 = .ok (.aload_n 0, 1) := by decide +kernel
theorem dX8_cleanWays_31 : decode cX8_cleanWays 31 = .ok (.iconst 0, 1) := by decide +kernel
theorem dX8_cleanWays_32 : decode cX8_cleanWays 32 = .ok (.iload_n 1, 1) := by decide +kernel
theorem dX8_cleanWays_33 : decode cX8_cleanWays 33 = .ok (.invokevirtual 182, 3) := by decide +kernel
theorem dX8_cleanWays_36 : decode cX8_cleanWays 36 = .ok (.if_icmp .gt 10, 3) := by decide +kernel
theorem dX8_cleanWays_39 : decode cX8_cleanWays 39 = .ok (.bipush 12, 2) := by decide +kernel
theorem dX8_cleanWays_41 : decode cX8_cleanWays 41 = .ok (.iload_n 2, 1) := by decide +kernel
theorem dX8_cleanWays_42 : decode cX8_cleanWays 42 = .ok (.isub, 1) := by decide +kernel
theorem dX8_cleanWays_43 : decode cX8_cleanWays 43 = .ok (.goto 4, 3) := by decide +kernel
theorem dX8_cleanWays_46 : decode cX8_cleanWays 46 = .ok (.iconst 0, 1) := by decide +kernel
theorem dX8_cleanWays_47 : decode cX8_cleanWays 47 = .ok (.iadd, 1) := by decide +kernel
theorem dX8_cleanWays_48 : decode cX8_cleanWays 48 = .ok (.ireturn, 1) := by decide +kernel
theorem dX8_isHere_0 : decode cX8_isHere 0 = .ok (.aload_n 0, 1) := by decide +kernel
theorem dX8_isHere_1 : decode cX8_isHere 1 = .ok (.iload_n 1, 1) := by decide +kernel
theorem dX8_isHere_2 : decode cX8_isHere 2 = .ok (.invokevirtual 219, 3) := by decide +kernel
theorem dX8_isHere_5 : decode cX8_isHere 5 = .ok (.ifCond .ne 21, 3) := by decide +kernel
theorem dX8_isHere_8 : decode cX8_isHere 8 = .ok (.aload_n 0, 1) := by decide +kernel
theorem dX8_isHere_9 : decode cX8_isHere 9 = .ok (.iload_n 1, 1) := by decide +kernel
theorem dX8_isHere_10 : decode cX8_isHere 10 = .ok (.aload_n 0, 1) := by decide +kernel
theorem dX8_isHere_11 : decode cX8_isHere 11 = .ok (.getfield 7, 3) := by decide +kernel
theorem dX8_isHere_14 : decode cX8_isHere 14 = .ok (.iconst 1, 1) := by decide +kernel
theorem dX8_isHere_15 : decode cX8_isHere 15 = .ok (.iaload, 1) := by decide +kernel
theorem dX8_isHere_16 : decode cX8_isHere 16 = .ok (.invokevirtual 185, 3) := by decide +kernel
theorem dX8_isHere_19 : decode cX8_isHere 19 = .ok (.ifCond .eq 7, 3) := by decide +kernel
theorem dX8_isHere_22 : decode cX8_isHere 22 = .ok (.iconst 1, 1) := by decide +kernel
theorem dX8_isHere_23 : decode cX8_isHere 23 = .ok (.goto 4, 3) := by decide +kernel
theorem dX8_isHere_26 : decode cX8_isHere 26 = .ok (.iconst 0, 1) := by decide +kernel
theorem dX8_isHere_27 : decode cX8_isHere 27 = .ok (.ireturn, 1) := by decide +kernel
theorem dX8_odds_0 : decode cX8_odds 0 = .ok (.iload_n 1, 1) := by decide +kernel
theorem dX8_odds_1 : decode cX8_odds 1 = .ok (.i2l, 1) := by decide +kernel
theorem dX8_odds_2 : decode cX8_odds 2 = .ok (.lconst 0, 1) := by decide +kernel
theorem dX8_odds_3 : decode cX8_odds 3 = .ok (.ldc2_w 292, 3) := by decide +kernel
theorem dX8_odds_6 : decode cX8_odds 6 = .ok (.invokestatic 74, 3) := by decide +kernel
theorem dX8_odds_9 : decode cX8_odds 9 = .ok (.ifCond .ne 5, 3) := by decide +kernel
theorem dX8_odds_12 : decode cX8_odds 12 = .ok (.iconst (-1), 1) := by decide +kernel
theorem dX8_odds_13 : decode cX8_odds 13 = .ok (.ireturn, 1) := by decide +kernel
theorem dX8_odds_14 : decode cX8_odds 14 = .ok (.aload_n 0, 1) := by decide +kernel
theorem dX8_odds_15 : decode cX8_odds 15 = .ok (.getfield 157, 3) := by decide +kernel
theorem dX8_odds_18 : decode cX8_odds 18 = .ok (.ifCond .ne 6, 3) := by decide +kernel
theorem dX8_odds_21 : decode cX8_odds 21 = .ok (.bipush (-4), 2) := by decide +kernel
theorem dX8_odds_23 : decode cX8_odds 23 = .ok (.ireturn, 1) := by decide +kernel
theorem dX8_odds_24 : decode cX8_odds 24 = .ok (.lconst 1, 1) := by decide +kernel
theorem dX8_odds_25 : decode cX8_odds 25 = .ok (.lstore_n 2, 1) := by decide +kernel
theorem dX8_odds_26 : decode cX8_odds 26 = .ok (.lconst 1, 1) := by decide +kernel
theorem dX8_odds_27 : decode cX8_odds 27 = .ok (.lstore 4, 2) := by decide +kernel
theorem dX8_odds_29 : decode cX8_odds 29 = .ok (.iconst 0, 1) := by decide +kernel
theorem dX8_odds_30 : decode cX8_odds 30 = .ok (.istore 6, 2) := by decide +kernel
theorem dX8_odds_32 : decode cX8_odds 32 = .ok (.iload 6, 2) := by decide +kernel
theorem dX8_odds_34 : decode cX8_odds 34 = .ok (.aload_n 0, 1) := by decide +kernel
theorem dX8_odds_35 : decode cX8_odds 35 = .ok (.getfield 157, 3) := by decide +kernel
theorem dX8_odds_38 : decode cX8_odds 38 = .ok (.if_icmp .ge 47, 3) := by decide +kernel
theorem dX8_odds_41 : decode cX8_odds 41 = .ok (.aload_n 0, 1) := by decide +kernel
theorem dX8_odds_42 : decode cX8_odds 42 = .ok (.iload 6, 2) := by decide +kernel
theorem dX8_odds_44 : decode cX8_odds 44 = .ok (.invokevirtual 294, 3) := by decide +kernel
theorem dX8_odds_47 : decode cX8_odds 47 = .ok (.ifCond .eq 32, 3) := by decide +kernel
theorem dX8_odds_50 : decode cX8_odds 50 = .ok (.aload_n 0, 1) := by decide +kernel
theorem dX8_odds_51 : decode cX8_odds 51 = .ok (.getfield 16, 3) := by decide +kernel
theorem dX8_odds_54 : decode cX8_odds 54 = .ok (.iload 6, 2) := by decide +kernel
theorem dX8_odds_56 : decode cX8_odds 56 = .ok (.iaload, 1) := by decide +kernel
theorem dX8_odds_57 : decode cX8_odds 57 = .ok (.ifCond .ne 22, 3) := by decide +kernel
theorem dX8_odds_60 : decode cX8_odds 60 = .ok (.lload_n 2, 1) := by decide +kernel
theorem dX8_odds_61 : decode cX8_odds 61 = .ok (.aload_n 0, 1) := by decide +kernel
theorem dX8_odds_62 : decode cX8_odds 62 = .ok (.iload 6, 2) := by decide +kernel
theorem dX8_odds_64 : decode cX8_odds 64 = .ok (.iload_n 1, 1) := by decide +kernel
theorem dX8_odds_65 : decode cX8_odds 65 = .ok (.invokevirtual 297, 3) := by decide +kernel
theorem dX8_odds_68 : decode cX8_odds 68 = .ok (.i2l, 1) := by decide +kernel
theorem dX8_odds_69 : decode cX8_odds 69 = .ok (.lmul, 1) := by decide +kernel
theorem dX8_odds_70 : decode cX8_odds 70 = .ok (.lstore_n 2, 1) := by decide +kernel
theorem dX8_odds_71 : decode cX8_odds 71 = .ok (.lload 4, 2) := by decide +kernel
theorem dX8_odds_73 : decode cX8_odds 73 = .ok (.ldc2_w 292, 3) := by decide +kernel
theorem dX8_odds_76 : decode cX8_odds 76 = .ok (.lmul, 1) := by decide +kernel
theorem dX8_odds_77 : decode cX8_odds 77 = .ok (.lstore 4, 2) := by decide +kernel
theorem dX8_odds_79 : decode cX8_odds 79 = .ok (.iinc 6 1, 3) := by decide +kernel
theorem dX8_odds_82 : decode cX8_odds 82 = .ok (.goto (-50), 3) := by decide +kernel
theorem dX8_odds_85 : decode cX8_odds 85 = .ok (.aload_n 0, 1) := by decide +kernel
theorem dX8_odds_86 : decode cX8_odds 86 = .ok (.lload_n 2, 1) := by decide +kernel
theorem dX8_odds_87 : decode cX8_odds 87 = .ok (.lload 4, 2) := by decide +kernel
theorem dX8_odds_89 : decode cX8_odds 89 = .ok (.invokevirtual 246, 3) := by decide +kernel
theorem dX8_odds_92 : decode cX8_odds 92 = .ok (.ireturn, 1) := by decide +kernel
theorem dX8_mid_0 : decode cX8_mid 0 = .ok (.iload_n 1, 1) := by decide +kernel
theorem dX8_mid_1 : decode cX8_mid 1 = .ok (.i2l, 1) := by decide +kernel
theorem dX8_mid_2 : decode cX8_mid 2 = .ok (.lconst 0, 1) := by decide +kernel
theorem dX8_mid_3 : decode cX8_mid 3 = .ok (.ldc2_w 292, 3) := by decide +kernel
theorem dX8_mid_6 : decode cX8_mid 6 = .ok (.invokestatic 74, 3) := by decide +kernel
theorem dX8_mid_9 : decode cX8_mid 9 = .ok (.ifCond .ne 5, 3) := by decide +kernel
theorem dX8_mid_12 : decode cX8_mid 12 = .ok (.iconst (-1), 1) := by decide +kernel
theorem dX8_mid_13 : decode cX8_mid 13 = .ok (.ireturn, 1) := by decide +kernel
theorem dX8_mid_14 : decode cX8_mid 14 = .ok (.aload_n 0, 1) := by decide +kernel
theorem dX8_mid_15 : decode cX8_mid 15 = .ok (.getfield 157, 3) := by decide +kernel
theorem dX8_mid_18 : decode cX8_mid 18 = .ok (.ifCond .ne 6, 3) := by decide +kernel
theorem dX8_mid_21 : decode cX8_mid 21 = .ok (.bipush (-4), 2) := by decide +kernel
theorem dX8_mid_23 : decode cX8_mid 23 = .ok (.ireturn, 1) := by decide +kernel
theorem dX8_mid_24 : decode cX8_mid 24 = .ok (.lconst 0, 1) := by decide +kernel
theorem dX8_mid_25 : decode cX8_mid 25 = .ok (.lstore_n 2, 1) := by decide +kernel
theorem dX8_mid_26 : decode cX8_mid 26 = .ok (.iconst 0, 1) := by decide +kernel
theorem dX8_mid_27 : decode cX8_mid 27 = .ok (.istore 4, 2) := by decide +kernel
theorem dX8_mid_29 : decode cX8_mid 29 = .ok (.iload 4, 2) := by decide +kernel
theorem dX8_mid_31 : decode cX8_mid 31 = .ok (.aload_n 0, 1) := by decide +kernel
theorem dX8_mid_32 : decode cX8_mid 32 = .ok (.getfield 157, 3) := by decide +kernel
theorem dX8_mid_35 : decode cX8_mid 35 = .ok (.if_icmp .ge 33, 3) := by decide +kernel
theorem dX8_mid_38 : decode cX8_mid 38 = .ok (.lload_n 2, 1) := by decide +kernel
theorem dX8_mid_39 : decode cX8_mid 39 = .ok (.aload_n 0, 1) := by decide +kernel
theorem dX8_mid_40 : decode cX8_mid 40 = .ok (.iload 4, 2) := by decide +kernel
theorem dX8_mid_42 : decode cX8_mid 42 = .ok (.invokevirtual 294, 3) := by decide +kernel
theorem dX8_mid_45 : decode cX8_mid 45 = .ok (.ifCond .eq 14, 3) := by decide +kernel
theorem dX8_mid_48 : decode cX8_mid 48 = .ok (.aload_n 0, 1) := by decide +kernel
theorem dX8_mid_49 : decode cX8_mid 49 = .ok (.iload 4, 2) := by decide +kernel
theorem dX8_mid_51 : decode cX8_mid 51 = .ok (.iload_n 1, 1) := by decide +kernel
theorem dX8_mid_52 : decode cX8_mid 52 = .ok (.invokevirtual 297, 3) := by decide +kernel
theorem dX8_mid_55 : decode cX8_mid 55 = .ok (.i2l, 1) := by decide +kernel
theorem dX8_mid_56 : decode cX8_mid 56 = .ok (.goto 4, 3) := by decide +kernel
theorem dX8_mid_59 : decode cX8_mid 59 = .ok (.lconst 0, 1) := by decide +kernel
theorem dX8_mid_60 : decode cX8_mid 60 = .ok (.ladd, 1) := by decide +kernel
theorem dX8_mid_61 : decode cX8_mid 61 = .ok (.lstore_n 2, 1) := by decide +kernel
theorem dX8_mid_62 : decode cX8_mid 62 = .ok (.iinc 4 1, 3) := by decide +kernel
theorem dX8_mid_65 : decode cX8_mid 65 = .ok (.goto (-36), 3) := by decide +kernel
theorem dX8_mid_68 : decode cX8_mid 68 = .ok (.aload_n 0, 1) := by decide +kernel
theorem dX8_mid_69 : decode cX8_mid 69 = .ok (.lload_n 2, 1) := by decide +kernel
theorem dX8_mid_70 : decode cX8_mid 70 = .ok (.ldc2_w 292, 3) := by decide +kernel
theorem dX8_mid_73 : decode cX8_mid 73 = .ok (.invokevirtual 246, 3) := by decide +kernel
theorem dX8_mid_76 : decode cX8_mid 76 = .ok (.ireturn, 1) := by decide +kernel
theorem dX8_lots_0 : decode cX8_lots 0 = .ok (.iload_n 1, 1) := by decide +kernel
theorem dX8_lots_1 : decode cX8_lots 1 = .ok (.i2l, 1) := by decide +kernel
theorem dX8_lots_2 : decode cX8_lots 2 = .ok (.lconst 1, 1) := by decide +kernel
theorem dX8_lots_3 : decode cX8_lots 3 = .ok (.ldc2_w 300, 3) := by decide +kernel
theorem dX8_lots_6 : decode cX8_lots 6 = .ok (.invokestatic 74, 3) := by decide +kernel
theorem dX8_lots_9 : decode cX8_lots 9 = .ok (.ifCond .eq 15, 3) := by decide +kernel
theorem dX8_lots_12 : decode cX8_lots 12 = .ok (.iload_n 2, 1) := by decide +kernel
theorem dX8_lots_13 : decode cX8_lots 13 = .ok (.i2l, 1) := by decide +kernel
theorem dX8_lots_14 : decode cX8_lots 14 = .ok (.lconst 1, 1) := by decide +kernel
theorem dX8_lots_15 : decode cX8_lots 15 = .ok (.ldc2_w 302, 3) := by decide +kernel
theorem dX8_lots_18 : decode cX8_lots 18 = .ok (.invokestatic 74, 3) := by decide +kernel
theorem dX8_lots_21 : decode cX8_lots 21 = .ok (.ifCond .ne 5, 3) := by decide +kernel
theorem dX8_lots_24 : decode cX8_lots 24 = .ok (.iconst (-1), 1) := by decide +kernel
theorem dX8_lots_25 : decode cX8_lots 25 = .ok (.ireturn, 1) := by decide +kernel
theorem dX8_lots_26 : decode cX8_lots 26 = .ok (.aload_n 0, 1) := by decide +kernel
theorem dX8_lots_27 : decode cX8_lots 27 = .ok (.getfield 157, 3) := by decide +kernel
theorem dX8_lots_30 : decode cX8_lots 30 = .ok (.ifCond .ne 6, 3) := by decide +kernel
theorem dX8_lots_33 : decode cX8_lots 33 = .ok (.bipush (-4), 2) := by decide +kernel
theorem dX8_lots_35 : decode cX8_lots 35 = .ok (.ireturn, 1) := by decide +kernel
theorem dX8_lots_36 : decode cX8_lots 36 = .ok (.aload_n 0, 1) := by decide +kernel
theorem dX8_lots_37 : decode cX8_lots 37 = .ok (.getfield 7, 3) := by decide +kernel
theorem dX8_lots_40 : decode cX8_lots 40 = .ok (.iconst 0, 1) := by decide +kernel
theorem dX8_lots_41 : decode cX8_lots 41 = .ok (.iaload, 1) := by decide +kernel
theorem dX8_lots_42 : decode cX8_lots 42 = .ok (.iload_n 1, 1) := by decide +kernel
theorem dX8_lots_43 : decode cX8_lots 43 = .ok (.iadd, 1) := by decide +kernel
theorem dX8_lots_44 : decode cX8_lots 44 = .ok (.bipush 40, 2) := by decide +kernel
theorem dX8_lots_46 : decode cX8_lots 46 = .ok (.if_icmp .le 6, 3) := by decide +kernel
theorem dX8_lots_49 : decode cX8_lots 49 = .ok (.bipush (-2), 2) := by decide +kernel
theorem dX8_lots_51 : decode cX8_lots 51 = .ok (.ireturn, 1) := by decide +kernel
theorem dX8_lots_52 : decode cX8_lots 52 = .ok (.iload_n 2, 1) := by decide +kernel
theorem dX8_lots_53 : decode cX8_lots 53 = .ok (.i2l, 1) := by decide +kernel
theorem dX8_lots_54 : decode cX8_lots 54 = .ok (.lstore_n 3, 1) := by decide +kernel
theorem dX8_lots_55 : decode cX8_lots 55 = .ok (.aload_n 0, 1) := by decide +kernel
theorem dX8_lots_56 : decode cX8_lots 56 = .ok (.getfield 7, 3) := by decide +kernel
theorem dX8_lots_59 : decode cX8_lots 59 = .ok (.iconst 4, 1) := by decide +kernel
theorem dX8_lots_60 : decode cX8_lots 60 = .ok (.iaload, 1) := by decide +kernel
theorem dX8_lots_61 : decode cX8_lots 61 = .ok (.istore 5, 2) := by decide +kernel
theorem dX8_lots_63 : decode cX8_lots 63 = .ok (.iconst 0, 1) := by decide +kernel
theorem dX8_lots_64 : decode cX8_lots 64 = .ok (.istore 6, 2) := by decide +kernel
theorem dX8_lots_66 : decode cX8_lots 66 = .ok (.iload 6, 2) := by decide +kernel
theorem dX8_lots_68 : decode cX8_lots 68 = .ok (.iload_n 1, 1) := by decide +kernel
theorem dX8_lots_69 : decode cX8_lots 69 = .ok (.if_icmp .ge 124, 3) := by decide +kernel
theorem dX8_lots_72 : decode cX8_lots 72 = .ok (.lload_n 3, 1) := by decide +kernel
theorem dX8_lots_73 : decode cX8_lots 73 = .ok (.ldc2_w 304, 3) := by decide +kernel
theorem dX8_lots_76 : decode cX8_lots 76 = .ok (.lmul, 1) := by decide +kernel
theorem dX8_lots_77 : decode cX8_lots 77 = .ok (.ldc2_w 306, 3) := by decide +kernel
theorem dX8_lots_80 : decode cX8_lots 80 = .ok (.lrem, 1) := by decide +kernel
theorem dX8_lots_81 : decode cX8_lots 81 = .ok (.lstore_n 3, 1) := by decide +kernel
theorem dX8_lots_82 : decode cX8_lots 82 = .ok (.lload_n 3, 1) := by decide +kernel
theorem dX8_lots_83 : decode cX8_lots 83 = .ok (.ldc2_w 194, 3) := by decide +kernel
theorem dX8_lots_86 : decode cX8_lots 86 = .ok (.ldiv, 1) := by decide +kernel
theorem dX8_lots_87 : decode cX8_lots 87 = .ok (.aload_n 0, 1) := by decide +kernel
theorem dX8_lots_88 : decode cX8_lots 88 = .ok (.getfield 157, 3) := by decide +kernel
theorem dX8_lots_91 : decode cX8_lots 91 = .ok (.i2l, 1) := by decide +kernel
theorem dX8_lots_92 : decode cX8_lots 92 = .ok (.lrem, 1) := by decide +kernel
theorem dX8_lots_93 : decode cX8_lots 93 = .ok (.l2i, 1) := by decide +kernel
theorem dX8_lots_94 : decode cX8_lots 94 = .ok (.istore 7, 2) := by decide +kernel
theorem dX8_lots_96 : decode cX8_lots 96 = .ok (.aload_n 0, 1) := by decide +kernel
theorem dX8_lots_97 : decode cX8_lots 97 = .ok (.invokevirtual 210, 3) := by decide +kernel
theorem dX8_lots_100 : decode cX8_lots 100 = .ok (.lload_n 3, 1) := by decide +kernel
theorem dX8_lots_101 : decode cX8_lots 101 = .ok (.ldc2_w 78, 3) := by decide +kernel
theorem dX8_lots_104 : decode cX8_lots 104 = .ok (.lrem, 1) := by decide +kernel
theorem dX8_lots_105 : decode cX8_lots 105 = .ok (.lconst 0, 1) := by decide +kernel
theorem dX8_lots_106 : decode cX8_lots 106 = .ok (.lcmp, 1) := by decide +kernel
theorem dX8_lots_107 : decode cX8_lots 107 = .ok (.ifCond .ne 34, 3) := by decide +kernel
theorem dX8_lots_110 : decode cX8_lots 110 = .ok (.aload_n 0, 1) := by decide +kernel
theorem dX8_lots_111 : decode cX8_lots 111 = .ok (.getfield 7, 3) := by decide +kernel
theorem dX8_lots_114 : decode cX8_lots 114 = .ok (.iconst 1, 1) := by decide +kernel
theorem dX8_lots_115 : decode cX8_lots 115 = .ok (.aload_n 0, 1) := by decide +kernel
theorem dX8_lots_116 : decode cX8_lots 116 = .ok (.getfield 7, 3) := by decide +kernel
theorem dX8_lots_119 : decode cX8_lots 119 = .ok (.iconst 1, 1) := by decide +kernel
theorem dX8_lots_120 : decode cX8_lots 120 = .ok (.iaload, 1) := by decide +kernel
theorem dX8_lots_121 : decode cX8_lots 121 = .ok (.lload_n 3, 1) := by decide +kernel
theorem dX8_lots_122 : decode cX8_lots 122 = .ok (.ldc2_w 194, 3) := by decide +kernel
theorem dX8_lots_125 : decode cX8_lots 125 = .ok (.ldiv, 1) := by decide +kernel
theorem dX8_lots_126 : decode cX8_lots 126 = .ok (.ldc2_w 308, 3) := by decide +kernel
theorem dX8_lots_129 : decode cX8_lots 129 = .ok (.lrem, 1) := by decide +kernel
theorem dX8_lots_130 : decode cX8_lots 130 = .ok (.l2i, 1) := by decide +kernel
theorem dX8_lots_131 : decode cX8_lots 131 = .ok (.iadd, 1) := by decide +kernel
theorem dX8_lots_132 : decode cX8_lots 132 = .ok (.iconst 5, 1) := by decide +kernel
theorem dX8_lots_133 : decode cX8_lots 133 = .ok (.isub, 1) := by decide +kernel
theorem dX8_lots_134 : decode cX8_lots 134 = .ok (.invokestatic 213, 3) := by decide +kernel
theorem dX8_lots_137 : decode cX8_lots 137 = .ok (.iastore, 1) := by decide +kernel
theorem dX8_lots_138 : decode cX8_lots 138 = .ok (.goto 49, 3) := by decide +kernel
theorem dX8_lots_141 : decode cX8_lots 141 = .ok (.aload_n 0, 1) := by decide +kernel
theorem dX8_lots_142 : decode cX8_lots 142 = .ok (.iload 7, 2) := by decide +kernel
theorem dX8_lots_144 : decode cX8_lots 144 = .ok (.invokevirtual 219, 3) := by decide +kernel
theorem dX8_lots_147 : decode cX8_lots 147 = .ok (.ifCond .ne 14, 3) := by decide +kernel
theorem dX8_lots_150 : decode cX8_lots 150 = .ok (.aload_n 0, 1) := by decide +kernel
theorem dX8_lots_151 : decode cX8_lots 151 = .ok (.iconst 0, 1) := by decide +kernel
theorem dX8_lots_152 : decode cX8_lots 152 = .ok (.iload 7, 2) := by decide +kernel
theorem dX8_lots_154 : decode cX8_lots 154 = .ok (.invokevirtual 229, 3) := by decide +kernel
theorem dX8_lots_157 : decode cX8_lots 157 = .ok (.pop, 1) := by decide +kernel
theorem dX8_lots_158 : decode cX8_lots 158 = .ok (.goto 29, 3) := by decide +kernel
theorem dX8_lots_161 : decode cX8_lots 161 = .ok (.aload_n 0, 1) := by decide +kernel
theorem dX8_lots_162 : decode cX8_lots 162 = .ok (.getfield 7, 3) := by decide +kernel
theorem dX8_lots_165 : decode cX8_lots 165 = .ok (.iconst 5, 1) := by decide +kernel
theorem dX8_lots_166 : decode cX8_lots 166 = .ok (.iload 7, 2) := by decide +kernel
theorem dX8_lots_168 : decode cX8_lots 168 = .ok (.iadd, 1) := by decide +kernel
theorem dX8_lots_169 : decode cX8_lots 169 = .ok (.iaload, 1) := by decide +kernel
theorem dX8_lots_170 : decode cX8_lots 170 = .ok (.iconst 3, 1) := by decide +kernel
theorem dX8_lots_171 : decode cX8_lots 171 = .ok (.if_icmp .ge 16, 3) := by decide +kernel
theorem dX8_lots_174 : decode cX8_lots 174 = .ok (.aload_n 0, 1) := by decide +kernel
theorem dX8_lots_175 : decode cX8_lots 175 = .ok (.getfield 7, 3) := by decide +kernel
theorem dX8_lots_178 : decode cX8_lots 178 = .ok (.iconst 5, 1) := by decide +kernel
theorem dX8_lots_179 : decode cX8_lots 179 = .ok (.iload 7, 2) := by decide +kernel
theorem dX8_lots_181 : decode cX8_lots 181 = .ok (.iadd, 1) := by decide +kernel
theorem dX8_lots_182 : decode cX8_lots 182 = .ok (.dup2, 1) := by decide +kernel
theorem dX8_lots_183 : decode cX8_lots 183 = .ok (.iaload, 1) := by decide +kernel
theorem dX8_lots_184 : decode cX8_lots 184 = .ok (.iconst 1, 1) := by decide +kernel
theorem dX8_lots_185 : decode cX8_lots 185 = .ok (.iadd, 1) := by decide +kernel
theorem dX8_lots_186 : decode cX8_lots 186 = .ok (.iastore, 1) := by decide +kernel
theorem dX8_lots_187 : decode cX8_lots 187 = .ok (.iinc 6 1, 3) := by decide +kernel
theorem dX8_lots_190 : decode cX8_lots 190 = .ok (.goto (-124), 3) := by decide +kernel
theorem dX8_lots_193 : decode cX8_lots 193 = .ok (.aload_n 0, 1) := by decide +kernel
theorem dX8_lots_194 : decode cX8_lots 194 = .ok (.getfield 7, 3) := by decide +kernel
theorem dX8_lots_197 : decode cX8_lots 197 = .ok (.iconst 4, 1) := by decide +kernel
theorem dX8_lots_198 : decode cX8_lots 198 = .ok (.iaload, 1) := by decide +kernel
theorem dX8_lots_199 : decode cX8_lots 199 = .ok (.iload 5, 2) := by decide +kernel
theorem dX8_lots_201 : decode cX8_lots 201 = .ok (.isub, 1) := by decide +kernel
theorem dX8_lots_202 : decode cX8_lots 202 = .ok (.ireturn, 1) := by decide +kernel
theorem dX8_asked_0 : decode cX8_asked 0 = .ok (.aload_n 0, 1) := by decide +kernel
theorem dX8_asked_1 : decode cX8_asked 1 = .ok (.getfield 69, 3) := by decide +kernel
theorem dX8_asked_4 : decode cX8_asked 4 = .ok (.ireturn, 1) := by decide +kernel
theorem dX8_upper_0 : decode cX8_upper 0 = .ok (.aload_n 0, 1) := by decide +kernel
theorem dX8_upper_1 : decode cX8_upper 1 = .ok (.getfield 243, 3) := by decide +kernel
theorem dX8_upper_4 : decode cX8_upper 4 = .ok (.lreturn, 1) := by decide +kernel
theorem dX8_lower_0 : decode cX8_lower 0 = .ok (.aload_n 0, 1) := by decide +kernel
theorem dX8_lower_1 : decode cX8_lower 1 = .ok (.getfield 37, 3) := by decide +kernel
theorem dX8_lower_4 : decode cX8_lower 4 = .ok (.lreturn, 1) := by decide +kernel
theorem dX8_sumOf_0 : decode cX8_sumOf 0 = .ok (.iconst 0, 1) := by decide +kernel
theorem dX8_sumOf_1 : decode cX8_sumOf 1 = .ok (.istore_n 2, 1) := by decide +kernel
theorem dX8_sumOf_2 : decode cX8_sumOf 2 = .ok (.iconst 0, 1) := by decide +kernel
theorem dX8_sumOf_3 : decode cX8_sumOf 3 = .ok (.istore_n 3, 1) := by decide +kernel
theorem dX8_sumOf_4 : decode cX8_sumOf 4 = .ok (.iload_n 3, 1) := by decide +kernel
theorem dX8_sumOf_5 : decode cX8_sumOf 5 = .ok (.aload_n 0, 1) := by decide +kernel
theorem dX8_sumOf_6 : decode cX8_sumOf 6 = .ok (.getfield 157, 3) := by decide +kernel
theorem dX8_sumOf_9 : decode cX8_sumOf 9 = .ok (.if_icmp .ge 43, 3) := by decide +kernel
theorem dX8_sumOf_12 : decode cX8_sumOf 12 = .ok (.iload_n 2, 1) := by decide +kernel
theorem dX8_sumOf_13 : decode cX8_sumOf 13 = .ok (.iload_n 1, 1) := by decide +kernel
theorem dX8_sumOf_14 : decode cX8_sumOf 14 = .ok (.bipush 6, 2) := by decide +kernel
theorem dX8_sumOf_16 : decode cX8_sumOf 16 = .ok (.if_icmp .ne 14, 3) := by decide +kernel
theorem dX8_sumOf_19 : decode cX8_sumOf 19 = .ok (.aload_n 0, 1) := by decide +kernel
theorem dX8_sumOf_20 : decode cX8_sumOf 20 = .ok (.getfield 7, 3) := by decide +kernel
theorem dX8_sumOf_23 : decode cX8_sumOf 23 = .ok (.iconst 5, 1) := by decide +kernel
theorem dX8_sumOf_24 : decode cX8_sumOf 24 = .ok (.iload_n 3, 1) := by decide +kernel
theorem dX8_sumOf_25 : decode cX8_sumOf 25 = .ok (.iadd, 1) := by decide +kernel
theorem dX8_sumOf_26 : decode cX8_sumOf 26 = .ok (.iaload, 1) := by decide +kernel
theorem dX8_sumOf_27 : decode cX8_sumOf 27 = .ok (.goto 17, 3) := by decide +kernel
theorem dX8_sumOf_30 : decode cX8_sumOf 30 = .ok (.aload_n 0, 1) := by decide +kernel
theorem dX8_sumOf_31 : decode cX8_sumOf 31 = .ok (.iload_n 3, 1) := by decide +kernel
theorem dX8_sumOf_32 : decode cX8_sumOf 32 = .ok (.iconst 1, 1) := by decide +kernel
theorem dX8_sumOf_33 : decode cX8_sumOf 33 = .ok (.invokevirtual 199, 3) := by decide +kernel
theorem dX8_sumOf_36 : decode cX8_sumOf 36 = .ok (.ifCond .eq 7, 3) := by decide +kernel
theorem dX8_sumOf_39 : decode cX8_sumOf 39 = .ok (.iconst 1, 1) := by decide +kernel
theorem dX8_sumOf_40 : decode cX8_sumOf 40 = .ok (.goto 4, 3) := by decide +kernel
theorem dX8_sumOf_43 : decode cX8_sumOf 43 = .ok (.iconst 0, 1) := by decide +kernel
theorem dX8_sumOf_44 : decode cX8_sumOf 44 = .ok (.iadd, 1) := by decide +kernel
theorem dX8_sumOf_45 : decode cX8_sumOf 45 = .ok (.istore_n 2, 1) := by decide +kernel
theorem dX8_sumOf_46 : decode cX8_sumOf 46 = .ok (.iinc 3 1, 3) := by decide +kernel
theorem dX8_sumOf_49 : decode cX8_sumOf 49 = .ok (.goto (-45), 3) := by decide +kernel
theorem dX8_sumOf_52 : decode cX8_sumOf 52 = .ok (.iload_n 2, 1) := by decide +kernel
theorem dX8_sumOf_53 : decode cX8_sumOf 53 = .ok (.ireturn, 1) := by decide +kernel
theorem dX8_thereOf_0 : decode cX8_thereOf 0 = .ok (.iconst 0, 1) := by decide +kernel
theorem dX8_thereOf_1 : decode cX8_thereOf 1 = .ok (.istore_n 2, 1) := by decide +kernel
theorem dX8_thereOf_2 : decode cX8_thereOf 2 = .ok (.iconst 0, 1) := by decide +kernel
theorem dX8_thereOf_3 : decode cX8_thereOf 3 = .ok (.istore_n 3, 1) := by decide +kernel
theorem dX8_thereOf_4 : decode cX8_thereOf 4 = .ok (.iload_n 3, 1) := by decide +kernel
theorem dX8_thereOf_5 : decode cX8_thereOf 5 = .ok (.bipush 6, 2) := by decide +kernel
theorem dX8_thereOf_7 : decode cX8_thereOf 7 = .ok (.if_icmp .ge 90, 3) := by decide +kernel
theorem dX8_thereOf_10 : decode cX8_thereOf 10 = .ok (.iload_n 2, 1) := by decide +kernel
theorem dX8_thereOf_11 : decode cX8_thereOf 11 = .ok (.iload_n 1, 1) := by decide +kernel
theorem dX8_thereOf_12 : decode cX8_thereOf 12 = .ok (.bipush 8, 2) := by decide +kernel
theorem dX8_thereOf_14 : decode cX8_thereOf 14 = .ok (.if_icmp .ne 20, 3) := by decide +kernel
theorem dX8_thereOf_17 : decode cX8_thereOf 17 = .ok (.aload_n 0, 1) := by decide +kernel
theorem dX8_thereOf_18 : decode cX8_thereOf 18 = .ok (.getfield 25, 3) := by decide +kernel
theorem dX8_thereOf_21 : decode cX8_thereOf 21 = .ok (.iload_n 3, 1) := by decide +kernel
theorem dX8_thereOf_22 : decode cX8_thereOf 22 = .ok (.iaload, 1) := by decide +kernel
theorem dX8_thereOf_23 : decode cX8_thereOf 23 = .ok (.ifCond .ge 7, 3) := by decide +kernel
theorem dX8_thereOf_26 : decode cX8_thereOf 26 = .ok (.iconst 0, 1) := by decide +kernel
theorem dX8_thereOf_27 : decode cX8_thereOf 27 = .ok (.goto 62, 3) := by decide +kernel
theorem dX8_thereOf_30 : decode cX8_thereOf 30 = .ok (.iconst 1, 1) := by decide +kernel
theorem dX8_thereOf_31 : decode cX8_thereOf 31 = .ok (.goto 58, 3) := by decide +kernel
theorem dX8_thereOf_34 : decode cX8_thereOf 34 = .ok (.iload_n 1, 1) := by decide +kernel
theorem dX8_thereOf_35 : decode cX8_thereOf 35 = .ok (.bipush 9, 2) := by decide +kernel
theorem dX8_thereOf_37 : decode cX8_thereOf 37 = .ok (.if_icmp .ne 25, 3) := by decide +kernel
theorem dX8_thereOf_40 : decode cX8_thereOf 40 = .ok (.iload_n 3, 1) := by decide +kernel
theorem dX8_thereOf_41 : decode cX8_thereOf 41 = .ok (.iconst 4, 1) := by decide +kernel
theorem dX8_thereOf_42 : decode cX8_thereOf 42 = .ok (.if_icmp .ge 16, 3) := by decide +kernel
theorem dX8_thereOf_45 : decode cX8_thereOf 45 = .ok (.aload_n 0, 1) := by decide +kernel
theorem dX8_thereOf_46 : decode cX8_thereOf 46 = .ok (.getfield 31, 3) := by decide +kernel
theorem dX8_thereOf_49 : decode cX8_thereOf 49 = .ok (.iload_n 3, 1) := by decide +kernel
theorem dX8_thereOf_50 : decode cX8_thereOf 50 = .ok (.iaload, 1) := by decide +kernel
theorem dX8_thereOf_51 : decode cX8_thereOf 51 = .ok (.ifCond .lt 7, 3) := by decide +kernel
theorem dX8_thereOf_54 : decode cX8_thereOf 54 = .ok (.iconst 1, 1) := by decide +kernel
theorem dX8_thereOf_55 : decode cX8_thereOf 55 = .ok (.goto 34, 3) := by decide +kernel
theorem dX8_thereOf_58 : decode cX8_thereOf 58 = .ok (.iconst 0, 1) := by decide +kernel
theorem dX8_thereOf_59 : decode cX8_thereOf 59 = .ok (.goto 30, 3) := by decide +kernel
theorem dX8_thereOf_62 : decode cX8_thereOf 62 = .ok (.iload_n 3, 1) := by decide +kernel
theorem dX8_thereOf_63 : decode cX8_thereOf 63 = .ok (.iconst 3, 1) := by decide +kernel
theorem dX8_thereOf_64 : decode cX8_thereOf 64 = .ok (.if_icmp .ge 24, 3) := by decide +kernel
theorem dX8_thereOf_67 : decode cX8_thereOf 67 = .ok (.aload_n 0, 1) := by decide +kernel
theorem dX8_thereOf_68 : decode cX8_thereOf 68 = .ok (.getfield 7, 3) := by decide +kernel
theorem dX8_thereOf_71 : decode cX8_thereOf 71 = .ok (.sipush 657, 3) := by decide +kernel
theorem dX8_thereOf_74 : decode cX8_thereOf 74 = .ok (.iconst 1, 1) := by decide +kernel
theorem dX8_thereOf_75 : decode cX8_thereOf 75 = .ok (.iload_n 3, 1) := by decide +kernel
theorem dX8_thereOf_76 : decode cX8_thereOf 76 = .ok (.iadd, 1) := by decide +kernel
theorem dX8_thereOf_77 : decode cX8_thereOf 77 = .ok (.imul, 1) := by decide +kernel
theorem dX8_thereOf_78 : decode cX8_thereOf 78 = .ok (.iconst 0, 1) := by decide +kernel
theorem dX8_thereOf_79 : decode cX8_thereOf 79 = .ok (.iadd, 1) := by decide +kernel
theorem dX8_thereOf_80 : decode cX8_thereOf 80 = .ok (.iaload, 1) := by decide +kernel
theorem dX8_thereOf_81 : decode cX8_thereOf 81 = .ok (.ifCond .lt 7, 3) := by decide +kernel
theorem dX8_thereOf_84 : decode cX8_thereOf 84 = .ok (.iconst 1, 1) := by decide +kernel
theorem dX8_thereOf_85 : decode cX8_thereOf 85 = .ok (.goto 4, 3) := by decide +kernel
theorem dX8_thereOf_88 : decode cX8_thereOf 88 = .ok (.iconst 0, 1) := by decide +kernel
theorem dX8_thereOf_89 : decode cX8_thereOf 89 = .ok (.iadd, 1) := by decide +kernel
theorem dX8_thereOf_90 : decode cX8_thereOf 90 = .ok (.istore_n 2, 1) := by decide +kernel
theorem dX8_thereOf_91 : decode cX8_thereOf 91 = .ok (.iinc 3 1, 3) := by decide +kernel
theorem dX8_thereOf_94 : decode cX8_thereOf 94 = .ok (.goto (-90), 3) := by decide +kernel
theorem dX8_thereOf_97 : decode cX8_thereOf 97 = .ok (.iload_n 2, 1) := by decide +kernel
theorem dX8_thereOf_98 : decode cX8_thereOf 98 = .ok (.ireturn, 1) := by decide +kernel
theorem dX8_countOf_0 : decode cX8_countOf 0 = .ok (.iload_n 1, 1) := by decide +kernel
theorem dX8_countOf_1 : decode cX8_countOf 1 = .ok (.tableswitch 93 0 7 #[47, 52, 59, 66, 73, 80, 87, 87], 47) := by decide +kernel
theorem dX8_countOf_48 : decode cX8_countOf 48 = .ok (.aload_n 0, 1) := by decide +kernel
theorem dX8_countOf_49 : decode cX8_countOf 49 = .ok (.getfield 157, 3) := by decide +kernel
theorem dX8_countOf_52 : decode cX8_countOf 52 = .ok (.ireturn, 1) := by decide +kernel
theorem dX8_countOf_53 : decode cX8_countOf 53 = .ok (.aload_n 0, 1) := by decide +kernel
theorem dX8_countOf_54 : decode cX8_countOf 54 = .ok (.getfield 7, 3) := by decide +kernel
theorem dX8_countOf_57 : decode cX8_countOf 57 = .ok (.iconst 1, 1) := by decide +kernel
theorem dX8_countOf_58 : decode cX8_countOf 58 = .ok (.iaload, 1) := by decide +kernel
theorem dX8_countOf_59 : decode cX8_countOf 59 = .ok (.ireturn, 1) := by decide +kernel
theorem dX8_countOf_60 : decode cX8_countOf 60 = .ok (.aload_n 0, 1) := by decide +kernel
theorem dX8_countOf_61 : decode cX8_countOf 61 = .ok (.getfield 7, 3) := by decide +kernel
theorem dX8_countOf_64 : decode cX8_countOf 64 = .ok (.iconst 0, 1) := by decide +kernel
theorem dX8_countOf_65 : decode cX8_countOf 65 = .ok (.iaload, 1) := by decide +kernel
theorem dX8_countOf_66 : decode cX8_countOf 66 = .ok (.ireturn, 1) := by decide +kernel
theorem dX8_countOf_67 : decode cX8_countOf 67 = .ok (.aload_n 0, 1) := by decide +kernel
theorem dX8_countOf_68 : decode cX8_countOf 68 = .ok (.getfield 7, 3) := by decide +kernel
theorem dX8_countOf_71 : decode cX8_countOf 71 = .ok (.iconst 2, 1) := by decide +kernel
theorem dX8_countOf_72 : decode cX8_countOf 72 = .ok (.iaload, 1) := by decide +kernel
theorem dX8_countOf_73 : decode cX8_countOf 73 = .ok (.ireturn, 1) := by decide +kernel
theorem dX8_countOf_74 : decode cX8_countOf 74 = .ok (.aload_n 0, 1) := by decide +kernel
theorem dX8_countOf_75 : decode cX8_countOf 75 = .ok (.getfield 7, 3) := by decide +kernel
theorem dX8_countOf_78 : decode cX8_countOf 78 = .ok (.iconst 3, 1) := by decide +kernel
theorem dX8_countOf_79 : decode cX8_countOf 79 = .ok (.iaload, 1) := by decide +kernel
theorem dX8_countOf_80 : decode cX8_countOf 80 = .ok (.ireturn, 1) := by decide +kernel
theorem dX8_countOf_81 : decode cX8_countOf 81 = .ok (.aload_n 0, 1) := by decide +kernel
theorem dX8_countOf_82 : decode cX8_countOf 82 = .ok (.getfield 7, 3) := by decide +kernel
theorem dX8_countOf_85 : decode cX8_countOf 85 = .ok (.iconst 4, 1) := by decide +kernel
theorem dX8_countOf_86 : decode cX8_countOf 86 = .ok (.iaload, 1) := by decide +kernel
theorem dX8_countOf_87 : decode cX8_countOf 87 = .ok (.ireturn, 1) := by decide +kernel
theorem dX8_countOf_88 : decode cX8_countOf 88 = .ok (.aload_n 0, 1) := by decide +kernel
theorem dX8_countOf_89 : decode cX8_countOf 89 = .ok (.iload_n 1, 1) := by decide +kernel
theorem dX8_countOf_90 : decode cX8_countOf 90 = .ok (.invokevirtual 310, 3) := by decide +kernel
theorem dX8_countOf_93 : decode cX8_countOf 93 = .ok (.ireturn, 1) := by decide +kernel
theorem dX8_countOf_94 : decode cX8_countOf 94 = .ok (.aload_n 0, 1) := by decide +kernel
theorem dX8_countOf_95 : decode cX8_countOf 95 = .ok (.iload_n 1, 1) := by decide +kernel
theorem dX8_countOf_96 : decode cX8_countOf 96 = .ok (.invokevirtual 313, 3) := by decide +kernel
theorem dX8_countOf_99 : decode cX8_countOf 99 = .ok (.ireturn, 1) := by decide +kernel
theorem dX8_count_0 : decode cX8_count 0 = .ok (.iload_n 1, 1) := by decide +kernel
theorem dX8_count_1 : decode cX8_count 1 = .ok (.i2l, 1) := by decide +kernel
theorem dX8_count_2 : decode cX8_count 2 = .ok (.lconst 0, 1) := by decide +kernel
theorem dX8_count_3 : decode cX8_count 3 = .ok (.ldc2_w 316, 3) := by decide +kernel
theorem dX8_count_6 : decode cX8_count 6 = .ok (.invokestatic 74, 3) := by decide +kernel
theorem dX8_count_9 : decode cX8_count 9 = .ok (.ifCond .eq 11, 3) := by decide +kernel
theorem dX8_count_12 : decode cX8_count 12 = .ok (.aload_n 0, 1) := by decide +kernel
theorem dX8_count_13 : decode cX8_count 13 = .ok (.iload_n 1, 1) := by decide +kernel
theorem dX8_count_14 : decode cX8_count 14 = .ok (.invokevirtual 318, 3) := by decide +kernel
theorem dX8_count_17 : decode cX8_count 17 = .ok (.goto 4, 3) := by decide +kernel
theorem dX8_count_20 : decode cX8_count 20 = .ok (.iconst (-1), 1) := by decide +kernel
theorem dX8_count_21 : decode cX8_count 21 = .ok (.ireturn, 1) := by decide +kernel
theorem dX8_finding_0 : decode cX8_finding 0 = .ok (.aload_n 0, 1) := by decide +kernel
theorem dX8_finding_1 : decode cX8_finding 1 = .ok (.getfield 65, 3) := by decide +kernel
theorem dX8_finding_4 : decode cX8_finding 4 = .ok (.ireturn, 1) := by decide +kernel
theorem dX8_findings_0 : decode cX8_findings 0 = .ok (.iload_n 1, 1) := by decide +kernel
theorem dX8_findings_1 : decode cX8_findings 1 = .ok (.i2l, 1) := by decide +kernel
theorem dX8_findings_2 : decode cX8_findings 2 = .ok (.lconst 1, 1) := by decide +kernel
theorem dX8_findings_3 : decode cX8_findings 3 = .ok (.ldc2_w 72, 3) := by decide +kernel
theorem dX8_findings_6 : decode cX8_findings 6 = .ok (.invokestatic 74, 3) := by decide +kernel
theorem dX8_findings_9 : decode cX8_findings 9 = .ok (.ifCond .eq 12, 3) := by decide +kernel
theorem dX8_findings_12 : decode cX8_findings 12 = .ok (.aload_n 0, 1) := by decide +kernel
theorem dX8_findings_13 : decode cX8_findings 13 = .ok (.getfield 41, 3) := by decide +kernel
theorem dX8_findings_16 : decode cX8_findings 16 = .ok (.iload_n 1, 1) := by decide +kernel
theorem dX8_findings_17 : decode cX8_findings 17 = .ok (.iaload, 1) := by decide +kernel
theorem dX8_findings_18 : decode cX8_findings 18 = .ok (.goto 4, 3) := by decide +kernel
theorem dX8_findings_21 : decode cX8_findings 21 = .ok (.iconst (-1), 1) := by decide +kernel
theorem dX8_findings_22 : decode cX8_findings 22 = .ok (.ireturn, 1) := by decide +kernel
theorem dX8_digest_0 : decode cX8_digest 0 = .ok (.ldc2_w 321, 3) := by decide +kernel
theorem dX8_digest_3 : decode cX8_digest 3 = .ok (.lstore_n 1, 1) := by decide +kernel
theorem dX8_digest_4 : decode cX8_digest 4 = .ok (.iconst 0, 1) := by decide +kernel
theorem dX8_digest_5 : decode cX8_digest 5 = .ok (.istore_n 3, 1) := by decide +kernel
theorem dX8_digest_6 : decode cX8_digest 6 = .ok (.iload_n 3, 1) := by decide +kernel
theorem dX8_digest_7 : decode cX8_digest 7 = .ok (.bipush 11, 2) := by decide +kernel
theorem dX8_digest_9 : decode cX8_digest 9 = .ok (.if_icmp .ge 22, 3) := by decide +kernel
theorem dX8_digest_12 : decode cX8_digest 12 = .ok (.ldc2_w 323, 3) := by decide +kernel
theorem dX8_digest_15 : decode cX8_digest 15 = .ok (.lload_n 1, 1) := by decide +kernel
theorem dX8_digest_16 : decode cX8_digest 16 = .ok (.lmul, 1) := by decide +kernel
theorem dX8_digest_17 : decode cX8_digest 17 = .ok (.aload_n 0, 1) := by decide +kernel
theorem dX8_digest_18 : decode cX8_digest 18 = .ok (.iload_n 3, 1) := by decide +kernel
theorem dX8_digest_19 : decode cX8_digest 19 = .ok (.invokevirtual 318, 3) := by decide +kernel
theorem dX8_digest_22 : decode cX8_digest 22 = .ok (.i2l, 1) := by decide +kernel
theorem dX8_digest_23 : decode cX8_digest 23 = .ok (.ladd, 1) := by decide +kernel
theorem dX8_digest_24 : decode cX8_digest 24 = .ok (.lstore_n 1, 1) := by decide +kernel
theorem dX8_digest_25 : decode cX8_digest 25 = .ok (.iinc 3 1, 3) := by decide +kernel
theorem dX8_digest_28 : decode cX8_digest 28 = .ok (.goto (-22), 3) := by decide +kernel
theorem dX8_digest_31 : decode cX8_digest 31 = .ok (.iconst 0, 1) := by decide +kernel
theorem dX8_digest_32 : decode cX8_digest 32 = .ok (.istore_n 3, 1) := by decide +kernel
theorem dX8_digest_33 : decode cX8_digest 33 = .ok (.iload_n 3, 1) := by decide +kernel
theorem dX8_digest_34 : decode cX8_digest 34 = .ok (.bipush 9, 2) := by decide +kernel
theorem dX8_digest_36 : decode cX8_digest 36 = .ok (.aload_n 0, 1) := by decide +kernel
theorem dX8_digest_37 : decode cX8_digest 37 = .ok (.getfield 157, 3) := by decide +kernel
theorem dX8_digest_40 : decode cX8_digest 40 = .ok (.imul, 1) := by decide +kernel
theorem dX8_digest_41 : decode cX8_digest 41 = .ok (.if_icmp .ge 29, 3) := by decide +kernel
theorem dX8_digest_44 : decode cX8_digest 44 = .ok (.ldc2_w 323, 3) := by decide +kernel
theorem dX8_digest_47 : decode cX8_digest 47 = .ok (.lload_n 1, 1) := by decide +kernel
theorem dX8_digest_48 : decode cX8_digest 48 = .ok (.lmul, 1) := by decide +kernel
theorem dX8_digest_49 : decode cX8_digest 49 = .ok (.aload_n 0, 1) := by decide +kernel
theorem dX8_digest_50 : decode cX8_digest 50 = .ok (.iload_n 3, 1) := by decide +kernel
theorem dX8_digest_51 : decode cX8_digest 51 = .ok (.bipush 9, 2) := by decide +kernel
theorem dX8_digest_53 : decode cX8_digest 53 = .ok (.idiv, 1) := by decide +kernel
theorem dX8_digest_54 : decode cX8_digest 54 = .ok (.iload_n 3, 1) := by decide +kernel
theorem dX8_digest_55 : decode cX8_digest 55 = .ok (.bipush 9, 2) := by decide +kernel
theorem dX8_digest_57 : decode cX8_digest 57 = .ok (.irem, 1) := by decide +kernel
theorem dX8_digest_58 : decode cX8_digest 58 = .ok (.invokevirtual 196, 3) := by decide +kernel
theorem dX8_digest_61 : decode cX8_digest 61 = .ok (.i2l, 1) := by decide +kernel
theorem dX8_digest_62 : decode cX8_digest 62 = .ok (.ladd, 1) := by decide +kernel
theorem dX8_digest_63 : decode cX8_digest 63 = .ok (.lstore_n 1, 1) := by decide +kernel
theorem dX8_digest_64 : decode cX8_digest 64 = .ok (.iinc 3 1, 3) := by decide +kernel
theorem dX8_digest_67 : decode cX8_digest 67 = .ok (.goto (-34), 3) := by decide +kernel
theorem dX8_digest_70 : decode cX8_digest 70 = .ok (.iconst 1, 1) := by decide +kernel
theorem dX8_digest_71 : decode cX8_digest 71 = .ok (.istore_n 3, 1) := by decide +kernel
theorem dX8_digest_72 : decode cX8_digest 72 = .ok (.iload_n 3, 1) := by decide +kernel
theorem dX8_digest_73 : decode cX8_digest 73 = .ok (.iconst 4, 1) := by decide +kernel
theorem dX8_digest_74 : decode cX8_digest 74 = .ok (.if_icmp .ge 29, 3) := by decide +kernel
theorem dX8_digest_77 : decode cX8_digest 77 = .ok (.ldc2_w 323, 3) := by decide +kernel
theorem dX8_digest_80 : decode cX8_digest 80 = .ok (.lload_n 1, 1) := by decide +kernel
theorem dX8_digest_81 : decode cX8_digest 81 = .ok (.lmul, 1) := by decide +kernel
theorem dX8_digest_82 : decode cX8_digest 82 = .ok (.aload_n 0, 1) := by decide +kernel
theorem dX8_digest_83 : decode cX8_digest 83 = .ok (.getfield 7, 3) := by decide +kernel
theorem dX8_digest_86 : decode cX8_digest 86 = .ok (.sipush 657, 3) := by decide +kernel
theorem dX8_digest_89 : decode cX8_digest 89 = .ok (.iload_n 3, 1) := by decide +kernel
theorem dX8_digest_90 : decode cX8_digest 90 = .ok (.imul, 1) := by decide +kernel
theorem dX8_digest_91 : decode cX8_digest 91 = .ok (.iconst 0, 1) := by decide +kernel
theorem dX8_digest_92 : decode cX8_digest 92 = .ok (.iadd, 1) := by decide +kernel
theorem dX8_digest_93 : decode cX8_digest 93 = .ok (.iaload, 1) := by decide +kernel
theorem dX8_digest_94 : decode cX8_digest 94 = .ok (.i2l, 1) := by decide +kernel
theorem dX8_digest_95 : decode cX8_digest 95 = .ok (.ladd, 1) := by decide +kernel
theorem dX8_digest_96 : decode cX8_digest 96 = .ok (.lstore_n 1, 1) := by decide +kernel
theorem dX8_digest_97 : decode cX8_digest 97 = .ok (.iinc 3 1, 3) := by decide +kernel
theorem dX8_digest_100 : decode cX8_digest 100 = .ok (.goto (-28), 3) := by decide +kernel
theorem dX8_digest_103 : decode cX8_digest 103 = .ok (.iconst 0, 1) := by decide +kernel
theorem dX8_digest_104 : decode cX8_digest 104 = .ok (.istore_n 3, 1) := by decide +kernel
theorem dX8_digest_105 : decode cX8_digest 105 = .ok (.iload_n 3, 1) := by decide +kernel
theorem dX8_digest_106 : decode cX8_digest 106 = .ok (.bipush 6, 2) := by decide +kernel
theorem dX8_digest_108 : decode cX8_digest 108 = .ok (.if_icmp .ge 63, 3) := by decide +kernel
theorem dX8_digest_111 : decode cX8_digest 111 = .ok (.ldc2_w 323, 3) := by decide +kernel
theorem dX8_digest_114 : decode cX8_digest 114 = .ok (.lload_n 1, 1) := by decide +kernel
theorem dX8_digest_115 : decode cX8_digest 115 = .ok (.lmul, 1) := by decide +kernel
theorem dX8_digest_116 : decode cX8_digest 116 = .ok (.aload_n 0, 1) := by decide +kernel
theorem dX8_digest_117 : decode cX8_digest 117 = .ok (.getfield 25, 3) := by decide +kernel
theorem dX8_digest_120 : decode cX8_digest 120 = .ok (.iload_n 3, 1) := by decide +kernel
theorem dX8_digest_121 : decode cX8_digest 121 = .ok (.iaload, 1) := by decide +kernel
theorem dX8_digest_122 : decode cX8_digest 122 = .ok (.i2l, 1) := by decide +kernel
theorem dX8_digest_123 : decode cX8_digest 123 = .ok (.ladd, 1) := by decide +kernel
theorem dX8_digest_124 : decode cX8_digest 124 = .ok (.lstore_n 1, 1) := by decide +kernel
theorem dX8_digest_125 : decode cX8_digest 125 = .ok (.iconst 0, 1) := by decide +kernel
theorem dX8_digest_126 : decode cX8_digest 126 = .ok (.istore 4, 2) := by decide +kernel
theorem dX8_digest_128 : decode cX8_digest 128 = .ok (.iload 4, 2) := by decide +kernel
theorem dX8_digest_130 : decode cX8_digest 130 = .ok (.aload_n 0, 1) := by decide +kernel
theorem dX8_digest_131 : decode cX8_digest 131 = .ok (.getfield 25, 3) := by decide +kernel
theorem dX8_digest_134 : decode cX8_digest 134 = .ok (.iload_n 3, 1) := by decide +kernel
theorem dX8_digest_135 : decode cX8_digest 135 = .ok (.iaload, 1) := by decide +kernel
theorem dX8_digest_136 : decode cX8_digest 136 = .ok (.if_icmp .ge 29, 3) := by decide +kernel
theorem dX8_digest_139 : decode cX8_digest 139 = .ok (.ldc2_w 323, 3) := by decide +kernel
theorem dX8_digest_142 : decode cX8_digest 142 = .ok (.lload_n 1, 1) := by decide +kernel
theorem dX8_digest_143 : decode cX8_digest 143 = .ok (.lmul, 1) := by decide +kernel
theorem dX8_digest_144 : decode cX8_digest 144 = .ok (.aload_n 0, 1) := by decide +kernel
theorem dX8_digest_145 : decode cX8_digest 145 = .ok (.getfield 28, 3) := by decide +kernel
theorem dX8_digest_148 : decode cX8_digest 148 = .ok (.bipush 40, 2) := by decide +kernel
theorem dX8_digest_150 : decode cX8_digest 150 = .ok (.iload_n 3, 1) := by decide +kernel
theorem dX8_digest_151 : decode cX8_digest 151 = .ok (.imul, 1) := by decide +kernel
theorem dX8_digest_152 : decode cX8_digest 152 = .ok (.iload 4, 2) := by decide +kernel
theorem dX8_digest_154 : decode cX8_digest 154 = .ok (.iadd, 1) := by decide +kernel
theorem dX8_digest_155 : decode cX8_digest 155 = .ok (.iaload, 1) := by decide +kernel
theorem dX8_digest_156 : decode cX8_digest 156 = .ok (.i2l, 1) := by decide +kernel
theorem dX8_digest_157 : decode cX8_digest 157 = .ok (.ladd, 1) := by decide +kernel
theorem dX8_digest_158 : decode cX8_digest 158 = .ok (.lstore_n 1, 1) := by decide +kernel
theorem dX8_digest_159 : decode cX8_digest 159 = .ok (.iinc 4 1, 3) := by decide +kernel
theorem dX8_digest_162 : decode cX8_digest 162 = .ok (.goto (-34), 3) := by decide +kernel
theorem dX8_digest_165 : decode cX8_digest 165 = .ok (.iinc 3 1, 3) := by decide +kernel
theorem dX8_digest_168 : decode cX8_digest 168 = .ok (.goto (-63), 3) := by decide +kernel
theorem dX8_digest_171 : decode cX8_digest 171 = .ok (.iconst 0, 1) := by decide +kernel
theorem dX8_digest_172 : decode cX8_digest 172 = .ok (.istore_n 3, 1) := by decide +kernel
theorem dX8_digest_173 : decode cX8_digest 173 = .ok (.iload_n 3, 1) := by decide +kernel
theorem dX8_digest_174 : decode cX8_digest 174 = .ok (.iconst 4, 1) := by decide +kernel
theorem dX8_digest_175 : decode cX8_digest 175 = .ok (.if_icmp .ge 63, 3) := by decide +kernel
theorem dX8_digest_178 : decode cX8_digest 178 = .ok (.ldc2_w 323, 3) := by decide +kernel
theorem dX8_digest_181 : decode cX8_digest 181 = .ok (.lload_n 1, 1) := by decide +kernel
theorem dX8_digest_182 : decode cX8_digest 182 = .ok (.lmul, 1) := by decide +kernel
theorem dX8_digest_183 : decode cX8_digest 183 = .ok (.aload_n 0, 1) := by decide +kernel
theorem dX8_digest_184 : decode cX8_digest 184 = .ok (.getfield 31, 3) := by decide +kernel
theorem dX8_digest_187 : decode cX8_digest 187 = .ok (.iload_n 3, 1) := by decide +kernel
theorem dX8_digest_188 : decode cX8_digest 188 = .ok (.iaload, 1) := by decide +kernel
theorem dX8_digest_189 : decode cX8_digest 189 = .ok (.i2l, 1) := by decide +kernel
theorem dX8_digest_190 : decode cX8_digest 190 = .ok (.ladd, 1) := by decide +kernel
theorem dX8_digest_191 : decode cX8_digest 191 = .ok (.lstore_n 1, 1) := by decide +kernel
theorem dX8_digest_192 : decode cX8_digest 192 = .ok (.iconst 0, 1) := by decide +kernel
theorem dX8_digest_193 : decode cX8_digest 193 = .ok (.istore 4, 2) := by decide +kernel
theorem dX8_digest_195 : decode cX8_digest 195 = .ok (.iload 4, 2) := by decide +kernel
theorem dX8_digest_197 : decode cX8_digest 197 = .ok (.aload_n 0, 1) := by decide +kernel
theorem dX8_digest_198 : decode cX8_digest 198 = .ok (.getfield 31, 3) := by decide +kernel
theorem dX8_digest_201 : decode cX8_digest 201 = .ok (.iload_n 3, 1) := by decide +kernel
theorem dX8_digest_202 : decode cX8_digest 202 = .ok (.iaload, 1) := by decide +kernel
theorem dX8_digest_203 : decode cX8_digest 203 = .ok (.if_icmp .ge 29, 3) := by decide +kernel
theorem dX8_digest_206 : decode cX8_digest 206 = .ok (.ldc2_w 323, 3) := by decide +kernel
theorem dX8_digest_209 : decode cX8_digest 209 = .ok (.lload_n 1, 1) := by decide +kernel
theorem dX8_digest_210 : decode cX8_digest 210 = .ok (.lmul, 1) := by decide +kernel
theorem dX8_digest_211 : decode cX8_digest 211 = .ok (.aload_n 0, 1) := by decide +kernel
theorem dX8_digest_212 : decode cX8_digest 212 = .ok (.getfield 34, 3) := by decide +kernel
theorem dX8_digest_215 : decode cX8_digest 215 = .ok (.bipush 60, 2) := by decide +kernel
theorem dX8_digest_217 : decode cX8_digest 217 = .ok (.iload_n 3, 1) := by decide +kernel
theorem dX8_digest_218 : decode cX8_digest 218 = .ok (.imul, 1) := by decide +kernel
theorem dX8_digest_219 : decode cX8_digest 219 = .ok (.iload 4, 2) := by decide +kernel
theorem dX8_digest_221 : decode cX8_digest 221 = .ok (.iadd, 1) := by decide +kernel
theorem dX8_digest_222 : decode cX8_digest 222 = .ok (.iaload, 1) := by decide +kernel
theorem dX8_digest_223 : decode cX8_digest 223 = .ok (.i2l, 1) := by decide +kernel
theorem dX8_digest_224 : decode cX8_digest 224 = .ok (.ladd, 1) := by decide +kernel
theorem dX8_digest_225 : decode cX8_digest 225 = .ok (.lstore_n 1, 1) := by decide +kernel
theorem dX8_digest_226 : decode cX8_digest 226 = .ok (.iinc 4 1, 3) := by decide +kernel
theorem dX8_digest_229 : decode cX8_digest 229 = .ok (.goto (-34), 3) := by decide +kernel
theorem dX8_digest_232 : decode cX8_digest 232 = .ok (.iinc 3 1, 3) := by decide +kernel
theorem dX8_digest_235 : decode cX8_digest 235 = .ok (.goto (-62), 3) := by decide +kernel
theorem dX8_digest_238 : decode cX8_digest 238 = .ok (.lload_n 1, 1) := by decide +kernel
theorem dX8_digest_239 : decode cX8_digest 239 = .ok (.lreturn, 1) := by decide +kernel
theorem dJ6_bitCount_0f7a4_0 : decode cJ6_bitCount_0f7a4 0 = .ok (.iload_n 0, 1) := by decide +kernel
theorem dJ6_bitCount_0f7a4_1 : decode cJ6_bitCount_0f7a4 1 = .ok (.iload_n 0, 1) := by decide +kernel
theorem dJ6_bitCount_0f7a4_2 : decode cJ6_bitCount_0f7a4 2 = .ok (.iconst 1, 1) := by decide +kernel
theorem dJ6_bitCount_0f7a4_3 : decode cJ6_bitCount_0f7a4 3 = .ok (.iushr, 1) := by decide +kernel
theorem dJ6_bitCount_0f7a4_4 : decode cJ6_bitCount_0f7a4 4 = .ok (.ldc_w 265, 3) := by decide +kernel
theorem dJ6_bitCount_0f7a4_7 : decode cJ6_bitCount_0f7a4 7 = .ok (.iand, 1) := by decide +kernel
theorem dJ6_bitCount_0f7a4_8 : decode cJ6_bitCount_0f7a4 8 = .ok (.isub, 1) := by decide +kernel
theorem dJ6_bitCount_0f7a4_9 : decode cJ6_bitCount_0f7a4 9 = .ok (.istore_n 0, 1) := by decide +kernel
theorem dJ6_bitCount_0f7a4_10 : decode cJ6_bitCount_0f7a4 10 = .ok (.iload_n 0, 1) := by decide +kernel
theorem dJ6_bitCount_0f7a4_11 : decode cJ6_bitCount_0f7a4 11 = .ok (.ldc_w 266, 3) := by decide +kernel
theorem dJ6_bitCount_0f7a4_14 : decode cJ6_bitCount_0f7a4 14 = .ok (.iand, 1) := by decide +kernel
theorem dJ6_bitCount_0f7a4_15 : decode cJ6_bitCount_0f7a4 15 = .ok (.iload_n 0, 1) := by decide +kernel
theorem dJ6_bitCount_0f7a4_16 : decode cJ6_bitCount_0f7a4 16 = .ok (.iconst 2, 1) := by decide +kernel
theorem dJ6_bitCount_0f7a4_17 : decode cJ6_bitCount_0f7a4 17 = .ok (.iushr, 1) := by decide +kernel
theorem dJ6_bitCount_0f7a4_18 : decode cJ6_bitCount_0f7a4 18 = .ok (.ldc_w 266, 3) := by decide +kernel
theorem dJ6_bitCount_0f7a4_21 : decode cJ6_bitCount_0f7a4 21 = .ok (.iand, 1) := by decide +kernel
theorem dJ6_bitCount_0f7a4_22 : decode cJ6_bitCount_0f7a4 22 = .ok (.iadd, 1) := by decide +kernel
theorem dJ6_bitCount_0f7a4_23 : decode cJ6_bitCount_0f7a4 23 = .ok (.istore_n 0, 1) := by decide +kernel
theorem dJ6_bitCount_0f7a4_24 : decode cJ6_bitCount_0f7a4 24 = .ok (.iload_n 0, 1) := by decide +kernel
theorem dJ6_bitCount_0f7a4_25 : decode cJ6_bitCount_0f7a4 25 = .ok (.iload_n 0, 1) := by decide +kernel
theorem dJ6_bitCount_0f7a4_26 : decode cJ6_bitCount_0f7a4 26 = .ok (.iconst 4, 1) := by decide +kernel
theorem dJ6_bitCount_0f7a4_27 : decode cJ6_bitCount_0f7a4 27 = .ok (.iushr, 1) := by decide +kernel
theorem dJ6_bitCount_0f7a4_28 : decode cJ6_bitCount_0f7a4 28 = .ok (.iadd, 1) := by decide +kernel
theorem dJ6_bitCount_0f7a4_29 : decode cJ6_bitCount_0f7a4 29 = .ok (.ldc_w 267, 3) := by decide +kernel
theorem dJ6_bitCount_0f7a4_32 : decode cJ6_bitCount_0f7a4 32 = .ok (.iand, 1) := by decide +kernel
theorem dJ6_bitCount_0f7a4_33 : decode cJ6_bitCount_0f7a4 33 = .ok (.istore_n 0, 1) := by decide +kernel
theorem dJ6_bitCount_0f7a4_34 : decode cJ6_bitCount_0f7a4 34 = .ok (.iload_n 0, 1) := by decide +kernel
theorem dJ6_bitCount_0f7a4_35 : decode cJ6_bitCount_0f7a4 35 = .ok (.iload_n 0, 1) := by decide +kernel
theorem dJ6_bitCount_0f7a4_36 : decode cJ6_bitCount_0f7a4 36 = .ok (.bipush 8, 2) := by decide +kernel
theorem dJ6_bitCount_0f7a4_38 : decode cJ6_bitCount_0f7a4 38 = .ok (.iushr, 1) := by decide +kernel
theorem dJ6_bitCount_0f7a4_39 : decode cJ6_bitCount_0f7a4 39 = .ok (.iadd, 1) := by decide +kernel
theorem dJ6_bitCount_0f7a4_40 : decode cJ6_bitCount_0f7a4 40 = .ok (.istore_n 0, 1) := by decide +kernel
theorem dJ6_bitCount_0f7a4_41 : decode cJ6_bitCount_0f7a4 41 = .ok (.iload_n 0, 1) := by decide +kernel
theorem dJ6_bitCount_0f7a4_42 : decode cJ6_bitCount_0f7a4 42 = .ok (.iload_n 0, 1) := by decide +kernel
theorem dJ6_bitCount_0f7a4_43 : decode cJ6_bitCount_0f7a4 43 = .ok (.bipush 16, 2) := by decide +kernel
theorem dJ6_bitCount_0f7a4_45 : decode cJ6_bitCount_0f7a4 45 = .ok (.iushr, 1) := by decide +kernel
theorem dJ6_bitCount_0f7a4_46 : decode cJ6_bitCount_0f7a4 46 = .ok (.iadd, 1) := by decide +kernel
theorem dJ6_bitCount_0f7a4_47 : decode cJ6_bitCount_0f7a4 47 = .ok (.istore_n 0, 1) := by decide +kernel
theorem dJ6_bitCount_0f7a4_48 : decode cJ6_bitCount_0f7a4 48 = .ok (.iload_n 0, 1) := by decide +kernel
theorem dJ6_bitCount_0f7a4_49 : decode cJ6_bitCount_0f7a4 49 = .ok (.bipush 63, 2) := by decide +kernel
theorem dJ6_bitCount_0f7a4_51 : decode cJ6_bitCount_0f7a4 51 = .ok (.iand, 1) := by decide +kernel
theorem dJ6_bitCount_0f7a4_52 : decode cJ6_bitCount_0f7a4 52 = .ok (.ireturn, 1) := by decide +kernel
theorem dL_law_0 : decode cL_law 0 = .ok (.new 7, 3) := by decide +kernel
theorem dL_law_3 : decode cL_law 3 = .ok (.dup, 1) := by decide +kernel
theorem dL_law_4 : decode cL_law 4 = .ok (.invokespecial 9, 3) := by decide +kernel
theorem dL_law_7 : decode cL_law 7 = .ok (.astore_n 1, 1) := by decide +kernel
theorem dL_law_8 : decode cL_law 8 = .ok (.new 10, 3) := by decide +kernel
theorem dL_law_11 : decode cL_law 11 = .ok (.dup, 1) := by decide +kernel
theorem dL_law_12 : decode cL_law 12 = .ok (.invokespecial 12, 3) := by decide +kernel
theorem dL_law_15 : decode cL_law 15 = .ok (.astore_n 2, 1) := by decide +kernel
theorem dL_law_16 : decode cL_law 16 = .ok (.iconst 0, 1) := by decide +kernel
theorem dL_law_17 : decode cL_law 17 = .ok (.istore_n 3, 1) := by decide +kernel
theorem dL_law_18 : decode cL_law 18 = .ok (.iload_n 3, 1) := by decide +kernel
theorem dL_law_19 : decode cL_law 19 = .ok (.aload_n 0, 1) := by decide +kernel
theorem dL_law_20 : decode cL_law 20 = .ok (.arraylength, 1) := by decide +kernel
theorem dL_law_21 : decode cL_law 21 = .ok (.bipush 6, 2) := by decide +kernel
theorem dL_law_23 : decode cL_law 23 = .ok (.isub, 1) := by decide +kernel
theorem dL_law_24 : decode cL_law 24 = .ok (.if_icmp .gt 1230, 3) := by decide +kernel
theorem dL_law_27 : decode cL_law 27 = .ok (.aload_n 0, 1) := by decide +kernel
theorem dL_law_28 : decode cL_law 28 = .ok (.iload_n 3, 1) := by decide +kernel
theorem dL_law_29 : decode cL_law 29 = .ok (.iaload, 1) := by decide +kernel
theorem dL_law_30 : decode cL_law 30 = .ok (.bipush 63, 2) := by decide +kernel
theorem dL_law_32 : decode cL_law 32 = .ok (.iand, 1) := by decide +kernel
theorem dL_law_33 : decode cL_law 33 = .ok (.tableswitch 1215 0 40 #[179, 212, 255, 288, 311, 374, 397, 430, 473, 496, 519, 552, 585, 608, 631, 654, 677, 700, 723, 736, 759, 772, 805, 828, 851, 874, 887, 910, 933, 966, 999, 1022, 1045, 1068, 1101, 1114, 1128, 1142, 1165, 1178, 1201], 179) := by decide +kernel
theorem dL_law_212 : decode cL_law 212 = .ok (.aload_n 1, 1) := by decide +kernel
theorem dL_law_213 : decode cL_law 213 = .ok (.aload_n 0, 1) := by decide +kernel
theorem dL_law_214 : decode cL_law 214 = .ok (.iload_n 3, 1) := by decide +kernel
theorem dL_law_215 : decode cL_law 215 = .ok (.iconst 1, 1) := by decide +kernel
theorem dL_law_216 : decode cL_law 216 = .ok (.iadd, 1) := by decide +kernel
theorem dL_law_217 : decode cL_law 217 = .ok (.iaload, 1) := by decide +kernel
theorem dL_law_218 : decode cL_law 218 = .ok (.aload_n 0, 1) := by decide +kernel
theorem dL_law_219 : decode cL_law 219 = .ok (.iload_n 3, 1) := by decide +kernel
theorem dL_law_220 : decode cL_law 220 = .ok (.iconst 2, 1) := by decide +kernel
theorem dL_law_221 : decode cL_law 221 = .ok (.iadd, 1) := by decide +kernel
theorem dL_law_222 : decode cL_law 222 = .ok (.iaload, 1) := by decide +kernel
theorem dL_law_223 : decode cL_law 223 = .ok (.invokevirtual 13, 3) := by decide +kernel
theorem dL_law_226 : decode cL_law 226 = .ok (.aload_n 2, 1) := by decide +kernel
theorem dL_law_227 : decode cL_law 227 = .ok (.aload_n 0, 1) := by decide +kernel
theorem dL_law_228 : decode cL_law 228 = .ok (.iload_n 3, 1) := by decide +kernel
theorem dL_law_229 : decode cL_law 229 = .ok (.iconst 1, 1) := by decide +kernel
theorem dL_law_230 : decode cL_law 230 = .ok (.iadd, 1) := by decide +kernel
theorem dL_law_231 : decode cL_law 231 = .ok (.iaload, 1) := by decide +kernel
theorem dL_law_232 : decode cL_law 232 = .ok (.aload_n 0, 1) := by decide +kernel
theorem dL_law_233 : decode cL_law 233 = .ok (.iload_n 3, 1) := by decide +kernel
theorem dL_law_234 : decode cL_law 234 = .ok (.iconst 2, 1) := by decide +kernel
theorem dL_law_235 : decode cL_law 235 = .ok (.iadd, 1) := by decide +kernel
theorem dL_law_236 : decode cL_law 236 = .ok (.iaload, 1) := by decide +kernel
theorem dL_law_237 : decode cL_law 237 = .ok (.invokevirtual 17, 3) := by decide +kernel
theorem dL_law_240 : decode cL_law 240 = .ok (.if_icmp .eq 1008, 3) := by decide +kernel
theorem dL_law_243 : decode cL_law 243 = .ok (.iconst 0, 1) := by decide +kernel
theorem dL_law_244 : decode cL_law 244 = .ok (.ireturn, 1) := by decide +kernel
theorem dL_law_245 : decode cL_law 245 = .ok (.aload_n 1, 1) := by decide +kernel
theorem dL_law_246 : decode cL_law 246 = .ok (.aload_n 0, 1) := by decide +kernel
theorem dL_law_247 : decode cL_law 247 = .ok (.iload_n 3, 1) := by decide +kernel
theorem dL_law_248 : decode cL_law 248 = .ok (.iconst 1, 1) := by decide +kernel
theorem dL_law_249 : decode cL_law 249 = .ok (.iadd, 1) := by decide +kernel
theorem dL_law_250 : decode cL_law 250 = .ok (.iaload, 1) := by decide +kernel
theorem dL_law_251 : decode cL_law 251 = .ok (.aload_n 0, 1) := by decide +kernel
theorem dL_law_252 : decode cL_law 252 = .ok (.iload_n 3, 1) := by decide +kernel
theorem dL_law_253 : decode cL_law 253 = .ok (.iconst 2, 1) := by decide +kernel
theorem dL_law_254 : decode cL_law 254 = .ok (.iadd, 1) := by decide +kernel
theorem dL_law_255 : decode cL_law 255 = .ok (.iaload, 1) := by decide +kernel
theorem dL_law_256 : decode cL_law 256 = .ok (.aload_n 0, 1) := by decide +kernel
theorem dL_law_257 : decode cL_law 257 = .ok (.iload_n 3, 1) := by decide +kernel
theorem dL_law_258 : decode cL_law 258 = .ok (.iconst 3, 1) := by decide +kernel
theorem dL_law_259 : decode cL_law 259 = .ok (.iadd, 1) := by decide +kernel
theorem dL_law_260 : decode cL_law 260 = .ok (.iaload, 1) := by decide +kernel
theorem dL_law_261 : decode cL_law 261 = .ok (.invokevirtual 18, 3) := by decide +kernel
theorem dL_law_264 : decode cL_law 264 = .ok (.aload_n 2, 1) := by decide +kernel
theorem dL_law_265 : decode cL_law 265 = .ok (.aload_n 0, 1) := by decide +kernel
theorem dL_law_266 : decode cL_law 266 = .ok (.iload_n 3, 1) := by decide +kernel
theorem dL_law_267 : decode cL_law 267 = .ok (.iconst 1, 1) := by decide +kernel
theorem dL_law_268 : decode cL_law 268 = .ok (.iadd, 1) := by decide +kernel
theorem dL_law_269 : decode cL_law 269 = .ok (.iaload, 1) := by decide +kernel
theorem dL_law_270 : decode cL_law 270 = .ok (.aload_n 0, 1) := by decide +kernel
theorem dL_law_271 : decode cL_law 271 = .ok (.iload_n 3, 1) := by decide +kernel
theorem dL_law_272 : decode cL_law 272 = .ok (.iconst 2, 1) := by decide +kernel
theorem dL_law_273 : decode cL_law 273 = .ok (.iadd, 1) := by decide +kernel
theorem dL_law_274 : decode cL_law 274 = .ok (.iaload, 1) := by decide +kernel
theorem dL_law_275 : decode cL_law 275 = .ok (.aload_n 0, 1) := by decide +kernel
theorem dL_law_276 : decode cL_law 276 = .ok (.iload_n 3, 1) := by decide +kernel
theorem dL_law_277 : decode cL_law 277 = .ok (.iconst 3, 1) := by decide +kernel
theorem dL_law_278 : decode cL_law 278 = .ok (.iadd, 1) := by decide +kernel
theorem dL_law_279 : decode cL_law 279 = .ok (.iaload, 1) := by decide +kernel
theorem dL_law_280 : decode cL_law 280 = .ok (.invokevirtual 22, 3) := by decide +kernel
theorem dL_law_283 : decode cL_law 283 = .ok (.if_icmp .eq 965, 3) := by decide +kernel
theorem dL_law_286 : decode cL_law 286 = .ok (.iconst 0, 1) := by decide +kernel
theorem dL_law_287 : decode cL_law 287 = .ok (.ireturn, 1) := by decide +kernel
theorem dL_law_288 : decode cL_law 288 = .ok (.aload_n 1, 1) := by decide +kernel
theorem dL_law_289 : decode cL_law 289 = .ok (.aload_n 0, 1) := by decide +kernel
theorem dL_law_290 : decode cL_law 290 = .ok (.iload_n 3, 1) := by decide +kernel
theorem dL_law_291 : decode cL_law 291 = .ok (.iconst 1, 1) := by decide +kernel
theorem dL_law_292 : decode cL_law 292 = .ok (.iadd, 1) := by decide +kernel
theorem dL_law_293 : decode cL_law 293 = .ok (.iaload, 1) := by decide +kernel
theorem dL_law_294 : decode cL_law 294 = .ok (.aload_n 0, 1) := by decide +kernel
theorem dL_law_295 : decode cL_law 295 = .ok (.iload_n 3, 1) := by decide +kernel
theorem dL_law_296 : decode cL_law 296 = .ok (.iconst 2, 1) := by decide +kernel
theorem dL_law_297 : decode cL_law 297 = .ok (.iadd, 1) := by decide +kernel
theorem dL_law_298 : decode cL_law 298 = .ok (.iaload, 1) := by decide +kernel
theorem dL_law_299 : decode cL_law 299 = .ok (.invokevirtual 23, 3) := by decide +kernel
theorem dL_law_302 : decode cL_law 302 = .ok (.aload_n 2, 1) := by decide +kernel
theorem dL_law_303 : decode cL_law 303 = .ok (.aload_n 0, 1) := by decide +kernel
theorem dL_law_304 : decode cL_law 304 = .ok (.iload_n 3, 1) := by decide +kernel
theorem dL_law_305 : decode cL_law 305 = .ok (.iconst 1, 1) := by decide +kernel
theorem dL_law_306 : decode cL_law 306 = .ok (.iadd, 1) := by decide +kernel
theorem dL_law_307 : decode cL_law 307 = .ok (.iaload, 1) := by decide +kernel
theorem dL_law_308 : decode cL_law 308 = .ok (.aload_n 0, 1) := by decide +kernel
theorem dL_law_309 : decode cL_law 309 = .ok (.iload_n 3, 1) := by decide +kernel
theorem dL_law_310 : decode cL_law 310 = .ok (.iconst 2, 1) := by decide +kernel
theorem dL_law_311 : decode cL_law 311 = .ok (.iadd, 1) := by decide +kernel
theorem dL_law_312 : decode cL_law 312 = .ok (.iaload, 1) := by decide +kernel
theorem dL_law_313 : decode cL_law 313 = .ok (.invokevirtual 26, 3) := by decide +kernel
theorem dL_law_316 : decode cL_law 316 = .ok (.if_icmp .eq 932, 3) := by decide +kernel
theorem dL_law_319 : decode cL_law 319 = .ok (.iconst 0, 1) := by decide +kernel
theorem dL_law_320 : decode cL_law 320 = .ok (.ireturn, 1) := by decide +kernel
theorem dL_law_321 : decode cL_law 321 = .ok (.aload_n 1, 1) := by decide +kernel
theorem dL_law_322 : decode cL_law 322 = .ok (.aload_n 0, 1) := by decide +kernel
theorem dL_law_323 : decode cL_law 323 = .ok (.iload_n 3, 1) := by decide +kernel
theorem dL_law_324 : decode cL_law 324 = .ok (.iconst 1, 1) := by decide +kernel
theorem dL_law_325 : decode cL_law 325 = .ok (.iadd, 1) := by decide +kernel
theorem dL_law_326 : decode cL_law 326 = .ok (.iaload, 1) := by decide +kernel
theorem dL_law_327 : decode cL_law 327 = .ok (.invokevirtual 27, 3) := by decide +kernel
theorem dL_law_330 : decode cL_law 330 = .ok (.aload_n 2, 1) := by decide +kernel
theorem dL_law_331 : decode cL_law 331 = .ok (.aload_n 0, 1) := by decide +kernel
theorem dL_law_332 : decode cL_law 332 = .ok (.iload_n 3, 1) := by decide +kernel
theorem dL_law_333 : decode cL_law 333 = .ok (.iconst 1, 1) := by decide +kernel
theorem dL_law_334 : decode cL_law 334 = .ok (.iadd, 1) := by decide +kernel
theorem dL_law_335 : decode cL_law 335 = .ok (.iaload, 1) := by decide +kernel
theorem dL_law_336 : decode cL_law 336 = .ok (.invokevirtual 31, 3) := by decide +kernel
theorem dL_law_339 : decode cL_law 339 = .ok (.if_icmp .eq 909, 3) := by decide +kernel
theorem dL_law_342 : decode cL_law 342 = .ok (.iconst 0, 1) := by decide +kernel
theorem dL_law_343 : decode cL_law 343 = .ok (.ireturn, 1) := by decide +kernel
theorem dL_law_344 : decode cL_law 344 = .ok (.aload_n 1, 1) := by decide +kernel
theorem dL_law_345 : decode cL_law 345 = .ok (.aload_n 0, 1) := by decide +kernel
theorem dL_law_346 : decode cL_law 346 = .ok (.iload_n 3, 1) := by decide +kernel
theorem dL_law_347 : decode cL_law 347 = .ok (.iconst 1, 1) := by decide +kernel
theorem dL_law_348 : decode cL_law 348 = .ok (.iadd, 1) := by decide +kernel
theorem dL_law_349 : decode cL_law 349 = .ok (.iaload, 1) := by decide +kernel
theorem dL_law_350 : decode cL_law 350 = .ok (.aload_n 0, 1) := by decide +kernel
theorem dL_law_351 : decode cL_law 351 = .ok (.iload_n 3, 1) := by decide +kernel
theorem dL_law_352 : decode cL_law 352 = .ok (.iconst 2, 1) := by decide +kernel
theorem dL_law_353 : decode cL_law 353 = .ok (.iadd, 1) := by decide +kernel
theorem dL_law_354 : decode cL_law 354 = .ok (.iaload, 1) := by decide +kernel
theorem dL_law_355 : decode cL_law 355 = .ok (.aload_n 0, 1) := by decide +kernel
theorem dL_law_356 : decode cL_law 356 = .ok (.iload_n 3, 1) := by decide +kernel
theorem dL_law_357 : decode cL_law 357 = .ok (.iconst 3, 1) := by decide +kernel
theorem dL_law_358 : decode cL_law 358 = .ok (.iadd, 1) := by decide +kernel
theorem dL_law_359 : decode cL_law 359 = .ok (.iaload, 1) := by decide +kernel
theorem dL_law_360 : decode cL_law 360 = .ok (.aload_n 0, 1) := by decide +kernel
theorem dL_law_361 : decode cL_law 361 = .ok (.iload_n 3, 1) := by decide +kernel
theorem dL_law_362 : decode cL_law 362 = .ok (.iconst 4, 1) := by decide +kernel
theorem dL_law_363 : decode cL_law 363 = .ok (.iadd, 1) := by decide +kernel
theorem dL_law_364 : decode cL_law 364 = .ok (.iaload, 1) := by decide +kernel
theorem dL_law_365 : decode cL_law 365 = .ok (.aload_n 0, 1) := by decide +kernel
theorem dL_law_366 : decode cL_law 366 = .ok (.iload_n 3, 1) := by decide +kernel
theorem dL_law_367 : decode cL_law 367 = .ok (.iconst 5, 1) := by decide +kernel
theorem dL_law_368 : decode cL_law 368 = .ok (.iadd, 1) := by decide +kernel
theorem dL_law_369 : decode cL_law 369 = .ok (.iaload, 1) := by decide +kernel
theorem dL_law_370 : decode cL_law 370 = .ok (.invokevirtual 32, 3) := by decide +kernel
theorem dL_law_373 : decode cL_law 373 = .ok (.aload_n 2, 1) := by decide +kernel
theorem dL_law_374 : decode cL_law 374 = .ok (.aload_n 0, 1) := by decide +kernel
theorem dL_law_375 : decode cL_law 375 = .ok (.iload_n 3, 1) := by decide +kernel
theorem dL_law_376 : decode cL_law 376 = .ok (.iconst 1, 1) := by decide +kernel
theorem dL_law_377 : decode cL_law 377 = .ok (.iadd, 1) := by decide +kernel
theorem dL_law_378 : decode cL_law 378 = .ok (.iaload, 1) := by decide +kernel
theorem dL_law_379 : decode cL_law 379 = .ok (.aload_n 0, 1) := by decide +kernel
theorem dL_law_380 : decode cL_law 380 = .ok (.iload_n 3, 1) := by decide +kernel
theorem dL_law_381 : decode cL_law 381 = .ok (.iconst 2, 1) := by decide +kernel
theorem dL_law_382 : decode cL_law 382 = .ok (.iadd, 1) := by decide +kernel
theorem dL_law_383 : decode cL_law 383 = .ok (.iaload, 1) := by decide +kernel
theorem dL_law_384 : decode cL_law 384 = .ok (.aload_n 0, 1) := by decide +kernel
theorem dL_law_385 : decode cL_law 385 = .ok (.iload_n 3, 1) := by decide +kernel
theorem dL_law_386 : decode cL_law 386 = .ok (.iconst 3, 1) := by decide +kernel
theorem dL_law_387 : decode cL_law 387 = .ok (.iadd, 1) := by decide +kernel
theorem dL_law_388 : decode cL_law 388 = .ok (.iaload, 1) := by decide +kernel
theorem dL_law_389 : decode cL_law 389 = .ok (.aload_n 0, 1) := by decide +kernel
theorem dL_law_390 : decode cL_law 390 = .ok (.iload_n 3, 1) := by decide +kernel
theorem dL_law_391 : decode cL_law 391 = .ok (.iconst 4, 1) := by decide +kernel
theorem dL_law_392 : decode cL_law 392 = .ok (.iadd, 1) := by decide +kernel
theorem dL_law_393 : decode cL_law 393 = .ok (.iaload, 1) := by decide +kernel
theorem dL_law_394 : decode cL_law 394 = .ok (.aload_n 0, 1) := by decide +kernel
theorem dL_law_395 : decode cL_law 395 = .ok (.iload_n 3, 1) := by decide +kernel
theorem dL_law_396 : decode cL_law 396 = .ok (.iconst 5, 1) := by decide +kernel
theorem dL_law_397 : decode cL_law 397 = .ok (.iadd, 1) := by decide +kernel
theorem dL_law_398 : decode cL_law 398 = .ok (.iaload, 1) := by decide +kernel
theorem dL_law_399 : decode cL_law 399 = .ok (.invokevirtual 36, 3) := by decide +kernel
theorem dL_law_402 : decode cL_law 402 = .ok (.if_icmp .eq 846, 3) := by decide +kernel
theorem dL_law_405 : decode cL_law 405 = .ok (.iconst 0, 1) := by decide +kernel
theorem dL_law_406 : decode cL_law 406 = .ok (.ireturn, 1) := by decide +kernel
theorem dL_law_407 : decode cL_law 407 = .ok (.aload_n 1, 1) := by decide +kernel
theorem dL_law_408 : decode cL_law 408 = .ok (.aload_n 0, 1) := by decide +kernel
theorem dL_law_409 : decode cL_law 409 = .ok (.iload_n 3, 1) := by decide +kernel
theorem dL_law_410 : decode cL_law 410 = .ok (.iconst 1, 1) := by decide +kernel
theorem dL_law_411 : decode cL_law 411 = .ok (.iadd, 1) := by decide +kernel
theorem dL_law_412 : decode cL_law 412 = .ok (.iaload, 1) := by decide +kernel
theorem dL_law_413 : decode cL_law 413 = .ok (.invokevirtual 37, 3) := by decide +kernel
theorem dL_law_416 : decode cL_law 416 = .ok (.aload_n 2, 1) := by decide +kernel
theorem dL_law_417 : decode cL_law 417 = .ok (.aload_n 0, 1) := by decide +kernel
theorem dL_law_418 : decode cL_law 418 = .ok (.iload_n 3, 1) := by decide +kernel
theorem dL_law_419 : decode cL_law 419 = .ok (.iconst 1, 1) := by decide +kernel
theorem dL_law_420 : decode cL_law 420 = .ok (.iadd, 1) := by decide +kernel
theorem dL_law_421 : decode cL_law 421 = .ok (.iaload, 1) := by decide +kernel
theorem dL_law_422 : decode cL_law 422 = .ok (.invokevirtual 40, 3) := by decide +kernel
theorem dL_law_425 : decode cL_law 425 = .ok (.if_icmp .eq 823, 3) := by decide +kernel
theorem dL_law_428 : decode cL_law 428 = .ok (.iconst 0, 1) := by decide +kernel
theorem dL_law_429 : decode cL_law 429 = .ok (.ireturn, 1) := by decide +kernel
theorem dL_law_430 : decode cL_law 430 = .ok (.aload_n 1, 1) := by decide +kernel
theorem dL_law_431 : decode cL_law 431 = .ok (.aload_n 0, 1) := by decide +kernel
theorem dL_law_432 : decode cL_law 432 = .ok (.iload_n 3, 1) := by decide +kernel
theorem dL_law_433 : decode cL_law 433 = .ok (.iconst 1, 1) := by decide +kernel
theorem dL_law_434 : decode cL_law 434 = .ok (.iadd, 1) := by decide +kernel
theorem dL_law_435 : decode cL_law 435 = .ok (.iaload, 1) := by decide +kernel
theorem dL_law_436 : decode cL_law 436 = .ok (.aload_n 0, 1) := by decide +kernel
theorem dL_law_437 : decode cL_law 437 = .ok (.iload_n 3, 1) := by decide +kernel
theorem dL_law_438 : decode cL_law 438 = .ok (.iconst 2, 1) := by decide +kernel
theorem dL_law_439 : decode cL_law 439 = .ok (.iadd, 1) := by decide +kernel
theorem dL_law_440 : decode cL_law 440 = .ok (.iaload, 1) := by decide +kernel
theorem dL_law_441 : decode cL_law 441 = .ok (.invokevirtual 41, 3) := by decide +kernel
theorem dL_law_444 : decode cL_law 444 = .ok (.aload_n 2, 1) := by decide +kernel
theorem dL_law_445 : decode cL_law 445 = .ok (.aload_n 0, 1) := by decide +kernel
theorem dL_law_446 : decode cL_law 446 = .ok (.iload_n 3, 1) := by decide +kernel
theorem dL_law_447 : decode cL_law 447 = .ok (.iconst 1, 1) := by decide +kernel
theorem dL_law_448 : decode cL_law 448 = .ok (.iadd, 1) := by decide +kernel
theorem dL_law_449 : decode cL_law 449 = .ok (.iaload, 1) := by decide +kernel
theorem dL_law_450 : decode cL_law 450 = .ok (.aload_n 0, 1) := by decide +kernel
theorem dL_law_451 : decode cL_law 451 = .ok (.iload_n 3, 1) := by decide +kernel
theorem dL_law_452 : decode cL_law 452 = .ok (.iconst 2, 1) := by decide +kernel
theorem dL_law_453 : decode cL_law 453 = .ok (.iadd, 1) := by decide +kernel
theorem dL_law_454 : decode cL_law 454 = .ok (.iaload, 1) := by decide +kernel
theorem dL_law_455 : decode cL_law 455 = .ok (.invokevirtual 44, 3) := by decide +kernel
theorem dL_law_458 : decode cL_law 458 = .ok (.if_icmp .eq 790, 3) := by decide +kernel
theorem dL_law_461 : decode cL_law 461 = .ok (.iconst 0, 1) := by decide +kernel
theorem dL_law_462 : decode cL_law 462 = .ok (.ireturn, 1) := by decide +kernel
theorem dL_law_463 : decode cL_law 463 = .ok (.aload_n 1, 1) := by decide +kernel
theorem dL_law_464 : decode cL_law 464 = .ok (.aload_n 0, 1) := by decide +kernel
theorem dL_law_465 : decode cL_law 465 = .ok (.iload_n 3, 1) := by decide +kernel
theorem dL_law_466 : decode cL_law 466 = .ok (.iconst 1, 1) := by decide +kernel
theorem dL_law_467 : decode cL_law 467 = .ok (.iadd, 1) := by decide +kernel
theorem dL_law_468 : decode cL_law 468 = .ok (.iaload, 1) := by decide +kernel
theorem dL_law_469 : decode cL_law 469 = .ok (.aload_n 0, 1) := by decide +kernel
theorem dL_law_470 : decode cL_law 470 = .ok (.iload_n 3, 1) := by decide +kernel
theorem dL_law_471 : decode cL_law 471 = .ok (.iconst 2, 1) := by decide +kernel
theorem dL_law_472 : decode cL_law 472 = .ok (.iadd, 1) := by decide +kernel
theorem dL_law_473 : decode cL_law 473 = .ok (.iaload, 1) := by decide +kernel
theorem dL_law_474 : decode cL_law 474 = .ok (.aload_n 0, 1) := by decide +kernel
theorem dL_law_475 : decode cL_law 475 = .ok (.iload_n 3, 1) := by decide +kernel
theorem dL_law_476 : decode cL_law 476 = .ok (.iconst 3, 1) := by decide +kernel
theorem dL_law_477 : decode cL_law 477 = .ok (.iadd, 1) := by decide +kernel
theorem dL_law_478 : decode cL_law 478 = .ok (.iaload, 1) := by decide +kernel
theorem dL_law_479 : decode cL_law 479 = .ok (.invokevirtual 45, 3) := by decide +kernel
theorem dL_law_482 : decode cL_law 482 = .ok (.aload_n 2, 1) := by decide +kernel
theorem dL_law_483 : decode cL_law 483 = .ok (.aload_n 0, 1) := by decide +kernel
theorem dL_law_484 : decode cL_law 484 = .ok (.iload_n 3, 1) := by decide +kernel
theorem dL_law_485 : decode cL_law 485 = .ok (.iconst 1, 1) := by decide +kernel
theorem dL_law_486 : decode cL_law 486 = .ok (.iadd, 1) := by decide +kernel
theorem dL_law_487 : decode cL_law 487 = .ok (.iaload, 1) := by decide +kernel
theorem dL_law_488 : decode cL_law 488 = .ok (.aload_n 0, 1) := by decide +kernel
theorem dL_law_489 : decode cL_law 489 = .ok (.iload_n 3, 1) := by decide +kernel
theorem dL_law_490 : decode cL_law 490 = .ok (.iconst 2, 1) := by decide +kernel
theorem dL_law_491 : decode cL_law 491 = .ok (.iadd, 1) := by decide +kernel
theorem dL_law_492 : decode cL_law 492 = .ok (.iaload, 1) := by decide +kernel
theorem dL_law_493 : decode cL_law 493 = .ok (.aload_n 0, 1) := by decide +kernel
theorem dL_law_494 : decode cL_law 494 = .ok (.iload_n 3, 1) := by decide +kernel
theorem dL_law_495 : decode cL_law 495 = .ok (.iconst 3, 1) := by decide +kernel
theorem dL_law_496 : decode cL_law 496 = .ok (.iadd, 1) := by decide +kernel
theorem dL_law_497 : decode cL_law 497 = .ok (.iaload, 1) := by decide +kernel
theorem dL_law_498 : decode cL_law 498 = .ok (.invokevirtual 48, 3) := by decide +kernel
theorem dL_law_501 : decode cL_law 501 = .ok (.if_icmp .eq 747, 3) := by decide +kernel
theorem dL_law_504 : decode cL_law 504 = .ok (.iconst 0, 1) := by decide +kernel
theorem dL_law_505 : decode cL_law 505 = .ok (.ireturn, 1) := by decide +kernel
theorem dL_law_506 : decode cL_law 506 = .ok (.aload_n 1, 1) := by decide +kernel
theorem dL_law_507 : decode cL_law 507 = .ok (.aload_n 0, 1) := by decide +kernel
theorem dL_law_508 : decode cL_law 508 = .ok (.iload_n 3, 1) := by decide +kernel
theorem dL_law_509 : decode cL_law 509 = .ok (.iconst 1, 1) := by decide +kernel
theorem dL_law_510 : decode cL_law 510 = .ok (.iadd, 1) := by decide +kernel
theorem dL_law_511 : decode cL_law 511 = .ok (.iaload, 1) := by decide +kernel
theorem dL_law_512 : decode cL_law 512 = .ok (.invokevirtual 49, 3) := by decide +kernel
theorem dL_law_515 : decode cL_law 515 = .ok (.aload_n 2, 1) := by decide +kernel
theorem dL_law_516 : decode cL_law 516 = .ok (.aload_n 0, 1) := by decide +kernel
theorem dL_law_517 : decode cL_law 517 = .ok (.iload_n 3, 1) := by decide +kernel
theorem dL_law_518 : decode cL_law 518 = .ok (.iconst 1, 1) := by decide +kernel
theorem dL_law_519 : decode cL_law 519 = .ok (.iadd, 1) := by decide +kernel
theorem dL_law_520 : decode cL_law 520 = .ok (.iaload, 1) := by decide +kernel
theorem dL_law_521 : decode cL_law 521 = .ok (.invokevirtual 52, 3) := by decide +kernel
theorem dL_law_524 : decode cL_law 524 = .ok (.if_icmp .eq 724, 3) := by decide +kernel
theorem dL_law_527 : decode cL_law 527 = .ok (.iconst 0, 1) := by decide +kernel
theorem dL_law_528 : decode cL_law 528 = .ok (.ireturn, 1) := by decide +kernel
theorem dL_law_529 : decode cL_law 529 = .ok (.aload_n 1, 1) := by decide +kernel
theorem dL_law_530 : decode cL_law 530 = .ok (.aload_n 0, 1) := by decide +kernel
theorem dL_law_531 : decode cL_law 531 = .ok (.iload_n 3, 1) := by decide +kernel
theorem dL_law_532 : decode cL_law 532 = .ok (.iconst 1, 1) := by decide +kernel
theorem dL_law_533 : decode cL_law 533 = .ok (.iadd, 1) := by decide +kernel
theorem dL_law_534 : decode cL_law 534 = .ok (.iaload, 1) := by decide +kernel
theorem dL_law_535 : decode cL_law 535 = .ok (.invokevirtual 53, 3) := by decide +kernel
theorem dL_law_538 : decode cL_law 538 = .ok (.aload_n 2, 1) := by decide +kernel
theorem dL_law_539 : decode cL_law 539 = .ok (.aload_n 0, 1) := by decide +kernel
theorem dL_law_540 : decode cL_law 540 = .ok (.iload_n 3, 1) := by decide +kernel
theorem dL_law_541 : decode cL_law 541 = .ok (.iconst 1, 1) := by decide +kernel
theorem dL_law_542 : decode cL_law 542 = .ok (.iadd, 1) := by decide +kernel
theorem dL_law_543 : decode cL_law 543 = .ok (.iaload, 1) := by decide +kernel
theorem dL_law_544 : decode cL_law 544 = .ok (.invokevirtual 56, 3) := by decide +kernel
theorem dL_law_547 : decode cL_law 547 = .ok (.if_icmp .eq 701, 3) := by decide +kernel
theorem dL_law_550 : decode cL_law 550 = .ok (.iconst 0, 1) := by decide +kernel
theorem dL_law_551 : decode cL_law 551 = .ok (.ireturn, 1) := by decide +kernel
theorem dL_law_552 : decode cL_law 552 = .ok (.aload_n 1, 1) := by decide +kernel
theorem dL_law_553 : decode cL_law 553 = .ok (.aload_n 0, 1) := by decide +kernel
theorem dL_law_554 : decode cL_law 554 = .ok (.iload_n 3, 1) := by decide +kernel
theorem dL_law_555 : decode cL_law 555 = .ok (.iconst 1, 1) := by decide +kernel
theorem dL_law_556 : decode cL_law 556 = .ok (.iadd, 1) := by decide +kernel
theorem dL_law_557 : decode cL_law 557 = .ok (.iaload, 1) := by decide +kernel
theorem dL_law_558 : decode cL_law 558 = .ok (.aload_n 0, 1) := by decide +kernel
theorem dL_law_559 : decode cL_law 559 = .ok (.iload_n 3, 1) := by decide +kernel
theorem dL_law_560 : decode cL_law 560 = .ok (.iconst 2, 1) := by decide +kernel
theorem dL_law_561 : decode cL_law 561 = .ok (.iadd, 1) := by decide +kernel
theorem dL_law_562 : decode cL_law 562 = .ok (.iaload, 1) := by decide +kernel
theorem dL_law_563 : decode cL_law 563 = .ok (.invokevirtual 57, 3) := by decide +kernel
theorem dL_law_566 : decode cL_law 566 = .ok (.aload_n 2, 1) := by decide +kernel
theorem dL_law_567 : decode cL_law 567 = .ok (.aload_n 0, 1) := by decide +kernel
theorem dL_law_568 : decode cL_law 568 = .ok (.iload_n 3, 1) := by decide +kernel
theorem dL_law_569 : decode cL_law 569 = .ok (.iconst 1, 1) := by decide +kernel
theorem dL_law_570 : decode cL_law 570 = .ok (.iadd, 1) := by decide +kernel
theorem dL_law_571 : decode cL_law 571 = .ok (.iaload, 1) := by decide +kernel
theorem dL_law_572 : decode cL_law 572 = .ok (.aload_n 0, 1) := by decide +kernel
theorem dL_law_573 : decode cL_law 573 = .ok (.iload_n 3, 1) := by decide +kernel
theorem dL_law_574 : decode cL_law 574 = .ok (.iconst 2, 1) := by decide +kernel
theorem dL_law_575 : decode cL_law 575 = .ok (.iadd, 1) := by decide +kernel
theorem dL_law_576 : decode cL_law 576 = .ok (.iaload, 1) := by decide +kernel
theorem dL_law_577 : decode cL_law 577 = .ok (.invokevirtual 60, 3) := by decide +kernel
theorem dL_law_580 : decode cL_law 580 = .ok (.if_icmp .eq 668, 3) := by decide +kernel
theorem dL_law_583 : decode cL_law 583 = .ok (.iconst 0, 1) := by decide +kernel
theorem dL_law_584 : decode cL_law 584 = .ok (.ireturn, 1) := by decide +kernel
theorem dL_law_585 : decode cL_law 585 = .ok (.aload_n 1, 1) := by decide +kernel
theorem dL_law_586 : decode cL_law 586 = .ok (.aload_n 0, 1) := by decide +kernel
theorem dL_law_587 : decode cL_law 587 = .ok (.iload_n 3, 1) := by decide +kernel
theorem dL_law_588 : decode cL_law 588 = .ok (.iconst 1, 1) := by decide +kernel
theorem dL_law_589 : decode cL_law 589 = .ok (.iadd, 1) := by decide +kernel
theorem dL_law_590 : decode cL_law 590 = .ok (.iaload, 1) := by decide +kernel
theorem dL_law_591 : decode cL_law 591 = .ok (.aload_n 0, 1) := by decide +kernel
theorem dL_law_592 : decode cL_law 592 = .ok (.iload_n 3, 1) := by decide +kernel
theorem dL_law_593 : decode cL_law 593 = .ok (.iconst 2, 1) := by decide +kernel
theorem dL_law_594 : decode cL_law 594 = .ok (.iadd, 1) := by decide +kernel
theorem dL_law_595 : decode cL_law 595 = .ok (.iaload, 1) := by decide +kernel
theorem dL_law_596 : decode cL_law 596 = .ok (.invokevirtual 61, 3) := by decide +kernel
theorem dL_law_599 : decode cL_law 599 = .ok (.aload_n 2, 1) := by decide +kernel
theorem dL_law_600 : decode cL_law 600 = .ok (.aload_n 0, 1) := by decide +kernel
theorem dL_law_601 : decode cL_law 601 = .ok (.iload_n 3, 1) := by decide +kernel
theorem dL_law_602 : decode cL_law 602 = .ok (.iconst 1, 1) := by decide +kernel
theorem dL_law_603 : decode cL_law 603 = .ok (.iadd, 1) := by decide +kernel
theorem dL_law_604 : decode cL_law 604 = .ok (.iaload, 1) := by decide +kernel
theorem dL_law_605 : decode cL_law 605 = .ok (.aload_n 0, 1) := by decide +kernel
theorem dL_law_606 : decode cL_law 606 = .ok (.iload_n 3, 1) := by decide +kernel
theorem dL_law_607 : decode cL_law 607 = .ok (.iconst 2, 1) := by decide +kernel
theorem dL_law_608 : decode cL_law 608 = .ok (.iadd, 1) := by decide +kernel
theorem dL_law_609 : decode cL_law 609 = .ok (.iaload, 1) := by decide +kernel
theorem dL_law_610 : decode cL_law 610 = .ok (.invokevirtual 64, 3) := by decide +kernel
theorem dL_law_613 : decode cL_law 613 = .ok (.if_icmp .eq 635, 3) := by decide +kernel
theorem dL_law_616 : decode cL_law 616 = .ok (.iconst 0, 1) := by decide +kernel
theorem dL_law_617 : decode cL_law 617 = .ok (.ireturn, 1) := by decide +kernel
theorem dL_law_618 : decode cL_law 618 = .ok (.aload_n 1, 1) := by decide +kernel
theorem dL_law_619 : decode cL_law 619 = .ok (.aload_n 0, 1) := by decide +kernel
theorem dL_law_620 : decode cL_law 620 = .ok (.iload_n 3, 1) := by decide +kernel
theorem dL_law_621 : decode cL_law 621 = .ok (.iconst 1, 1) := by decide +kernel
theorem dL_law_622 : decode cL_law 622 = .ok (.iadd, 1) := by decide +kernel
theorem dL_law_623 : decode cL_law 623 = .ok (.iaload, 1) := by decide +kernel
theorem dL_law_624 : decode cL_law 624 = .ok (.invokevirtual 65, 3) := by decide +kernel
theorem dL_law_627 : decode cL_law 627 = .ok (.aload_n 2, 1) := by decide +kernel
theorem dL_law_628 : decode cL_law 628 = .ok (.aload_n 0, 1) := by decide +kernel
theorem dL_law_629 : decode cL_law 629 = .ok (.iload_n 3, 1) := by decide +kernel
theorem dL_law_630 : decode cL_law 630 = .ok (.iconst 1, 1) := by decide +kernel
theorem dL_law_631 : decode cL_law 631 = .ok (.iadd, 1) := by decide +kernel
theorem dL_law_632 : decode cL_law 632 = .ok (.iaload, 1) := by decide +kernel
theorem dL_law_633 : decode cL_law 633 = .ok (.invokevirtual 68, 3) := by decide +kernel
theorem dL_law_636 : decode cL_law 636 = .ok (.if_icmp .eq 612, 3) := by decide +kernel
theorem dL_law_639 : decode cL_law 639 = .ok (.iconst 0, 1) := by decide +kernel
theorem dL_law_640 : decode cL_law 640 = .ok (.ireturn, 1) := by decide +kernel
theorem dL_law_641 : decode cL_law 641 = .ok (.aload_n 1, 1) := by decide +kernel
theorem dL_law_642 : decode cL_law 642 = .ok (.aload_n 0, 1) := by decide +kernel
theorem dL_law_643 : decode cL_law 643 = .ok (.iload_n 3, 1) := by decide +kernel
theorem dL_law_644 : decode cL_law 644 = .ok (.iconst 1, 1) := by decide +kernel
theorem dL_law_645 : decode cL_law 645 = .ok (.iadd, 1) := by decide +kernel
theorem dL_law_646 : decode cL_law 646 = .ok (.iaload, 1) := by decide +kernel
theorem dL_law_647 : decode cL_law 647 = .ok (.invokevirtual 69, 3) := by decide +kernel
theorem dL_law_650 : decode cL_law 650 = .ok (.aload_n 2, 1) := by decide +kernel
theorem dL_law_651 : decode cL_law 651 = .ok (.aload_n 0, 1) := by decide +kernel
theorem dL_law_652 : decode cL_law 652 = .ok (.iload_n 3, 1) := by decide +kernel
theorem dL_law_653 : decode cL_law 653 = .ok (.iconst 1, 1) := by decide +kernel
theorem dL_law_654 : decode cL_law 654 = .ok (.iadd, 1) := by decide +kernel
theorem dL_law_655 : decode cL_law 655 = .ok (.iaload, 1) := by decide +kernel
theorem dL_law_656 : decode cL_law 656 = .ok (.invokevirtual 72, 3) := by decide +kernel
theorem dL_law_659 : decode cL_law 659 = .ok (.if_icmp .eq 589, 3) := by decide +kernel
theorem dL_law_662 : decode cL_law 662 = .ok (.iconst 0, 1) := by decide +kernel
theorem dL_law_663 : decode cL_law 663 = .ok (.ireturn, 1) := by decide +kernel
theorem dL_law_664 : decode cL_law 664 = .ok (.aload_n 1, 1) := by decide +kernel
theorem dL_law_665 : decode cL_law 665 = .ok (.aload_n 0, 1) := by decide +kernel
theorem dL_law_666 : decode cL_law 666 = .ok (.iload_n 3, 1) := by decide +kernel
theorem dL_law_667 : decode cL_law 667 = .ok (.iconst 1, 1) := by decide +kernel
theorem dL_law_668 : decode cL_law 668 = .ok (.iadd, 1) := by decide +kernel
theorem dL_law_669 : decode cL_law 669 = .ok (.iaload, 1) := by decide +kernel
theorem dL_law_670 : decode cL_law 670 = .ok (.invokevirtual 73, 3) := by decide +kernel
theorem dL_law_673 : decode cL_law 673 = .ok (.aload_n 2, 1) := by decide +kernel
theorem dL_law_674 : decode cL_law 674 = .ok (.aload_n 0, 1) := by decide +kernel
theorem dL_law_675 : decode cL_law 675 = .ok (.iload_n 3, 1) := by decide +kernel
theorem dL_law_676 : decode cL_law 676 = .ok (.iconst 1, 1) := by decide +kernel
theorem dL_law_677 : decode cL_law 677 = .ok (.iadd, 1) := by decide +kernel
theorem dL_law_678 : decode cL_law 678 = .ok (.iaload, 1) := by decide +kernel
theorem dL_law_679 : decode cL_law 679 = .ok (.invokevirtual 76, 3) := by decide +kernel
theorem dL_law_682 : decode cL_law 682 = .ok (.if_icmp .eq 566, 3) := by decide +kernel
theorem dL_law_685 : decode cL_law 685 = .ok (.iconst 0, 1) := by decide +kernel
theorem dL_law_686 : decode cL_law 686 = .ok (.ireturn, 1) := by decide +kernel
theorem dL_law_687 : decode cL_law 687 = .ok (.aload_n 1, 1) := by decide +kernel
theorem dL_law_688 : decode cL_law 688 = .ok (.aload_n 0, 1) := by decide +kernel
theorem dL_law_689 : decode cL_law 689 = .ok (.iload_n 3, 1) := by decide +kernel
theorem dL_law_690 : decode cL_law 690 = .ok (.iconst 1, 1) := by decide +kernel
theorem dL_law_691 : decode cL_law 691 = .ok (.iadd, 1) := by decide +kernel
theorem dL_law_692 : decode cL_law 692 = .ok (.iaload, 1) := by decide +kernel
theorem dL_law_693 : decode cL_law 693 = .ok (.invokevirtual 77, 3) := by decide +kernel
theorem dL_law_696 : decode cL_law 696 = .ok (.aload_n 2, 1) := by decide +kernel
theorem dL_law_697 : decode cL_law 697 = .ok (.aload_n 0, 1) := by decide +kernel
theorem dL_law_698 : decode cL_law 698 = .ok (.iload_n 3, 1) := by decide +kernel
theorem dL_law_699 : decode cL_law 699 = .ok (.iconst 1, 1) := by decide +kernel
theorem dL_law_700 : decode cL_law 700 = .ok (.iadd, 1) := by decide +kernel
theorem dL_law_701 : decode cL_law 701 = .ok (.iaload, 1) := by decide +kernel
theorem dL_law_702 : decode cL_law 702 = .ok (.invokevirtual 80, 3) := by decide +kernel
theorem dL_law_705 : decode cL_law 705 = .ok (.if_icmp .eq 543, 3) := by decide +kernel
theorem dL_law_708 : decode cL_law 708 = .ok (.iconst 0, 1) := by decide +kernel
theorem dL_law_709 : decode cL_law 709 = .ok (.ireturn, 1) := by decide +kernel
theorem dL_law_710 : decode cL_law 710 = .ok (.aload_n 1, 1) := by decide +kernel
theorem dL_law_711 : decode cL_law 711 = .ok (.aload_n 0, 1) := by decide +kernel
theorem dL_law_712 : decode cL_law 712 = .ok (.iload_n 3, 1) := by decide +kernel
theorem dL_law_713 : decode cL_law 713 = .ok (.iconst 1, 1) := by decide +kernel
theorem dL_law_714 : decode cL_law 714 = .ok (.iadd, 1) := by decide +kernel
theorem dL_law_715 : decode cL_law 715 = .ok (.iaload, 1) := by decide +kernel
theorem dL_law_716 : decode cL_law 716 = .ok (.invokevirtual 81, 3) := by decide +kernel
theorem dL_law_719 : decode cL_law 719 = .ok (.aload_n 2, 1) := by decide +kernel
theorem dL_law_720 : decode cL_law 720 = .ok (.aload_n 0, 1) := by decide +kernel
theorem dL_law_721 : decode cL_law 721 = .ok (.iload_n 3, 1) := by decide +kernel
theorem dL_law_722 : decode cL_law 722 = .ok (.iconst 1, 1) := by decide +kernel
theorem dL_law_723 : decode cL_law 723 = .ok (.iadd, 1) := by decide +kernel
theorem dL_law_724 : decode cL_law 724 = .ok (.iaload, 1) := by decide +kernel
theorem dL_law_725 : decode cL_law 725 = .ok (.invokevirtual 84, 3) := by decide +kernel
theorem dL_law_728 : decode cL_law 728 = .ok (.if_icmp .eq 520, 3) := by decide +kernel
theorem dL_law_731 : decode cL_law 731 = .ok (.iconst 0, 1) := by decide +kernel
theorem dL_law_732 : decode cL_law 732 = .ok (.ireturn, 1) := by decide +kernel
theorem dL_law_733 : decode cL_law 733 = .ok (.aload_n 1, 1) := by decide +kernel
theorem dL_law_734 : decode cL_law 734 = .ok (.aload_n 0, 1) := by decide +kernel
theorem dL_law_735 : decode cL_law 735 = .ok (.iload_n 3, 1) := by decide +kernel
theorem dL_law_736 : decode cL_law 736 = .ok (.iconst 1, 1) := by decide +kernel
theorem dL_law_737 : decode cL_law 737 = .ok (.iadd, 1) := by decide +kernel
theorem dL_law_738 : decode cL_law 738 = .ok (.iaload, 1) := by decide +kernel
theorem dL_law_739 : decode cL_law 739 = .ok (.invokevirtual 85, 3) := by decide +kernel
theorem dL_law_742 : decode cL_law 742 = .ok (.aload_n 2, 1) := by decide +kernel
theorem dL_law_743 : decode cL_law 743 = .ok (.aload_n 0, 1) := by decide +kernel
theorem dL_law_744 : decode cL_law 744 = .ok (.iload_n 3, 1) := by decide +kernel
theorem dL_law_745 : decode cL_law 745 = .ok (.iconst 1, 1) := by decide +kernel
theorem dL_law_746 : decode cL_law 746 = .ok (.iadd, 1) := by decide +kernel
theorem dL_law_747 : decode cL_law 747 = .ok (.iaload, 1) := by decide +kernel
theorem dL_law_748 : decode cL_law 748 = .ok (.invokevirtual 88, 3) := by decide +kernel
theorem dL_law_751 : decode cL_law 751 = .ok (.if_icmp .eq 497, 3) := by decide +kernel
theorem dL_law_754 : decode cL_law 754 = .ok (.iconst 0, 1) := by decide +kernel
theorem dL_law_755 : decode cL_law 755 = .ok (.ireturn, 1) := by decide +kernel
theorem dL_law_756 : decode cL_law 756 = .ok (.aload_n 1, 1) := by decide +kernel
theorem dL_law_757 : decode cL_law 757 = .ok (.invokevirtual 89, 3) := by decide +kernel
theorem dL_law_760 : decode cL_law 760 = .ok (.aload_n 2, 1) := by decide +kernel
theorem dL_law_761 : decode cL_law 761 = .ok (.invokevirtual 93, 3) := by decide +kernel
theorem dL_law_764 : decode cL_law 764 = .ok (.if_icmp .eq 484, 3) := by decide +kernel
theorem dL_law_767 : decode cL_law 767 = .ok (.iconst 0, 1) := by decide +kernel
theorem dL_law_768 : decode cL_law 768 = .ok (.ireturn, 1) := by decide +kernel
theorem dL_law_769 : decode cL_law 769 = .ok (.aload_n 1, 1) := by decide +kernel
theorem dL_law_770 : decode cL_law 770 = .ok (.aload_n 0, 1) := by decide +kernel
theorem dL_law_771 : decode cL_law 771 = .ok (.iload_n 3, 1) := by decide +kernel
theorem dL_law_772 : decode cL_law 772 = .ok (.iconst 1, 1) := by decide +kernel
theorem dL_law_773 : decode cL_law 773 = .ok (.iadd, 1) := by decide +kernel
theorem dL_law_774 : decode cL_law 774 = .ok (.iaload, 1) := by decide +kernel
theorem dL_law_775 : decode cL_law 775 = .ok (.invokevirtual 94, 3) := by decide +kernel
theorem dL_law_778 : decode cL_law 778 = .ok (.aload_n 2, 1) := by decide +kernel
theorem dL_law_779 : decode cL_law 779 = .ok (.aload_n 0, 1) := by decide +kernel
theorem dL_law_780 : decode cL_law 780 = .ok (.iload_n 3, 1) := by decide +kernel
theorem dL_law_781 : decode cL_law 781 = .ok (.iconst 1, 1) := by decide +kernel
theorem dL_law_782 : decode cL_law 782 = .ok (.iadd, 1) := by decide +kernel
theorem dL_law_783 : decode cL_law 783 = .ok (.iaload, 1) := by decide +kernel
theorem dL_law_784 : decode cL_law 784 = .ok (.invokevirtual 97, 3) := by decide +kernel
theorem dL_law_787 : decode cL_law 787 = .ok (.if_icmp .eq 461, 3) := by decide +kernel
theorem dL_law_790 : decode cL_law 790 = .ok (.iconst 0, 1) := by decide +kernel
theorem dL_law_791 : decode cL_law 791 = .ok (.ireturn, 1) := by decide +kernel
theorem dL_law_792 : decode cL_law 792 = .ok (.aload_n 1, 1) := by decide +kernel
theorem dL_law_793 : decode cL_law 793 = .ok (.invokevirtual 98, 3) := by decide +kernel
theorem dL_law_796 : decode cL_law 796 = .ok (.aload_n 2, 1) := by decide +kernel
theorem dL_law_797 : decode cL_law 797 = .ok (.invokevirtual 101, 3) := by decide +kernel
theorem dL_law_800 : decode cL_law 800 = .ok (.if_icmp .eq 448, 3) := by decide +kernel
theorem dL_law_803 : decode cL_law 803 = .ok (.iconst 0, 1) := by decide +kernel
theorem dL_law_804 : decode cL_law 804 = .ok (.ireturn, 1) := by decide +kernel
theorem dL_law_805 : decode cL_law 805 = .ok (.aload_n 1, 1) := by decide +kernel
theorem dL_law_806 : decode cL_law 806 = .ok (.aload_n 0, 1) := by decide +kernel
theorem dL_law_807 : decode cL_law 807 = .ok (.iload_n 3, 1) := by decide +kernel
theorem dL_law_808 : decode cL_law 808 = .ok (.iconst 1, 1) := by decide +kernel
theorem dL_law_809 : decode cL_law 809 = .ok (.iadd, 1) := by decide +kernel
theorem dL_law_810 : decode cL_law 810 = .ok (.iaload, 1) := by decide +kernel
theorem dL_law_811 : decode cL_law 811 = .ok (.aload_n 0, 1) := by decide +kernel
theorem dL_law_812 : decode cL_law 812 = .ok (.iload_n 3, 1) := by decide +kernel
theorem dL_law_813 : decode cL_law 813 = .ok (.iconst 2, 1) := by decide +kernel
theorem dL_law_814 : decode cL_law 814 = .ok (.iadd, 1) := by decide +kernel
theorem dL_law_815 : decode cL_law 815 = .ok (.iaload, 1) := by decide +kernel
theorem dL_law_816 : decode cL_law 816 = .ok (.invokevirtual 102, 3) := by decide +kernel
theorem dL_law_819 : decode cL_law 819 = .ok (.aload_n 2, 1) := by decide +kernel
theorem dL_law_820 : decode cL_law 820 = .ok (.aload_n 0, 1) := by decide +kernel
theorem dL_law_821 : decode cL_law 821 = .ok (.iload_n 3, 1) := by decide +kernel
theorem dL_law_822 : decode cL_law 822 = .ok (.iconst 1, 1) := by decide +kernel
theorem dL_law_823 : decode cL_law 823 = .ok (.iadd, 1) := by decide +kernel
theorem dL_law_824 : decode cL_law 824 = .ok (.iaload, 1) := by decide +kernel
theorem dL_law_825 : decode cL_law 825 = .ok (.aload_n 0, 1) := by decide +kernel
theorem dL_law_826 : decode cL_law 826 = .ok (.iload_n 3, 1) := by decide +kernel
theorem dL_law_827 : decode cL_law 827 = .ok (.iconst 2, 1) := by decide +kernel
theorem dL_law_828 : decode cL_law 828 = .ok (.iadd, 1) := by decide +kernel
theorem dL_law_829 : decode cL_law 829 = .ok (.iaload, 1) := by decide +kernel
theorem dL_law_830 : decode cL_law 830 = .ok (.invokevirtual 105, 3) := by decide +kernel
theorem dL_law_833 : decode cL_law 833 = .ok (.if_icmp .eq 415, 3) := by decide +kernel
theorem dL_law_836 : decode cL_law 836 = .ok (.iconst 0, 1) := by decide +kernel
theorem dL_law_837 : decode cL_law 837 = .ok (.ireturn, 1) := by decide +kernel
theorem dL_law_838 : decode cL_law 838 = .ok (.aload_n 1, 1) := by decide +kernel
theorem dL_law_839 : decode cL_law 839 = .ok (.aload_n 0, 1) := by decide +kernel
theorem dL_law_840 : decode cL_law 840 = .ok (.iload_n 3, 1) := by decide +kernel
theorem dL_law_841 : decode cL_law 841 = .ok (.iconst 1, 1) := by decide +kernel
theorem dL_law_842 : decode cL_law 842 = .ok (.iadd, 1) := by decide +kernel
theorem dL_law_843 : decode cL_law 843 = .ok (.iaload, 1) := by decide +kernel
theorem dL_law_844 : decode cL_law 844 = .ok (.invokevirtual 106, 3) := by decide +kernel
theorem dL_law_847 : decode cL_law 847 = .ok (.aload_n 2, 1) := by decide +kernel
theorem dL_law_848 : decode cL_law 848 = .ok (.aload_n 0, 1) := by decide +kernel
theorem dL_law_849 : decode cL_law 849 = .ok (.iload_n 3, 1) := by decide +kernel
theorem dL_law_850 : decode cL_law 850 = .ok (.iconst 1, 1) := by decide +kernel
theorem dL_law_851 : decode cL_law 851 = .ok (.iadd, 1) := by decide +kernel
theorem dL_law_852 : decode cL_law 852 = .ok (.iaload, 1) := by decide +kernel
theorem dL_law_853 : decode cL_law 853 = .ok (.invokevirtual 109, 3) := by decide +kernel
theorem dL_law_856 : decode cL_law 856 = .ok (.if_icmp .eq 392, 3) := by decide +kernel
theorem dL_law_859 : decode cL_law 859 = .ok (.iconst 0, 1) := by decide +kernel
theorem dL_law_860 : decode cL_law 860 = .ok (.ireturn, 1) := by decide +kernel
theorem dL_law_861 : decode cL_law 861 = .ok (.aload_n 1, 1) := by decide +kernel
theorem dL_law_862 : decode cL_law 862 = .ok (.aload_n 0, 1) := by decide +kernel
theorem dL_law_863 : decode cL_law 863 = .ok (.iload_n 3, 1) := by decide +kernel
theorem dL_law_864 : decode cL_law 864 = .ok (.iconst 1, 1) := by decide +kernel
theorem dL_law_865 : decode cL_law 865 = .ok (.iadd, 1) := by decide +kernel
theorem dL_law_866 : decode cL_law 866 = .ok (.iaload, 1) := by decide +kernel
theorem dL_law_867 : decode cL_law 867 = .ok (.invokevirtual 110, 3) := by decide +kernel
theorem dL_law_870 : decode cL_law 870 = .ok (.aload_n 2, 1) := by decide +kernel
theorem dL_law_871 : decode cL_law 871 = .ok (.aload_n 0, 1) := by decide +kernel
theorem dL_law_872 : decode cL_law 872 = .ok (.iload_n 3, 1) := by decide +kernel
theorem dL_law_873 : decode cL_law 873 = .ok (.iconst 1, 1) := by decide +kernel
theorem dL_law_874 : decode cL_law 874 = .ok (.iadd, 1) := by decide +kernel
theorem dL_law_875 : decode cL_law 875 = .ok (.iaload, 1) := by decide +kernel
theorem dL_law_876 : decode cL_law 876 = .ok (.invokevirtual 113, 3) := by decide +kernel
theorem dL_law_879 : decode cL_law 879 = .ok (.if_icmp .eq 369, 3) := by decide +kernel
theorem dL_law_882 : decode cL_law 882 = .ok (.iconst 0, 1) := by decide +kernel
theorem dL_law_883 : decode cL_law 883 = .ok (.ireturn, 1) := by decide +kernel
theorem dL_law_884 : decode cL_law 884 = .ok (.aload_n 1, 1) := by decide +kernel
theorem dL_law_885 : decode cL_law 885 = .ok (.aload_n 0, 1) := by decide +kernel
theorem dL_law_886 : decode cL_law 886 = .ok (.iload_n 3, 1) := by decide +kernel
theorem dL_law_887 : decode cL_law 887 = .ok (.iconst 1, 1) := by decide +kernel
theorem dL_law_888 : decode cL_law 888 = .ok (.iadd, 1) := by decide +kernel
theorem dL_law_889 : decode cL_law 889 = .ok (.iaload, 1) := by decide +kernel
theorem dL_law_890 : decode cL_law 890 = .ok (.invokevirtual 114, 3) := by decide +kernel
theorem dL_law_893 : decode cL_law 893 = .ok (.aload_n 2, 1) := by decide +kernel
theorem dL_law_894 : decode cL_law 894 = .ok (.aload_n 0, 1) := by decide +kernel
theorem dL_law_895 : decode cL_law 895 = .ok (.iload_n 3, 1) := by decide +kernel
theorem dL_law_896 : decode cL_law 896 = .ok (.iconst 1, 1) := by decide +kernel
theorem dL_law_897 : decode cL_law 897 = .ok (.iadd, 1) := by decide +kernel
theorem dL_law_898 : decode cL_law 898 = .ok (.iaload, 1) := by decide +kernel
theorem dL_law_899 : decode cL_law 899 = .ok (.invokevirtual 117, 3) := by decide +kernel
theorem dL_law_902 : decode cL_law 902 = .ok (.if_icmp .eq 346, 3) := by decide +kernel
theorem dL_law_905 : decode cL_law 905 = .ok (.iconst 0, 1) := by decide +kernel
theorem dL_law_906 : decode cL_law 906 = .ok (.ireturn, 1) := by decide +kernel
theorem dL_law_907 : decode cL_law 907 = .ok (.aload_n 1, 1) := by decide +kernel
theorem dL_law_908 : decode cL_law 908 = .ok (.invokevirtual 118, 3) := by decide +kernel
theorem dL_law_911 : decode cL_law 911 = .ok (.aload_n 2, 1) := by decide +kernel
theorem dL_law_912 : decode cL_law 912 = .ok (.invokevirtual 121, 3) := by decide +kernel
theorem dL_law_915 : decode cL_law 915 = .ok (.if_icmp .eq 333, 3) := by decide +kernel
theorem dL_law_918 : decode cL_law 918 = .ok (.iconst 0, 1) := by decide +kernel
theorem dL_law_919 : decode cL_law 919 = .ok (.ireturn, 1) := by decide +kernel
theorem dL_law_920 : decode cL_law 920 = .ok (.aload_n 1, 1) := by decide +kernel
theorem dL_law_921 : decode cL_law 921 = .ok (.aload_n 0, 1) := by decide +kernel
theorem dL_law_922 : decode cL_law 922 = .ok (.iload_n 3, 1) := by decide +kernel
theorem dL_law_923 : decode cL_law 923 = .ok (.iconst 1, 1) := by decide +kernel
theorem dL_law_924 : decode cL_law 924 = .ok (.iadd, 1) := by decide +kernel
theorem dL_law_925 : decode cL_law 925 = .ok (.iaload, 1) := by decide +kernel
theorem dL_law_926 : decode cL_law 926 = .ok (.invokevirtual 122, 3) := by decide +kernel
theorem dL_law_929 : decode cL_law 929 = .ok (.aload_n 2, 1) := by decide +kernel
theorem dL_law_930 : decode cL_law 930 = .ok (.aload_n 0, 1) := by decide +kernel
theorem dL_law_931 : decode cL_law 931 = .ok (.iload_n 3, 1) := by decide +kernel
theorem dL_law_932 : decode cL_law 932 = .ok (.iconst 1, 1) := by decide +kernel
theorem dL_law_933 : decode cL_law 933 = .ok (.iadd, 1) := by decide +kernel
theorem dL_law_934 : decode cL_law 934 = .ok (.iaload, 1) := by decide +kernel
theorem dL_law_935 : decode cL_law 935 = .ok (.invokevirtual 125, 3) := by decide +kernel
theorem dL_law_938 : decode cL_law 938 = .ok (.if_icmp .eq 310, 3) := by decide +kernel
theorem dL_law_941 : decode cL_law 941 = .ok (.iconst 0, 1) := by decide +kernel
theorem dL_law_942 : decode cL_law 942 = .ok (.ireturn, 1) := by decide +kernel
theorem dL_law_943 : decode cL_law 943 = .ok (.aload_n 1, 1) := by decide +kernel
theorem dL_law_944 : decode cL_law 944 = .ok (.aload_n 0, 1) := by decide +kernel
theorem dL_law_945 : decode cL_law 945 = .ok (.iload_n 3, 1) := by decide +kernel
theorem dL_law_946 : decode cL_law 946 = .ok (.iconst 1, 1) := by decide +kernel
theorem dL_law_947 : decode cL_law 947 = .ok (.iadd, 1) := by decide +kernel
theorem dL_law_948 : decode cL_law 948 = .ok (.iaload, 1) := by decide +kernel
theorem dL_law_949 : decode cL_law 949 = .ok (.invokevirtual 126, 3) := by decide +kernel
theorem dL_law_952 : decode cL_law 952 = .ok (.aload_n 2, 1) := by decide +kernel
theorem dL_law_953 : decode cL_law 953 = .ok (.aload_n 0, 1) := by decide +kernel
theorem dL_law_954 : decode cL_law 954 = .ok (.iload_n 3, 1) := by decide +kernel
theorem dL_law_955 : decode cL_law 955 = .ok (.iconst 1, 1) := by decide +kernel
theorem dL_law_956 : decode cL_law 956 = .ok (.iadd, 1) := by decide +kernel
theorem dL_law_957 : decode cL_law 957 = .ok (.iaload, 1) := by decide +kernel
theorem dL_law_958 : decode cL_law 958 = .ok (.invokevirtual 129, 3) := by decide +kernel
theorem dL_law_961 : decode cL_law 961 = .ok (.if_icmp .eq 287, 3) := by decide +kernel
theorem dL_law_964 : decode cL_law 964 = .ok (.iconst 0, 1) := by decide +kernel
theorem dL_law_965 : decode cL_law 965 = .ok (.ireturn, 1) := by decide +kernel
theorem dL_law_966 : decode cL_law 966 = .ok (.aload_n 1, 1) := by decide +kernel
theorem dL_law_967 : decode cL_law 967 = .ok (.aload_n 0, 1) := by decide +kernel
theorem dL_law_968 : decode cL_law 968 = .ok (.iload_n 3, 1) := by decide +kernel
theorem dL_law_969 : decode cL_law 969 = .ok (.iconst 1, 1) := by decide +kernel
theorem dL_law_970 : decode cL_law 970 = .ok (.iadd, 1) := by decide +kernel
theorem dL_law_971 : decode cL_law 971 = .ok (.iaload, 1) := by decide +kernel
theorem dL_law_972 : decode cL_law 972 = .ok (.aload_n 0, 1) := by decide +kernel
theorem dL_law_973 : decode cL_law 973 = .ok (.iload_n 3, 1) := by decide +kernel
theorem dL_law_974 : decode cL_law 974 = .ok (.iconst 2, 1) := by decide +kernel
theorem dL_law_975 : decode cL_law 975 = .ok (.iadd, 1) := by decide +kernel
theorem dL_law_976 : decode cL_law 976 = .ok (.iaload, 1) := by decide +kernel
theorem dL_law_977 : decode cL_law 977 = .ok (.invokevirtual 130, 3) := by decide +kernel
theorem dL_law_980 : decode cL_law 980 = .ok (.aload_n 2, 1) := by decide +kernel
theorem dL_law_981 : decode cL_law 981 = .ok (.aload_n 0, 1) := by decide +kernel
theorem dL_law_982 : decode cL_law 982 = .ok (.iload_n 3, 1) := by decide +kernel
theorem dL_law_983 : decode cL_law 983 = .ok (.iconst 1, 1) := by decide +kernel
theorem dL_law_984 : decode cL_law 984 = .ok (.iadd, 1) := by decide +kernel
theorem dL_law_985 : decode cL_law 985 = .ok (.iaload, 1) := by decide +kernel
theorem dL_law_986 : decode cL_law 986 = .ok (.aload_n 0, 1) := by decide +kernel
theorem dL_law_987 : decode cL_law 987 = .ok (.iload_n 3, 1) := by decide +kernel
theorem dL_law_988 : decode cL_law 988 = .ok (.iconst 2, 1) := by decide +kernel
theorem dL_law_989 : decode cL_law 989 = .ok (.iadd, 1) := by decide +kernel
theorem dL_law_990 : decode cL_law 990 = .ok (.iaload, 1) := by decide +kernel
theorem dL_law_991 : decode cL_law 991 = .ok (.invokevirtual 133, 3) := by decide +kernel
theorem dL_law_994 : decode cL_law 994 = .ok (.if_icmp .eq 254, 3) := by decide +kernel
theorem dL_law_997 : decode cL_law 997 = .ok (.iconst 0, 1) := by decide +kernel
theorem dL_law_998 : decode cL_law 998 = .ok (.ireturn, 1) := by decide +kernel
theorem dL_law_999 : decode cL_law 999 = .ok (.aload_n 1, 1) := by decide +kernel
theorem dL_law_1000 : decode cL_law 1000 = .ok (.aload_n 0, 1) := by decide +kernel
theorem dL_law_1001 : decode cL_law 1001 = .ok (.iload_n 3, 1) := by decide +kernel
theorem dL_law_1002 : decode cL_law 1002 = .ok (.iconst 1, 1) := by decide +kernel
theorem dL_law_1003 : decode cL_law 1003 = .ok (.iadd, 1) := by decide +kernel
theorem dL_law_1004 : decode cL_law 1004 = .ok (.iaload, 1) := by decide +kernel
theorem dL_law_1005 : decode cL_law 1005 = .ok (.aload_n 0, 1) := by decide +kernel
theorem dL_law_1006 : decode cL_law 1006 = .ok (.iload_n 3, 1) := by decide +kernel
theorem dL_law_1007 : decode cL_law 1007 = .ok (.iconst 2, 1) := by decide +kernel
theorem dL_law_1008 : decode cL_law 1008 = .ok (.iadd, 1) := by decide +kernel
theorem dL_law_1009 : decode cL_law 1009 = .ok (.iaload, 1) := by decide +kernel
theorem dL_law_1010 : decode cL_law 1010 = .ok (.invokevirtual 134, 3) := by decide +kernel
theorem dL_law_1013 : decode cL_law 1013 = .ok (.aload_n 2, 1) := by decide +kernel
theorem dL_law_1014 : decode cL_law 1014 = .ok (.aload_n 0, 1) := by decide +kernel
theorem dL_law_1015 : decode cL_law 1015 = .ok (.iload_n 3, 1) := by decide +kernel
theorem dL_law_1016 : decode cL_law 1016 = .ok (.iconst 1, 1) := by decide +kernel
theorem dL_law_1017 : decode cL_law 1017 = .ok (.iadd, 1) := by decide +kernel
theorem dL_law_1018 : decode cL_law 1018 = .ok (.iaload, 1) := by decide +kernel
theorem dL_law_1019 : decode cL_law 1019 = .ok (.aload_n 0, 1) := by decide +kernel
theorem dL_law_1020 : decode cL_law 1020 = .ok (.iload_n 3, 1) := by decide +kernel
theorem dL_law_1021 : decode cL_law 1021 = .ok (.iconst 2, 1) := by decide +kernel
theorem dL_law_1022 : decode cL_law 1022 = .ok (.iadd, 1) := by decide +kernel
theorem dL_law_1023 : decode cL_law 1023 = .ok (.iaload, 1) := by decide +kernel
theorem dL_law_1024 : decode cL_law 1024 = .ok (.invokevirtual 137, 3) := by decide +kernel
theorem dL_law_1027 : decode cL_law 1027 = .ok (.if_icmp .eq 221, 3) := by decide +kernel
theorem dL_law_1030 : decode cL_law 1030 = .ok (.iconst 0, 1) := by decide +kernel
theorem dL_law_1031 : decode cL_law 1031 = .ok (.ireturn, 1) := by decide +kernel
theorem dL_law_1032 : decode cL_law 1032 = .ok (.aload_n 1, 1) := by decide +kernel
theorem dL_law_1033 : decode cL_law 1033 = .ok (.aload_n 0, 1) := by decide +kernel
theorem dL_law_1034 : decode cL_law 1034 = .ok (.iload_n 3, 1) := by decide +kernel
theorem dL_law_1035 : decode cL_law 1035 = .ok (.iconst 1, 1) := by decide +kernel
theorem dL_law_1036 : decode cL_law 1036 = .ok (.iadd, 1) := by decide +kernel
theorem dL_law_1037 : decode cL_law 1037 = .ok (.iaload, 1) := by decide +kernel
theorem dL_law_1038 : decode cL_law 1038 = .ok (.invokevirtual 138, 3) := by decide +kernel
theorem dL_law_1041 : decode cL_law 1041 = .ok (.aload_n 2, 1) := by decide +kernel
theorem dL_law_1042 : decode cL_law 1042 = .ok (.aload_n 0, 1) := by decide +kernel
theorem dL_law_1043 : decode cL_law 1043 = .ok (.iload_n 3, 1) := by decide +kernel
theorem dL_law_1044 : decode cL_law 1044 = .ok (.iconst 1, 1) := by decide +kernel
theorem dL_law_1045 : decode cL_law 1045 = .ok (.iadd, 1) := by decide +kernel
theorem dL_law_1046 : decode cL_law 1046 = .ok (.iaload, 1) := by decide +kernel
theorem dL_law_1047 : decode cL_law 1047 = .ok (.invokevirtual 141, 3) := by decide +kernel
theorem dL_law_1050 : decode cL_law 1050 = .ok (.if_icmp .eq 198, 3) := by decide +kernel
theorem dL_law_1053 : decode cL_law 1053 = .ok (.iconst 0, 1) := by decide +kernel
theorem dL_law_1054 : decode cL_law 1054 = .ok (.ireturn, 1) := by decide +kernel
theorem dL_law_1055 : decode cL_law 1055 = .ok (.aload_n 1, 1) := by decide +kernel
theorem dL_law_1056 : decode cL_law 1056 = .ok (.aload_n 0, 1) := by decide +kernel
theorem dL_law_1057 : decode cL_law 1057 = .ok (.iload_n 3, 1) := by decide +kernel
theorem dL_law_1058 : decode cL_law 1058 = .ok (.iconst 1, 1) := by decide +kernel
theorem dL_law_1059 : decode cL_law 1059 = .ok (.iadd, 1) := by decide +kernel
theorem dL_law_1060 : decode cL_law 1060 = .ok (.iaload, 1) := by decide +kernel
theorem dL_law_1061 : decode cL_law 1061 = .ok (.invokevirtual 142, 3) := by decide +kernel
theorem dL_law_1064 : decode cL_law 1064 = .ok (.aload_n 2, 1) := by decide +kernel
theorem dL_law_1065 : decode cL_law 1065 = .ok (.aload_n 0, 1) := by decide +kernel
theorem dL_law_1066 : decode cL_law 1066 = .ok (.iload_n 3, 1) := by decide +kernel
theorem dL_law_1067 : decode cL_law 1067 = .ok (.iconst 1, 1) := by decide +kernel
theorem dL_law_1068 : decode cL_law 1068 = .ok (.iadd, 1) := by decide +kernel
theorem dL_law_1069 : decode cL_law 1069 = .ok (.iaload, 1) := by decide +kernel
theorem dL_law_1070 : decode cL_law 1070 = .ok (.invokevirtual 145, 3) := by decide +kernel
theorem dL_law_1073 : decode cL_law 1073 = .ok (.if_icmp .eq 175, 3) := by decide +kernel
theorem dL_law_1076 : decode cL_law 1076 = .ok (.iconst 0, 1) := by decide +kernel
theorem dL_law_1077 : decode cL_law 1077 = .ok (.ireturn, 1) := by decide +kernel
theorem dL_law_1078 : decode cL_law 1078 = .ok (.aload_n 1, 1) := by decide +kernel
theorem dL_law_1079 : decode cL_law 1079 = .ok (.aload_n 0, 1) := by decide +kernel
theorem dL_law_1080 : decode cL_law 1080 = .ok (.iload_n 3, 1) := by decide +kernel
theorem dL_law_1081 : decode cL_law 1081 = .ok (.iconst 1, 1) := by decide +kernel
theorem dL_law_1082 : decode cL_law 1082 = .ok (.iadd, 1) := by decide +kernel
theorem dL_law_1083 : decode cL_law 1083 = .ok (.iaload, 1) := by decide +kernel
theorem dL_law_1084 : decode cL_law 1084 = .ok (.invokevirtual 146, 3) := by decide +kernel
theorem dL_law_1087 : decode cL_law 1087 = .ok (.aload_n 2, 1) := by decide +kernel
theorem dL_law_1088 : decode cL_law 1088 = .ok (.aload_n 0, 1) := by decide +kernel
theorem dL_law_1089 : decode cL_law 1089 = .ok (.iload_n 3, 1) := by decide +kernel
theorem dL_law_1090 : decode cL_law 1090 = .ok (.iconst 1, 1) := by decide +kernel
theorem dL_law_1091 : decode cL_law 1091 = .ok (.iadd, 1) := by decide +kernel
theorem dL_law_1092 : decode cL_law 1092 = .ok (.iaload, 1) := by decide +kernel
theorem dL_law_1093 : decode cL_law 1093 = .ok (.invokevirtual 149, 3) := by decide +kernel
theorem dL_law_1096 : decode cL_law 1096 = .ok (.if_icmp .eq 152, 3) := by decide +kernel
theorem dL_law_1099 : decode cL_law 1099 = .ok (.iconst 0, 1) := by decide +kernel
theorem dL_law_1100 : decode cL_law 1100 = .ok (.ireturn, 1) := by decide +kernel
theorem dL_law_1101 : decode cL_law 1101 = .ok (.aload_n 1, 1) := by decide +kernel
theorem dL_law_1102 : decode cL_law 1102 = .ok (.aload_n 0, 1) := by decide +kernel
theorem dL_law_1103 : decode cL_law 1103 = .ok (.iload_n 3, 1) := by decide +kernel
theorem dL_law_1104 : decode cL_law 1104 = .ok (.iconst 1, 1) := by decide +kernel
theorem dL_law_1105 : decode cL_law 1105 = .ok (.iadd, 1) := by decide +kernel
theorem dL_law_1106 : decode cL_law 1106 = .ok (.iaload, 1) := by decide +kernel
theorem dL_law_1107 : decode cL_law 1107 = .ok (.aload_n 0, 1) := by decide +kernel
theorem dL_law_1108 : decode cL_law 1108 = .ok (.iload_n 3, 1) := by decide +kernel
theorem dL_law_1109 : decode cL_law 1109 = .ok (.iconst 2, 1) := by decide +kernel
theorem dL_law_1110 : decode cL_law 1110 = .ok (.iadd, 1) := by decide +kernel
theorem dL_law_1111 : decode cL_law 1111 = .ok (.iaload, 1) := by decide +kernel
theorem dL_law_1112 : decode cL_law 1112 = .ok (.invokevirtual 150, 3) := by decide +kernel
theorem dL_law_1115 : decode cL_law 1115 = .ok (.aload_n 2, 1) := by decide +kernel
theorem dL_law_1116 : decode cL_law 1116 = .ok (.aload_n 0, 1) := by decide +kernel
theorem dL_law_1117 : decode cL_law 1117 = .ok (.iload_n 3, 1) := by decide +kernel
theorem dL_law_1118 : decode cL_law 1118 = .ok (.iconst 1, 1) := by decide +kernel
theorem dL_law_1119 : decode cL_law 1119 = .ok (.iadd, 1) := by decide +kernel
theorem dL_law_1120 : decode cL_law 1120 = .ok (.iaload, 1) := by decide +kernel
theorem dL_law_1121 : decode cL_law 1121 = .ok (.aload_n 0, 1) := by decide +kernel
theorem dL_law_1122 : decode cL_law 1122 = .ok (.iload_n 3, 1) := by decide +kernel
theorem dL_law_1123 : decode cL_law 1123 = .ok (.iconst 2, 1) := by decide +kernel
theorem dL_law_1124 : decode cL_law 1124 = .ok (.iadd, 1) := by decide +kernel
theorem dL_law_1125 : decode cL_law 1125 = .ok (.iaload, 1) := by decide +kernel
theorem dL_law_1126 : decode cL_law 1126 = .ok (.invokevirtual 153, 3) := by decide +kernel
theorem dL_law_1129 : decode cL_law 1129 = .ok (.if_icmp .eq 119, 3) := by decide +kernel
theorem dL_law_1132 : decode cL_law 1132 = .ok (.iconst 0, 1) := by decide +kernel
theorem dL_law_1133 : decode cL_law 1133 = .ok (.ireturn, 1) := by decide +kernel
theorem dL_law_1134 : decode cL_law 1134 = .ok (.aload_n 1, 1) := by decide +kernel
theorem dL_law_1135 : decode cL_law 1135 = .ok (.invokevirtual 154, 3) := by decide +kernel
theorem dL_law_1138 : decode cL_law 1138 = .ok (.aload_n 2, 1) := by decide +kernel
theorem dL_law_1139 : decode cL_law 1139 = .ok (.invokevirtual 157, 3) := by decide +kernel
theorem dL_law_1142 : decode cL_law 1142 = .ok (.if_icmp .eq 106, 3) := by decide +kernel
theorem dL_law_1145 : decode cL_law 1145 = .ok (.iconst 0, 1) := by decide +kernel
theorem dL_law_1146 : decode cL_law 1146 = .ok (.ireturn, 1) := by decide +kernel
theorem dL_law_1147 : decode cL_law 1147 = .ok (.aload_n 1, 1) := by decide +kernel
theorem dL_law_1148 : decode cL_law 1148 = .ok (.invokevirtual 158, 3) := by decide +kernel
theorem dL_law_1151 : decode cL_law 1151 = .ok (.aload_n 2, 1) := by decide +kernel
theorem dL_law_1152 : decode cL_law 1152 = .ok (.invokevirtual 162, 3) := by decide +kernel
theorem dL_law_1155 : decode cL_law 1155 = .ok (.lcmp, 1) := by decide +kernel
theorem dL_law_1156 : decode cL_law 1156 = .ok (.ifCond .eq 92, 3) := by decide +kernel
theorem dL_law_1159 : decode cL_law 1159 = .ok (.iconst 0, 1) := by decide +kernel
theorem dL_law_1160 : decode cL_law 1160 = .ok (.ireturn, 1) := by decide +kernel
theorem dL_law_1161 : decode cL_law 1161 = .ok (.aload_n 1, 1) := by decide +kernel
theorem dL_law_1162 : decode cL_law 1162 = .ok (.invokevirtual 163, 3) := by decide +kernel
theorem dL_law_1165 : decode cL_law 1165 = .ok (.aload_n 2, 1) := by decide +kernel
theorem dL_law_1166 : decode cL_law 1166 = .ok (.invokevirtual 166, 3) := by decide +kernel
theorem dL_law_1169 : decode cL_law 1169 = .ok (.lcmp, 1) := by decide +kernel
theorem dL_law_1170 : decode cL_law 1170 = .ok (.ifCond .eq 78, 3) := by decide +kernel
theorem dL_law_1173 : decode cL_law 1173 = .ok (.iconst 0, 1) := by decide +kernel
theorem dL_law_1174 : decode cL_law 1174 = .ok (.ireturn, 1) := by decide +kernel
theorem dL_law_1175 : decode cL_law 1175 = .ok (.aload_n 1, 1) := by decide +kernel
theorem dL_law_1176 : decode cL_law 1176 = .ok (.aload_n 0, 1) := by decide +kernel
theorem dL_law_1177 : decode cL_law 1177 = .ok (.iload_n 3, 1) := by decide +kernel
theorem dL_law_1178 : decode cL_law 1178 = .ok (.iconst 1, 1) := by decide +kernel
theorem dL_law_1179 : decode cL_law 1179 = .ok (.iadd, 1) := by decide +kernel
theorem dL_law_1180 : decode cL_law 1180 = .ok (.iaload, 1) := by decide +kernel
theorem dL_law_1181 : decode cL_law 1181 = .ok (.invokevirtual 167, 3) := by decide +kernel
theorem dL_law_1184 : decode cL_law 1184 = .ok (.aload_n 2, 1) := by decide +kernel
theorem dL_law_1185 : decode cL_law 1185 = .ok (.aload_n 0, 1) := by decide +kernel
theorem dL_law_1186 : decode cL_law 1186 = .ok (.iload_n 3, 1) := by decide +kernel
theorem dL_law_1187 : decode cL_law 1187 = .ok (.iconst 1, 1) := by decide +kernel
theorem dL_law_1188 : decode cL_law 1188 = .ok (.iadd, 1) := by decide +kernel
theorem dL_law_1189 : decode cL_law 1189 = .ok (.iaload, 1) := by decide +kernel
theorem dL_law_1190 : decode cL_law 1190 = .ok (.invokevirtual 170, 3) := by decide +kernel
theorem dL_law_1193 : decode cL_law 1193 = .ok (.if_icmp .eq 55, 3) := by decide +kernel
theorem dL_law_1196 : decode cL_law 1196 = .ok (.iconst 0, 1) := by decide +kernel
theorem dL_law_1197 : decode cL_law 1197 = .ok (.ireturn, 1) := by decide +kernel
theorem dL_law_1198 : decode cL_law 1198 = .ok (.aload_n 1, 1) := by decide +kernel
theorem dL_law_1199 : decode cL_law 1199 = .ok (.invokevirtual 171, 3) := by decide +kernel
theorem dL_law_1202 : decode cL_law 1202 = .ok (.aload_n 2, 1) := by decide +kernel
theorem dL_law_1203 : decode cL_law 1203 = .ok (.invokevirtual 174, 3) := by decide +kernel
theorem dL_law_1206 : decode cL_law 1206 = .ok (.if_icmp .eq 42, 3) := by decide +kernel
theorem dL_law_1209 : decode cL_law 1209 = .ok (.iconst 0, 1) := by decide +kernel
theorem dL_law_1210 : decode cL_law 1210 = .ok (.ireturn, 1) := by decide +kernel
theorem dL_law_1211 : decode cL_law 1211 = .ok (.aload_n 1, 1) := by decide +kernel
theorem dL_law_1212 : decode cL_law 1212 = .ok (.aload_n 0, 1) := by decide +kernel
theorem dL_law_1213 : decode cL_law 1213 = .ok (.iload_n 3, 1) := by decide +kernel
theorem dL_law_1214 : decode cL_law 1214 = .ok (.iconst 1, 1) := by decide +kernel
theorem dL_law_1215 : decode cL_law 1215 = .ok (.iadd, 1) := by decide +kernel
theorem dL_law_1216 : decode cL_law 1216 = .ok (.iaload, 1) := by decide +kernel
theorem dL_law_1217 : decode cL_law 1217 = .ok (.invokevirtual 175, 3) := by decide +kernel
theorem dL_law_1220 : decode cL_law 1220 = .ok (.aload_n 2, 1) := by decide +kernel
theorem dL_law_1221 : decode cL_law 1221 = .ok (.aload_n 0, 1) := by decide +kernel
theorem dL_law_1222 : decode cL_law 1222 = .ok (.iload_n 3, 1) := by decide +kernel
theorem dL_law_1223 : decode cL_law 1223 = .ok (.iconst 1, 1) := by decide +kernel
theorem dL_law_1224 : decode cL_law 1224 = .ok (.iadd, 1) := by decide +kernel
theorem dL_law_1225 : decode cL_law 1225 = .ok (.iaload, 1) := by decide +kernel
theorem dL_law_1226 : decode cL_law 1226 = .ok (.invokevirtual 178, 3) := by decide +kernel
theorem dL_law_1229 : decode cL_law 1229 = .ok (.if_icmp .eq 19, 3) := by decide +kernel
theorem dL_law_1232 : decode cL_law 1232 = .ok (.iconst 0, 1) := by decide +kernel
theorem dL_law_1233 : decode cL_law 1233 = .ok (.ireturn, 1) := by decide +kernel
theorem dL_law_1234 : decode cL_law 1234 = .ok (.aload_n 1, 1) := by decide +kernel
theorem dL_law_1235 : decode cL_law 1235 = .ok (.invokevirtual 179, 3) := by decide +kernel
theorem dL_law_1238 : decode cL_law 1238 = .ok (.aload_n 2, 1) := by decide +kernel
theorem dL_law_1239 : decode cL_law 1239 = .ok (.invokevirtual 182, 3) := by decide +kernel
theorem dL_law_1242 : decode cL_law 1242 = .ok (.lcmp, 1) := by decide +kernel
theorem dL_law_1243 : decode cL_law 1243 = .ok (.ifCond .eq 5, 3) := by decide +kernel
theorem dL_law_1246 : decode cL_law 1246 = .ok (.iconst 0, 1) := by decide +kernel
theorem dL_law_1247 : decode cL_law 1247 = .ok (.ireturn, 1) := by decide +kernel
theorem dL_law_1248 : decode cL_law 1248 = .ok (.iinc 3 6, 3) := by decide +kernel
theorem dL_law_1251 : decode cL_law 1251 = .ok (.goto (-1233), 3) := by decide +kernel
theorem dL_law_1254 : decode cL_law 1254 = .ok (.iconst 1, 1) := by decide +kernel
theorem dL_law_1255 : decode cL_law 1255 = .ok (.ireturn, 1) := by decide +kernel
