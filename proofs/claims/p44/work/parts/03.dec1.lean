theorem dX5_takeIron_71 : decode cX5_takeIron 71 = .ok (.iconst 1, 1) := by decide +kernel
theorem dX5_takeIron_72 : decode cX5_takeIron 72 = .ok (.bipush 6, 2) := by decide +kernel
theorem dX5_takeIron_74 : decode cX5_takeIron 74 = .ok (.invokevirtual 44, 3) := by decide +kernel
theorem dX5_takeIron_77 : decode cX5_takeIron 77 = .ok (.ifCond .eq 7, 3) := by decide +kernel
theorem dX5_takeIron_80 : decode cX5_takeIron 80 = .ok (.iconst 1, 1) := by decide +kernel
theorem dX5_takeIron_81 : decode cX5_takeIron 81 = .ok (.goto 4, 3) := by decide +kernel
theorem dX5_takeIron_84 : decode cX5_takeIron 84 = .ok (.iconst 0, 1) := by decide +kernel
theorem dX5_takeIron_85 : decode cX5_takeIron 85 = .ok (.ireturn, 1) := by decide +kernel
theorem dX5_takeMan_0 : decode cX5_takeMan 0 = .ok (.aload_n 1, 1) := by decide +kernel
theorem dX5_takeMan_1 : decode cX5_takeMan 1 = .ok (.getfield 41, 3) := by decide +kernel
theorem dX5_takeMan_4 : decode cX5_takeMan 4 = .ok (.aload_n 0, 1) := by decide +kernel
theorem dX5_takeMan_5 : decode cX5_takeMan 5 = .ok (.getfield 22, 3) := by decide +kernel
theorem dX5_takeMan_8 : decode cX5_takeMan 8 = .ok (.iaload, 1) := by decide +kernel
theorem dX5_takeMan_9 : decode cX5_takeMan 9 = .ok (.invokestatic 48, 3) := by decide +kernel
theorem dX5_takeMan_12 : decode cX5_takeMan 12 = .ok (.istore_n 2, 1) := by decide +kernel
theorem dX5_takeMan_13 : decode cX5_takeMan 13 = .ok (.iload_n 2, 1) := by decide +kernel
theorem dX5_takeMan_14 : decode cX5_takeMan 14 = .ok (.bipush (-9), 2) := by decide +kernel
theorem dX5_takeMan_16 : decode cX5_takeMan 16 = .ok (.if_icmp .ne 5, 3) := by decide +kernel
theorem dX5_takeMan_19 : decode cX5_takeMan 19 = .ok (.iconst 0, 1) := by decide +kernel
theorem dX5_takeMan_20 : decode cX5_takeMan 20 = .ok (.ireturn, 1) := by decide +kernel
theorem dX5_takeMan_21 : decode cX5_takeMan 21 = .ok (.aload_n 0, 1) := by decide +kernel
theorem dX5_takeMan_22 : decode cX5_takeMan 22 = .ok (.iload_n 2, 1) := by decide +kernel
theorem dX5_takeMan_23 : decode cX5_takeMan 23 = .ok (.invokevirtual 52, 3) := by decide +kernel
theorem dX5_takeMan_26 : decode cX5_takeMan 26 = .ok (.aload_n 0, 1) := by decide +kernel
theorem dX5_takeMan_27 : decode cX5_takeMan 27 = .ok (.dup, 1) := by decide +kernel
theorem dX5_takeMan_28 : decode cX5_takeMan 28 = .ok (.getfield 19, 3) := by decide +kernel
theorem dX5_takeMan_31 : decode cX5_takeMan 31 = .ok (.iconst 1, 1) := by decide +kernel
theorem dX5_takeMan_32 : decode cX5_takeMan 32 = .ok (.iadd, 1) := by decide +kernel
theorem dX5_takeMan_33 : decode cX5_takeMan 33 = .ok (.putfield 19, 3) := by decide +kernel
theorem dX5_takeMan_36 : decode cX5_takeMan 36 = .ok (.aload_n 0, 1) := by decide +kernel
theorem dX5_takeMan_37 : decode cX5_takeMan 37 = .ok (.aload_n 1, 1) := by decide +kernel
theorem dX5_takeMan_38 : decode cX5_takeMan 38 = .ok (.iconst 0, 1) := by decide +kernel
theorem dX5_takeMan_39 : decode cX5_takeMan 39 = .ok (.iconst 1, 1) := by decide +kernel
theorem dX5_takeMan_40 : decode cX5_takeMan 40 = .ok (.invokevirtual 44, 3) := by decide +kernel
theorem dX5_takeMan_43 : decode cX5_takeMan 43 = .ok (.ifCond .eq 29, 3) := by decide +kernel
theorem dX5_takeMan_46 : decode cX5_takeMan 46 = .ok (.aload_n 0, 1) := by decide +kernel
theorem dX5_takeMan_47 : decode cX5_takeMan 47 = .ok (.aload_n 1, 1) := by decide +kernel
theorem dX5_takeMan_48 : decode cX5_takeMan 48 = .ok (.iconst 0, 1) := by decide +kernel
theorem dX5_takeMan_49 : decode cX5_takeMan 49 = .ok (.bipush 9, 2) := by decide +kernel
theorem dX5_takeMan_51 : decode cX5_takeMan 51 = .ok (.invokevirtual 44, 3) := by decide +kernel
theorem dX5_takeMan_54 : decode cX5_takeMan 54 = .ok (.ifCond .eq 18, 3) := by decide +kernel
theorem dX5_takeMan_57 : decode cX5_takeMan 57 = .ok (.aload_n 0, 1) := by decide +kernel
theorem dX5_takeMan_58 : decode cX5_takeMan 58 = .ok (.aload_n 1, 1) := by decide +kernel
theorem dX5_takeMan_59 : decode cX5_takeMan 59 = .ok (.iconst 0, 1) := by decide +kernel
theorem dX5_takeMan_60 : decode cX5_takeMan 60 = .ok (.bipush 9, 2) := by decide +kernel
theorem dX5_takeMan_62 : decode cX5_takeMan 62 = .ok (.invokevirtual 44, 3) := by decide +kernel
theorem dX5_takeMan_65 : decode cX5_takeMan 65 = .ok (.ifCond .eq 7, 3) := by decide +kernel
theorem dX5_takeMan_68 : decode cX5_takeMan 68 = .ok (.iconst 1, 1) := by decide +kernel
theorem dX5_takeMan_69 : decode cX5_takeMan 69 = .ok (.goto 4, 3) := by decide +kernel
theorem dX5_takeMan_72 : decode cX5_takeMan 72 = .ok (.iconst 0, 1) := by decide +kernel
theorem dX5_takeMan_73 : decode cX5_takeMan 73 = .ok (.ireturn, 1) := by decide +kernel
theorem dX5_takeFigure_0 : decode cX5_takeFigure 0 = .ok (.aload_n 0, 1) := by decide +kernel
theorem dX5_takeFigure_1 : decode cX5_takeFigure 1 = .ok (.getfield 22, 3) := by decide +kernel
theorem dX5_takeFigure_4 : decode cX5_takeFigure 4 = .ok (.aload_n 1, 1) := by decide +kernel
theorem dX5_takeFigure_5 : decode cX5_takeFigure 5 = .ok (.getfield 33, 3) := by decide +kernel
theorem dX5_takeFigure_8 : decode cX5_takeFigure 8 = .ok (.if_icmp .lt 5, 3) := by decide +kernel
theorem dX5_takeFigure_11 : decode cX5_takeFigure 11 = .ok (.iconst 0, 1) := by decide +kernel
theorem dX5_takeFigure_12 : decode cX5_takeFigure 12 = .ok (.ireturn, 1) := by decide +kernel
theorem dX5_takeFigure_13 : decode cX5_takeFigure 13 = .ok (.aload_n 1, 1) := by decide +kernel
theorem dX5_takeFigure_14 : decode cX5_takeFigure 14 = .ok (.getfield 41, 3) := by decide +kernel
theorem dX5_takeFigure_17 : decode cX5_takeFigure 17 = .ok (.aload_n 0, 1) := by decide +kernel
theorem dX5_takeFigure_18 : decode cX5_takeFigure 18 = .ok (.getfield 22, 3) := by decide +kernel
theorem dX5_takeFigure_21 : decode cX5_takeFigure 21 = .ok (.iaload, 1) := by decide +kernel
theorem dX5_takeFigure_22 : decode cX5_takeFigure 22 = .ok (.bipush 48, 2) := by decide +kernel
theorem dX5_takeFigure_24 : decode cX5_takeFigure 24 = .ok (.isub, 1) := by decide +kernel
theorem dX5_takeFigure_25 : decode cX5_takeFigure 25 = .ok (.istore 4, 2) := by decide +kernel
theorem dX5_takeFigure_27 : decode cX5_takeFigure 27 = .ok (.iload 4, 2) := by decide +kernel
theorem dX5_takeFigure_29 : decode cX5_takeFigure 29 = .ok (.iload_n 2, 1) := by decide +kernel
theorem dX5_takeFigure_30 : decode cX5_takeFigure 30 = .ok (.if_icmp .lt 9, 3) := by decide +kernel
theorem dX5_takeFigure_33 : decode cX5_takeFigure 33 = .ok (.iload 4, 2) := by decide +kernel
theorem dX5_takeFigure_35 : decode cX5_takeFigure 35 = .ok (.iload_n 3, 1) := by decide +kernel
theorem dX5_takeFigure_36 : decode cX5_takeFigure 36 = .ok (.if_icmp .le 5, 3) := by decide +kernel
theorem dX5_takeFigure_39 : decode cX5_takeFigure 39 = .ok (.iconst 0, 1) := by decide +kernel
theorem dX5_takeFigure_40 : decode cX5_takeFigure 40 = .ok (.ireturn, 1) := by decide +kernel
theorem dX5_takeFigure_41 : decode cX5_takeFigure 41 = .ok (.aload_n 0, 1) := by decide +kernel
theorem dX5_takeFigure_42 : decode cX5_takeFigure 42 = .ok (.iload 4, 2) := by decide +kernel
theorem dX5_takeFigure_44 : decode cX5_takeFigure 44 = .ok (.invokevirtual 52, 3) := by decide +kernel
theorem dX5_takeFigure_47 : decode cX5_takeFigure 47 = .ok (.iconst 1, 1) := by decide +kernel
theorem dX5_takeFigure_48 : decode cX5_takeFigure 48 = .ok (.ireturn, 1) := by decide +kernel
theorem dX5_take_0 : decode cX5_take 0 = .ok (.aload_n 0, 1) := by decide +kernel
theorem dX5_take_1 : decode cX5_take 1 = .ok (.getfield 15, 3) := by decide +kernel
theorem dX5_take_4 : decode cX5_take 4 = .ok (.aload_n 0, 1) := by decide +kernel
theorem dX5_take_5 : decode cX5_take 5 = .ok (.getfield 11, 3) := by decide +kernel
theorem dX5_take_8 : decode cX5_take 8 = .ok (.arraylength, 1) := by decide +kernel
theorem dX5_take_9 : decode cX5_take 9 = .ok (.if_icmp .ge 23, 3) := by decide +kernel
theorem dX5_take_12 : decode cX5_take 12 = .ok (.aload_n 0, 1) := by decide +kernel
theorem dX5_take_13 : decode cX5_take 13 = .ok (.getfield 11, 3) := by decide +kernel
theorem dX5_take_16 : decode cX5_take 16 = .ok (.aload_n 0, 1) := by decide +kernel
theorem dX5_take_17 : decode cX5_take 17 = .ok (.getfield 15, 3) := by decide +kernel
theorem dX5_take_20 : decode cX5_take 20 = .ok (.iload_n 1, 1) := by decide +kernel
theorem dX5_take_21 : decode cX5_take 21 = .ok (.iastore, 1) := by decide +kernel
theorem dX5_take_22 : decode cX5_take 22 = .ok (.aload_n 0, 1) := by decide +kernel
theorem dX5_take_23 : decode cX5_take 23 = .ok (.dup, 1) := by decide +kernel
theorem dX5_take_24 : decode cX5_take 24 = .ok (.getfield 15, 3) := by decide +kernel
theorem dX5_take_27 : decode cX5_take 27 = .ok (.iconst 1, 1) := by decide +kernel
theorem dX5_take_28 : decode cX5_take 28 = .ok (.iadd, 1) := by decide +kernel
theorem dX5_take_29 : decode cX5_take 29 = .ok (.putfield 15, 3) := by decide +kernel
theorem dX5_take_32 : decode cX5_take 32 = .ok (.aload_n 0, 1) := by decide +kernel
theorem dX5_take_33 : decode cX5_take 33 = .ok (.dup, 1) := by decide +kernel
theorem dX5_take_34 : decode cX5_take 34 = .ok (.getfield 22, 3) := by decide +kernel
theorem dX5_take_37 : decode cX5_take 37 = .ok (.iconst 1, 1) := by decide +kernel
theorem dX5_take_38 : decode cX5_take 38 = .ok (.iadd, 1) := by decide +kernel
theorem dX5_take_39 : decode cX5_take 39 = .ok (.putfield 22, 3) := by decide +kernel
theorem dX5_take_42 : decode cX5_take 42 = .ok (.return_, 1) := by decide +kernel
theorem dX5_passBlanks_0 : decode cX5_passBlanks 0 = .ok (.aload_n 0, 1) := by decide +kernel
theorem dX5_passBlanks_1 : decode cX5_passBlanks 1 = .ok (.getfield 22, 3) := by decide +kernel
theorem dX5_passBlanks_4 : decode cX5_passBlanks 4 = .ok (.aload_n 1, 1) := by decide +kernel
theorem dX5_passBlanks_5 : decode cX5_passBlanks 5 = .ok (.getfield 33, 3) := by decide +kernel
theorem dX5_passBlanks_8 : decode cX5_passBlanks 8 = .ok (.if_icmp .ge 30, 3) := by decide +kernel
theorem dX5_passBlanks_11 : decode cX5_passBlanks 11 = .ok (.aload_n 1, 1) := by decide +kernel
theorem dX5_passBlanks_12 : decode cX5_passBlanks 12 = .ok (.getfield 41, 3) := by decide +kernel
theorem dX5_passBlanks_15 : decode cX5_passBlanks 15 = .ok (.aload_n 0, 1) := by decide +kernel
theorem dX5_passBlanks_16 : decode cX5_passBlanks 16 = .ok (.getfield 22, 3) := by decide +kernel
theorem dX5_passBlanks_19 : decode cX5_passBlanks 19 = .ok (.iaload, 1) := by decide +kernel
theorem dX5_passBlanks_20 : decode cX5_passBlanks 20 = .ok (.bipush 32, 2) := by decide +kernel
theorem dX5_passBlanks_22 : decode cX5_passBlanks 22 = .ok (.if_icmp .ne 16, 3) := by decide +kernel
theorem dX5_passBlanks_25 : decode cX5_passBlanks 25 = .ok (.aload_n 0, 1) := by decide +kernel
theorem dX5_passBlanks_26 : decode cX5_passBlanks 26 = .ok (.dup, 1) := by decide +kernel
theorem dX5_passBlanks_27 : decode cX5_passBlanks 27 = .ok (.getfield 22, 3) := by decide +kernel
theorem dX5_passBlanks_30 : decode cX5_passBlanks 30 = .ok (.iconst 1, 1) := by decide +kernel
theorem dX5_passBlanks_31 : decode cX5_passBlanks 31 = .ok (.iadd, 1) := by decide +kernel
theorem dX5_passBlanks_32 : decode cX5_passBlanks 32 = .ok (.putfield 22, 3) := by decide +kernel
theorem dX5_passBlanks_35 : decode cX5_passBlanks 35 = .ok (.goto (-35), 3) := by decide +kernel
theorem dX5_passBlanks_38 : decode cX5_passBlanks 38 = .ok (.return_, 1) := by decide +kernel
theorem dX5_kindOf_0 : decode cX5_kindOf 0 = .ok (.iload_n 0, 1) := by decide +kernel
theorem dX5_kindOf_1 : decode cX5_kindOf 1 = .ok (.lookupswitch 71 #[(99, 63), (109, 59), (110, 69), (112, 61), (119, 65), (120, 67)], 59) := by decide +kernel
theorem dX5_kindOf_60 : decode cX5_kindOf 60 = .ok (.iconst 0, 1) := by decide +kernel
theorem dX5_kindOf_61 : decode cX5_kindOf 61 = .ok (.ireturn, 1) := by decide +kernel
theorem dX5_kindOf_62 : decode cX5_kindOf 62 = .ok (.iconst 1, 1) := by decide +kernel
theorem dX5_kindOf_63 : decode cX5_kindOf 63 = .ok (.ireturn, 1) := by decide +kernel
theorem dX5_kindOf_64 : decode cX5_kindOf 64 = .ok (.iconst 2, 1) := by decide +kernel
theorem dX5_kindOf_65 : decode cX5_kindOf 65 = .ok (.ireturn, 1) := by decide +kernel
theorem dX5_kindOf_66 : decode cX5_kindOf 66 = .ok (.iconst 3, 1) := by decide +kernel
theorem dX5_kindOf_67 : decode cX5_kindOf 67 = .ok (.ireturn, 1) := by decide +kernel
theorem dX5_kindOf_68 : decode cX5_kindOf 68 = .ok (.iconst 4, 1) := by decide +kernel
theorem dX5_kindOf_69 : decode cX5_kindOf 69 = .ok (.ireturn, 1) := by decide +kernel
theorem dX5_kindOf_70 : decode cX5_kindOf 70 = .ok (.iconst 5, 1) := by decide +kernel
theorem dX5_kindOf_71 : decode cX5_kindOf 71 = .ok (.ireturn, 1) := by decide +kernel
theorem dX5_kindOf_72 : decode cX5_kindOf 72 = .ok (.bipush (-9), 2) := by decide +kernel
theorem dX5_kindOf_74 : decode cX5_kindOf 74 = .ok (.ireturn, 1) := by decide +kernel
theorem dX6_init_0 : decode cX6_init 0 = .ok (.aload_n 0, 1) := by decide +kernel
theorem dX6_init_1 : decode cX6_init 1 = .ok (.invokespecial 3, 3) := by decide +kernel
theorem dX6_init_4 : decode cX6_init 4 = .ok (.aload_n 0, 1) := by decide +kernel
theorem dX6_init_5 : decode cX6_init 5 = .ok (.iconst (-1), 1) := by decide +kernel
theorem dX6_init_6 : decode cX6_init 6 = .ok (.putfield 9, 3) := by decide +kernel
theorem dX6_init_9 : decode cX6_init 9 = .ok (.aload_n 0, 1) := by decide +kernel
theorem dX6_init_10 : decode cX6_init 10 = .ok (.iload_n 1, 1) := by decide +kernel
theorem dX6_init_11 : decode cX6_init 11 = .ok (.newarray .int, 2) := by decide +kernel
theorem dX6_init_13 : decode cX6_init 13 = .ok (.putfield 15, 3) := by decide +kernel
theorem dX6_init_16 : decode cX6_init 16 = .ok (.return_, 1) := by decide +kernel
theorem dX6_isMissing_0 : decode cX6_isMissing 0 = .ok (.aload_n 0, 1) := by decide +kernel
theorem dX6_isMissing_1 : decode cX6_isMissing 1 = .ok (.getfield 9, 3) := by decide +kernel
theorem dX6_isMissing_4 : decode cX6_isMissing 4 = .ok (.iconst (-1), 1) := by decide +kernel
theorem dX6_isMissing_5 : decode cX6_isMissing 5 = .ok (.if_icmp .ne 7, 3) := by decide +kernel
theorem dX6_isMissing_8 : decode cX6_isMissing 8 = .ok (.iconst 1, 1) := by decide +kernel
theorem dX6_isMissing_9 : decode cX6_isMissing 9 = .ok (.goto 4, 3) := by decide +kernel
theorem dX6_isMissing_12 : decode cX6_isMissing 12 = .ok (.iconst 0, 1) := by decide +kernel
theorem dX6_isMissing_13 : decode cX6_isMissing 13 = .ok (.ireturn, 1) := by decide +kernel
theorem dX6_layOut_0 : decode cX6_layOut 0 = .ok (.iconst 0, 1) := by decide +kernel
theorem dX6_layOut_1 : decode cX6_layOut 1 = .ok (.istore_n 3, 1) := by decide +kernel
theorem dX6_layOut_2 : decode cX6_layOut 2 = .ok (.iload_n 3, 1) := by decide +kernel
theorem dX6_layOut_3 : decode cX6_layOut 3 = .ok (.iload_n 1, 1) := by decide +kernel
theorem dX6_layOut_4 : decode cX6_layOut 4 = .ok (.if_icmp .ge 25, 3) := by decide +kernel
theorem dX6_layOut_7 : decode cX6_layOut 7 = .ok (.iload_n 3, 1) := by decide +kernel
theorem dX6_layOut_8 : decode cX6_layOut 8 = .ok (.aload_n 0, 1) := by decide +kernel
theorem dX6_layOut_9 : decode cX6_layOut 9 = .ok (.getfield 15, 3) := by decide +kernel
theorem dX6_layOut_12 : decode cX6_layOut 12 = .ok (.arraylength, 1) := by decide +kernel
theorem dX6_layOut_13 : decode cX6_layOut 13 = .ok (.if_icmp .ge 16, 3) := by decide +kernel
theorem dX6_layOut_16 : decode cX6_layOut 16 = .ok (.aload_n 0, 1) := by decide +kernel
theorem dX6_layOut_17 : decode cX6_layOut 17 = .ok (.getfield 15, 3) := by decide +kernel
theorem dX6_layOut_20 : decode cX6_layOut 20 = .ok (.iload_n 3, 1) := by decide +kernel
theorem dX6_layOut_21 : decode cX6_layOut 21 = .ok (.iload_n 2, 1) := by decide +kernel
theorem dX6_layOut_22 : decode cX6_layOut 22 = .ok (.iastore, 1) := by decide +kernel
theorem dX6_layOut_23 : decode cX6_layOut 23 = .ok (.iinc 3 1, 3) := by decide +kernel
theorem dX6_layOut_26 : decode cX6_layOut 26 = .ok (.goto (-24), 3) := by decide +kernel
theorem dX6_layOut_29 : decode cX6_layOut 29 = .ok (.aload_n 0, 1) := by decide +kernel
theorem dX6_layOut_30 : decode cX6_layOut 30 = .ok (.iload_n 1, 1) := by decide +kernel
theorem dX6_layOut_31 : decode cX6_layOut 31 = .ok (.putfield 9, 3) := by decide +kernel
theorem dX6_layOut_34 : decode cX6_layOut 34 = .ok (.return_, 1) := by decide +kernel
theorem dX6_digestOnto_0 : decode cX6_digestOnto 0 = .ok (.ldc2_w 19, 3) := by decide +kernel
theorem dX6_digestOnto_3 : decode cX6_digestOnto 3 = .ok (.lload_n 1, 1) := by decide +kernel
theorem dX6_digestOnto_4 : decode cX6_digestOnto 4 = .ok (.lmul, 1) := by decide +kernel
theorem dX6_digestOnto_5 : decode cX6_digestOnto 5 = .ok (.aload_n 0, 1) := by decide +kernel
theorem dX6_digestOnto_6 : decode cX6_digestOnto 6 = .ok (.getfield 9, 3) := by decide +kernel
theorem dX6_digestOnto_9 : decode cX6_digestOnto 9 = .ok (.i2l, 1) := by decide +kernel
theorem dX6_digestOnto_10 : decode cX6_digestOnto 10 = .ok (.ladd, 1) := by decide +kernel
theorem dX6_digestOnto_11 : decode cX6_digestOnto 11 = .ok (.lstore_n 3, 1) := by decide +kernel
theorem dX6_digestOnto_12 : decode cX6_digestOnto 12 = .ok (.iconst 0, 1) := by decide +kernel
theorem dX6_digestOnto_13 : decode cX6_digestOnto 13 = .ok (.istore 5, 2) := by decide +kernel
theorem dX6_digestOnto_15 : decode cX6_digestOnto 15 = .ok (.iload 5, 2) := by decide +kernel
theorem dX6_digestOnto_17 : decode cX6_digestOnto 17 = .ok (.aload_n 0, 1) := by decide +kernel
theorem dX6_digestOnto_18 : decode cX6_digestOnto 18 = .ok (.getfield 9, 3) := by decide +kernel
theorem dX6_digestOnto_21 : decode cX6_digestOnto 21 = .ok (.if_icmp .ge 24, 3) := by decide +kernel
theorem dX6_digestOnto_24 : decode cX6_digestOnto 24 = .ok (.ldc2_w 19, 3) := by decide +kernel
theorem dX6_digestOnto_27 : decode cX6_digestOnto 27 = .ok (.lload_n 3, 1) := by decide +kernel
theorem dX6_digestOnto_28 : decode cX6_digestOnto 28 = .ok (.lmul, 1) := by decide +kernel
theorem dX6_digestOnto_29 : decode cX6_digestOnto 29 = .ok (.aload_n 0, 1) := by decide +kernel
theorem dX6_digestOnto_30 : decode cX6_digestOnto 30 = .ok (.getfield 15, 3) := by decide +kernel
theorem dX6_digestOnto_33 : decode cX6_digestOnto 33 = .ok (.iload 5, 2) := by decide +kernel
theorem dX6_digestOnto_35 : decode cX6_digestOnto 35 = .ok (.iaload, 1) := by decide +kernel
theorem dX6_digestOnto_36 : decode cX6_digestOnto 36 = .ok (.i2l, 1) := by decide +kernel
theorem dX6_digestOnto_37 : decode cX6_digestOnto 37 = .ok (.ladd, 1) := by decide +kernel
theorem dX6_digestOnto_38 : decode cX6_digestOnto 38 = .ok (.lstore_n 3, 1) := by decide +kernel
theorem dX6_digestOnto_39 : decode cX6_digestOnto 39 = .ok (.iinc 5 1, 3) := by decide +kernel
theorem dX6_digestOnto_42 : decode cX6_digestOnto 42 = .ok (.goto (-27), 3) := by decide +kernel
theorem dX6_digestOnto_45 : decode cX6_digestOnto 45 = .ok (.lload_n 3, 1) := by decide +kernel
theorem dX6_digestOnto_46 : decode cX6_digestOnto 46 = .ok (.lreturn, 1) := by decide +kernel
theorem dX7_init_0 : decode cX7_init 0 = .ok (.aload_n 0, 1) := by decide +kernel
theorem dX7_init_1 : decode cX7_init 1 = .ok (.invokespecial 1, 3) := by decide +kernel
theorem dX7_init_4 : decode cX7_init 4 = .ok (.aload_n 0, 1) := by decide +kernel
theorem dX7_init_5 : decode cX7_init 5 = .ok (.bipush 6, 2) := by decide +kernel
theorem dX7_init_7 : decode cX7_init 7 = .ok (.anewarray 9, 3) := by decide +kernel
theorem dX7_init_10 : decode cX7_init 10 = .ok (.putfield 11, 3) := by decide +kernel
theorem dX7_init_13 : decode cX7_init 13 = .ok (.aload_n 0, 1) := by decide +kernel
theorem dX7_init_14 : decode cX7_init 14 = .ok (.iconst 4, 1) := by decide +kernel
theorem dX7_init_15 : decode cX7_init 15 = .ok (.anewarray 9, 3) := by decide +kernel
theorem dX7_init_18 : decode cX7_init 18 = .ok (.putfield 15, 3) := by decide +kernel
theorem dX7_init_21 : decode cX7_init 21 = .ok (.aload_n 0, 1) := by decide +kernel
theorem dX7_init_22 : decode cX7_init 22 = .ok (.new 18, 3) := by decide +kernel
theorem dX7_init_25 : decode cX7_init 25 = .ok (.dup, 1) := by decide +kernel
theorem dX7_init_26 : decode cX7_init 26 = .ok (.invokespecial 20, 3) := by decide +kernel
theorem dX7_init_29 : decode cX7_init 29 = .ok (.putfield 21, 3) := by decide +kernel
theorem dX7_init_32 : decode cX7_init 32 = .ok (.aload_n 0, 1) := by decide +kernel
theorem dX7_init_33 : decode cX7_init 33 = .ok (.new 25, 3) := by decide +kernel
theorem dX7_init_36 : decode cX7_init 36 = .ok (.dup, 1) := by decide +kernel
theorem dX7_init_37 : decode cX7_init 37 = .ok (.invokespecial 27, 3) := by decide +kernel
theorem dX7_init_40 : decode cX7_init 40 = .ok (.putfield 28, 3) := by decide +kernel
theorem dX7_init_43 : decode cX7_init 43 = .ok (.aload_n 0, 1) := by decide +kernel
theorem dX7_init_44 : decode cX7_init 44 = .ok (.iconst 3, 1) := by decide +kernel
theorem dX7_init_45 : decode cX7_init 45 = .ok (.anewarray 32, 3) := by decide +kernel
theorem dX7_init_48 : decode cX7_init 48 = .ok (.putfield 34, 3) := by decide +kernel
theorem dX7_init_51 : decode cX7_init 51 = .ok (.aload_n 0, 1) := by decide +kernel
theorem dX7_init_52 : decode cX7_init 52 = .ok (.new 38, 3) := by decide +kernel
theorem dX7_init_55 : decode cX7_init 55 = .ok (.dup, 1) := by decide +kernel
theorem dX7_init_56 : decode cX7_init 56 = .ok (.invokespecial 40, 3) := by decide +kernel
theorem dX7_init_59 : decode cX7_init 59 = .ok (.putfield 41, 3) := by decide +kernel
theorem dX7_init_62 : decode cX7_init 62 = .ok (.aload_n 0, 1) := by decide +kernel
theorem dX7_init_63 : decode cX7_init 63 = .ok (.new 45, 3) := by decide +kernel
theorem dX7_init_66 : decode cX7_init 66 = .ok (.dup, 1) := by decide +kernel
theorem dX7_init_67 : decode cX7_init 67 = .ok (.invokespecial 47, 3) := by decide +kernel
theorem dX7_init_70 : decode cX7_init 70 = .ok (.putfield 48, 3) := by decide +kernel
theorem dX7_init_73 : decode cX7_init 73 = .ok (.aload_n 0, 1) := by decide +kernel
theorem dX7_init_74 : decode cX7_init 74 = .ok (.bipush 6, 2) := by decide +kernel
theorem dX7_init_76 : decode cX7_init 76 = .ok (.newarray .int, 2) := by decide +kernel
theorem dX7_init_78 : decode cX7_init 78 = .ok (.putfield 52, 3) := by decide +kernel
theorem dX7_init_81 : decode cX7_init 81 = .ok (.aload_n 0, 1) := by decide +kernel
theorem dX7_init_82 : decode cX7_init 82 = .ok (.lconst 1, 1) := by decide +kernel
theorem dX7_init_83 : decode cX7_init 83 = .ok (.putfield 56, 3) := by decide +kernel
theorem dX7_init_86 : decode cX7_init 86 = .ok (.iconst 0, 1) := by decide +kernel
theorem dX7_init_87 : decode cX7_init 87 = .ok (.istore_n 1, 1) := by decide +kernel
theorem dX7_init_88 : decode cX7_init 88 = .ok (.iload_n 1, 1) := by decide +kernel
theorem dX7_init_89 : decode cX7_init 89 = .ok (.bipush 6, 2) := by decide +kernel
theorem dX7_init_91 : decode cX7_init 91 = .ok (.if_icmp .ge 24, 3) := by decide +kernel
theorem dX7_init_94 : decode cX7_init 94 = .ok (.aload_n 0, 1) := by decide +kernel
theorem dX7_init_95 : decode cX7_init 95 = .ok (.getfield 11, 3) := by decide +kernel
theorem dX7_init_98 : decode cX7_init 98 = .ok (.iload_n 1, 1) := by decide +kernel
theorem dX7_init_99 : decode cX7_init 99 = .ok (.new 9, 3) := by decide +kernel
theorem dX7_init_102 : decode cX7_init 102 = .ok (.dup, 1) := by decide +kernel
theorem dX7_init_103 : decode cX7_init 103 = .ok (.bipush 40, 2) := by decide +kernel
theorem dX7_init_105 : decode cX7_init 105 = .ok (.invokespecial 60, 3) := by decide +kernel
theorem dX7_init_108 : decode cX7_init 108 = .ok (.aastore, 1) := by decide +kernel
theorem dX7_init_109 : decode cX7_init 109 = .ok (.iinc 1 1, 3) := by decide +kernel
theorem dX7_init_112 : decode cX7_init 112 = .ok (.goto (-24), 3) := by decide +kernel
theorem dX7_init_115 : decode cX7_init 115 = .ok (.iconst 0, 1) := by decide +kernel
theorem dX7_init_116 : decode cX7_init 116 = .ok (.istore_n 1, 1) := by decide +kernel
theorem dX7_init_117 : decode cX7_init 117 = .ok (.iload_n 1, 1) := by decide +kernel
theorem dX7_init_118 : decode cX7_init 118 = .ok (.iconst 4, 1) := by decide +kernel
theorem dX7_init_119 : decode cX7_init 119 = .ok (.if_icmp .ge 24, 3) := by decide +kernel
theorem dX7_init_122 : decode cX7_init 122 = .ok (.aload_n 0, 1) := by decide +kernel
theorem dX7_init_123 : decode cX7_init 123 = .ok (.getfield 15, 3) := by decide +kernel
theorem dX7_init_126 : decode cX7_init 126 = .ok (.iload_n 1, 1) := by decide +kernel
theorem dX7_init_127 : decode cX7_init 127 = .ok (.new 9, 3) := by decide +kernel
theorem dX7_init_130 : decode cX7_init 130 = .ok (.dup, 1) := by decide +kernel
theorem dX7_init_131 : decode cX7_init 131 = .ok (.bipush 60, 2) := by decide +kernel
theorem dX7_init_133 : decode cX7_init 133 = .ok (.invokespecial 60, 3) := by decide +kernel
theorem dX7_init_136 : decode cX7_init 136 = .ok (.aastore, 1) := by decide +kernel
theorem dX7_init_137 : decode cX7_init 137 = .ok (.iinc 1 1, 3) := by decide +kernel
theorem dX7_init_140 : decode cX7_init 140 = .ok (.goto (-23), 3) := by decide +kernel
theorem dX7_init_143 : decode cX7_init 143 = .ok (.iconst 0, 1) := by decide +kernel
theorem dX7_init_144 : decode cX7_init 144 = .ok (.istore_n 1, 1) := by decide +kernel
theorem dX7_init_145 : decode cX7_init 145 = .ok (.iload_n 1, 1) := by decide +kernel
theorem dX7_init_146 : decode cX7_init 146 = .ok (.iconst 3, 1) := by decide +kernel
theorem dX7_init_147 : decode cX7_init 147 = .ok (.if_icmp .ge 23, 3) := by decide +kernel
theorem dX7_init_150 : decode cX7_init 150 = .ok (.aload_n 0, 1) := by decide +kernel
theorem dX7_init_151 : decode cX7_init 151 = .ok (.getfield 34, 3) := by decide +kernel
theorem dX7_init_154 : decode cX7_init 154 = .ok (.iload_n 1, 1) := by decide +kernel
theorem dX7_init_155 : decode cX7_init 155 = .ok (.new 32, 3) := by decide +kernel
theorem dX7_init_158 : decode cX7_init 158 = .ok (.dup, 1) := by decide +kernel
theorem dX7_init_159 : decode cX7_init 159 = .ok (.iconst (-1), 1) := by decide +kernel
theorem dX7_init_160 : decode cX7_init 160 = .ok (.invokespecial 63, 3) := by decide +kernel
theorem dX7_init_163 : decode cX7_init 163 = .ok (.aastore, 1) := by decide +kernel
theorem dX7_init_164 : decode cX7_init 164 = .ok (.iinc 1 1, 3) := by decide +kernel
theorem dX7_init_167 : decode cX7_init 167 = .ok (.goto (-22), 3) := by decide +kernel
theorem dX7_init_170 : decode cX7_init 170 = .ok (.return_, 1) := by decide +kernel
theorem dX7_row_0 : decode cX7_row 0 = .ok (.aload_n 0, 1) := by decide +kernel
theorem dX7_row_1 : decode cX7_row 1 = .ok (.aload_n 0, 1) := by decide +kernel
theorem dX7_row_2 : decode cX7_row 2 = .ok (.getfield 11, 3) := by decide +kernel
theorem dX7_row_5 : decode cX7_row 5 = .ok (.iload_n 1, 1) := by decide +kernel
theorem dX7_row_6 : decode cX7_row 6 = .ok (.iload_n 2, 1) := by decide +kernel
theorem dX7_row_7 : decode cX7_row 7 = .ok (.iconst 0, 1) := by decide +kernel
theorem dX7_row_8 : decode cX7_row 8 = .ok (.invokevirtual 64, 3) := by decide +kernel
theorem dX7_row_11 : decode cX7_row 11 = .ok (.ireturn, 1) := by decide +kernel
theorem dX7_lay_0 : decode cX7_lay 0 = .ok (.aload_n 0, 1) := by decide +kernel
theorem dX7_lay_1 : decode cX7_lay 1 = .ok (.aload_n 0, 1) := by decide +kernel
theorem dX7_lay_2 : decode cX7_lay 2 = .ok (.getfield 11, 3) := by decide +kernel
theorem dX7_lay_5 : decode cX7_lay 5 = .ok (.iload_n 1, 1) := by decide +kernel
theorem dX7_lay_6 : decode cX7_lay 6 = .ok (.iload_n 2, 1) := by decide +kernel
theorem dX7_lay_7 : decode cX7_lay 7 = .ok (.invokevirtual 68, 3) := by decide +kernel
theorem dX7_lay_10 : decode cX7_lay 10 = .ok (.istore 4, 2) := by decide +kernel
theorem dX7_lay_12 : decode cX7_lay 12 = .ok (.iload 4, 2) := by decide +kernel
theorem dX7_lay_14 : decode cX7_lay 14 = .ok (.ifCond .eq 6, 3) := by decide +kernel
theorem dX7_lay_17 : decode cX7_lay 17 = .ok (.iload 4, 2) := by decide +kernel
theorem dX7_lay_19 : decode cX7_lay 19 = .ok (.ireturn, 1) := by decide +kernel
theorem dX7_lay_20 : decode cX7_lay 20 = .ok (.aload_n 0, 1) := by decide +kernel
theorem dX7_lay_21 : decode cX7_lay 21 = .ok (.aload_n 0, 1) := by decide +kernel
theorem dX7_lay_22 : decode cX7_lay 22 = .ok (.getfield 11, 3) := by decide +kernel
theorem dX7_lay_25 : decode cX7_lay 25 = .ok (.iload_n 1, 1) := by decide +kernel
theorem dX7_lay_26 : decode cX7_lay 26 = .ok (.aaload, 1) := by decide +kernel
theorem dX7_lay_27 : decode cX7_lay 27 = .ok (.getfield 72, 3) := by decide +kernel
theorem dX7_lay_30 : decode cX7_lay 30 = .ok (.iload_n 2, 1) := by decide +kernel
theorem dX7_lay_31 : decode cX7_lay 31 = .ok (.iaload, 1) := by decide +kernel
theorem dX7_lay_32 : decode cX7_lay 32 = .ok (.putfield 75, 3) := by decide +kernel
theorem dX7_lay_35 : decode cX7_lay 35 = .ok (.aload_n 0, 1) := by decide +kernel
theorem dX7_lay_36 : decode cX7_lay 36 = .ok (.getfield 11, 3) := by decide +kernel
theorem dX7_lay_39 : decode cX7_lay 39 = .ok (.iload_n 1, 1) := by decide +kernel
theorem dX7_lay_40 : decode cX7_lay 40 = .ok (.aaload, 1) := by decide +kernel
theorem dX7_lay_41 : decode cX7_lay 41 = .ok (.getfield 72, 3) := by decide +kernel
theorem dX7_lay_44 : decode cX7_lay 44 = .ok (.iload_n 2, 1) := by decide +kernel
theorem dX7_lay_45 : decode cX7_lay 45 = .ok (.iload_n 3, 1) := by decide +kernel
theorem dX7_lay_46 : decode cX7_lay 46 = .ok (.iastore, 1) := by decide +kernel
theorem dX7_lay_47 : decode cX7_lay 47 = .ok (.iconst 1, 1) := by decide +kernel
theorem dX7_lay_48 : decode cX7_lay 48 = .ok (.ireturn, 1) := by decide +kernel
theorem dX7_at_0 : decode cX7_at 0 = .ok (.aload_n 0, 1) := by decide +kernel
theorem dX7_at_1 : decode cX7_at 1 = .ok (.aload_n 0, 1) := by decide +kernel
theorem dX7_at_2 : decode cX7_at 2 = .ok (.getfield 11, 3) := by decide +kernel
theorem dX7_at_5 : decode cX7_at 5 = .ok (.iload_n 1, 1) := by decide +kernel
theorem dX7_at_6 : decode cX7_at 6 = .ok (.iload_n 2, 1) := by decide +kernel
theorem dX7_at_7 : decode cX7_at 7 = .ok (.invokevirtual 68, 3) := by decide +kernel
theorem dX7_at_10 : decode cX7_at 10 = .ok (.istore_n 3, 1) := by decide +kernel
theorem dX7_at_11 : decode cX7_at 11 = .ok (.iload_n 3, 1) := by decide +kernel
theorem dX7_at_12 : decode cX7_at 12 = .ok (.ifCond .eq 5, 3) := by decide +kernel
theorem dX7_at_15 : decode cX7_at 15 = .ok (.iload_n 3, 1) := by decide +kernel
theorem dX7_at_16 : decode cX7_at 16 = .ok (.ireturn, 1) := by decide +kernel
theorem dX7_at_17 : decode cX7_at 17 = .ok (.aload_n 0, 1) := by decide +kernel
theorem dX7_at_18 : decode cX7_at 18 = .ok (.aload_n 0, 1) := by decide +kernel
theorem dX7_at_19 : decode cX7_at 19 = .ok (.getfield 11, 3) := by decide +kernel
theorem dX7_at_22 : decode cX7_at 22 = .ok (.iload_n 1, 1) := by decide +kernel
theorem dX7_at_23 : decode cX7_at 23 = .ok (.aaload, 1) := by decide +kernel
theorem dX7_at_24 : decode cX7_at 24 = .ok (.getfield 72, 3) := by decide +kernel
theorem dX7_at_27 : decode cX7_at 27 = .ok (.iload_n 2, 1) := by decide +kernel
theorem dX7_at_28 : decode cX7_at 28 = .ok (.iaload, 1) := by decide +kernel
theorem dX7_at_29 : decode cX7_at 29 = .ok (.putfield 75, 3) := by decide +kernel
theorem dX7_at_32 : decode cX7_at 32 = .ok (.iconst 1, 1) := by decide +kernel
theorem dX7_at_33 : decode cX7_at 33 = .ok (.ireturn, 1) := by decide +kernel
theorem dX7_tear_0 : decode cX7_tear 0 = .ok (.aload_n 0, 1) := by decide +kernel
theorem dX7_tear_1 : decode cX7_tear 1 = .ok (.aload_n 0, 1) := by decide +kernel
theorem dX7_tear_2 : decode cX7_tear 2 = .ok (.getfield 11, 3) := by decide +kernel
theorem dX7_tear_5 : decode cX7_tear 5 = .ok (.iload_n 1, 1) := by decide +kernel
theorem dX7_tear_6 : decode cX7_tear 6 = .ok (.invokevirtual 79, 3) := by decide +kernel
theorem dX7_tear_9 : decode cX7_tear 9 = .ok (.istore_n 2, 1) := by decide +kernel
theorem dX7_tear_10 : decode cX7_tear 10 = .ok (.iload_n 2, 1) := by decide +kernel
theorem dX7_tear_11 : decode cX7_tear 11 = .ok (.ifCond .eq 5, 3) := by decide +kernel
theorem dX7_tear_14 : decode cX7_tear 14 = .ok (.iload_n 2, 1) := by decide +kernel
theorem dX7_tear_15 : decode cX7_tear 15 = .ok (.ireturn, 1) := by decide +kernel
theorem dX7_tear_16 : decode cX7_tear 16 = .ok (.aload_n 0, 1) := by decide +kernel
theorem dX7_tear_17 : decode cX7_tear 17 = .ok (.getfield 11, 3) := by decide +kernel
theorem dX7_tear_20 : decode cX7_tear 20 = .ok (.iload_n 1, 1) := by decide +kernel
theorem dX7_tear_21 : decode cX7_tear 21 = .ok (.aaload, 1) := by decide +kernel
theorem dX7_tear_22 : decode cX7_tear 22 = .ok (.iconst (-1), 1) := by decide +kernel
theorem dX7_tear_23 : decode cX7_tear 23 = .ok (.putfield 83, 3) := by decide +kernel
theorem dX7_tear_26 : decode cX7_tear 26 = .ok (.iconst 1, 1) := by decide +kernel
theorem dX7_tear_27 : decode cX7_tear 27 = .ok (.ireturn, 1) := by decide +kernel
theorem dX7_text_0 : decode cX7_text 0 = .ok (.aload_n 0, 1) := by decide +kernel
theorem dX7_text_1 : decode cX7_text 1 = .ok (.aload_n 0, 1) := by decide +kernel
theorem dX7_text_2 : decode cX7_text 2 = .ok (.getfield 15, 3) := by decide +kernel
theorem dX7_text_5 : decode cX7_text 5 = .ok (.iload_n 1, 1) := by decide +kernel
theorem dX7_text_6 : decode cX7_text 6 = .ok (.iload_n 2, 1) := by decide +kernel
theorem dX7_text_7 : decode cX7_text 7 = .ok (.bipush 32, 2) := by decide +kernel
theorem dX7_text_9 : decode cX7_text 9 = .ok (.invokevirtual 64, 3) := by decide +kernel
theorem dX7_text_12 : decode cX7_text 12 = .ok (.ireturn, 1) := by decide +kernel
theorem dX7_put_0 : decode cX7_put 0 = .ok (.aload_n 0, 1) := by decide +kernel
theorem dX7_put_1 : decode cX7_put 1 = .ok (.aload_n 0, 1) := by decide +kernel
theorem dX7_put_2 : decode cX7_put 2 = .ok (.getfield 15, 3) := by decide +kernel
theorem dX7_put_5 : decode cX7_put 5 = .ok (.iload_n 1, 1) := by decide +kernel
theorem dX7_put_6 : decode cX7_put 6 = .ok (.iload_n 2, 1) := by decide +kernel
theorem dX7_put_7 : decode cX7_put 7 = .ok (.invokevirtual 68, 3) := by decide +kernel
theorem dX7_put_10 : decode cX7_put 10 = .ok (.istore 4, 2) := by decide +kernel
theorem dX7_put_12 : decode cX7_put 12 = .ok (.iload 4, 2) := by decide +kernel
theorem dX7_put_14 : decode cX7_put 14 = .ok (.ifCond .eq 6, 3) := by decide +kernel
theorem dX7_put_17 : decode cX7_put 17 = .ok (.iload 4, 2) := by decide +kernel
theorem dX7_put_19 : decode cX7_put 19 = .ok (.ireturn, 1) := by decide +kernel
theorem dX7_put_20 : decode cX7_put 20 = .ok (.aload_n 0, 1) := by decide +kernel
theorem dX7_put_21 : decode cX7_put 21 = .ok (.getfield 15, 3) := by decide +kernel
theorem dX7_put_24 : decode cX7_put 24 = .ok (.iload_n 1, 1) := by decide +kernel
theorem dX7_put_25 : decode cX7_put 25 = .ok (.aaload, 1) := by decide +kernel
theorem dX7_put_26 : decode cX7_put 26 = .ok (.getfield 72, 3) := by decide +kernel
theorem dX7_put_29 : decode cX7_put 29 = .ok (.iload_n 2, 1) := by decide +kernel
theorem dX7_put_30 : decode cX7_put 30 = .ok (.iaload, 1) := by decide +kernel
theorem dX7_put_31 : decode cX7_put 31 = .ok (.istore 5, 2) := by decide +kernel
theorem dX7_put_33 : decode cX7_put 33 = .ok (.aload_n 0, 1) := by decide +kernel
theorem dX7_put_34 : decode cX7_put 34 = .ok (.getfield 15, 3) := by decide +kernel
theorem dX7_put_37 : decode cX7_put 37 = .ok (.iload_n 1, 1) := by decide +kernel
theorem dX7_put_38 : decode cX7_put 38 = .ok (.aaload, 1) := by decide +kernel
theorem dX7_put_39 : decode cX7_put 39 = .ok (.getfield 72, 3) := by decide +kernel
theorem dX7_put_42 : decode cX7_put 42 = .ok (.iload_n 2, 1) := by decide +kernel
theorem dX7_put_43 : decode cX7_put 43 = .ok (.iload_n 3, 1) := by decide +kernel
theorem dX7_put_44 : decode cX7_put 44 = .ok (.i2b, 1) := by decide +kernel
theorem dX7_put_45 : decode cX7_put 45 = .ok (.iastore, 1) := by decide +kernel
theorem dX7_put_46 : decode cX7_put 46 = .ok (.sipush 1000, 3) := by decide +kernel
theorem dX7_put_49 : decode cX7_put 49 = .ok (.iload 5, 2) := by decide +kernel
theorem dX7_put_51 : decode cX7_put 51 = .ok (.iadd, 1) := by decide +kernel
theorem dX7_put_52 : decode cX7_put 52 = .ok (.ireturn, 1) := by decide +kernel
theorem dX7_fault_0 : decode cX7_fault 0 = .ok (.aload_n 0, 1) := by decide +kernel
theorem dX7_fault_1 : decode cX7_fault 1 = .ok (.aload_n 0, 1) := by decide +kernel
theorem dX7_fault_2 : decode cX7_fault 2 = .ok (.getfield 15, 3) := by decide +kernel
theorem dX7_fault_5 : decode cX7_fault 5 = .ok (.iload_n 1, 1) := by decide +kernel
theorem dX7_fault_6 : decode cX7_fault 6 = .ok (.invokevirtual 79, 3) := by decide +kernel
theorem dX7_fault_9 : decode cX7_fault 9 = .ok (.istore_n 2, 1) := by decide +kernel
theorem dX7_fault_10 : decode cX7_fault 10 = .ok (.iload_n 2, 1) := by decide +kernel
theorem dX7_fault_11 : decode cX7_fault 11 = .ok (.ifCond .eq 5, 3) := by decide +kernel
theorem dX7_fault_14 : decode cX7_fault 14 = .ok (.iload_n 2, 1) := by decide +kernel
theorem dX7_fault_15 : decode cX7_fault 15 = .ok (.ireturn, 1) := by decide +kernel
theorem dX7_fault_16 : decode cX7_fault 16 = .ok (.aload_n 0, 1) := by decide +kernel
theorem dX7_fault_17 : decode cX7_fault 17 = .ok (.getfield 21, 3) := by decide +kernel
theorem dX7_fault_20 : decode cX7_fault 20 = .ok (.aload_n 0, 1) := by decide +kernel
theorem dX7_fault_21 : decode cX7_fault 21 = .ok (.getfield 15, 3) := by decide +kernel
theorem dX7_fault_24 : decode cX7_fault 24 = .ok (.iload_n 1, 1) := by decide +kernel
theorem dX7_fault_25 : decode cX7_fault 25 = .ok (.aaload, 1) := by decide +kernel
theorem dX7_fault_26 : decode cX7_fault 26 = .ok (.invokevirtual 112, 3) := by decide +kernel
theorem dX7_fault_29 : decode cX7_fault 29 = .ok (.ireturn, 1) := by decide +kernel
theorem dX7_court_0 : decode cX7_court 0 = .ok (.aload_n 0, 1) := by decide +kernel
theorem dX7_court_1 : decode cX7_court 1 = .ok (.aload_n 0, 1) := by decide +kernel
theorem dX7_court_2 : decode cX7_court 2 = .ok (.getfield 15, 3) := by decide +kernel
theorem dX7_court_5 : decode cX7_court 5 = .ok (.iload_n 1, 1) := by decide +kernel
theorem dX7_court_6 : decode cX7_court 6 = .ok (.invokevirtual 79, 3) := by decide +kernel
theorem dX7_court_9 : decode cX7_court 9 = .ok (.istore_n 2, 1) := by decide +kernel
theorem dX7_court_10 : decode cX7_court 10 = .ok (.iload_n 2, 1) := by decide +kernel
theorem dX7_court_11 : decode cX7_court 11 = .ok (.ifCond .eq 5, 3) := by decide +kernel
theorem dX7_court_14 : decode cX7_court 14 = .ok (.iload_n 2, 1) := by decide +kernel
theorem dX7_court_15 : decode cX7_court 15 = .ok (.ireturn, 1) := by decide +kernel
theorem dX7_court_16 : decode cX7_court 16 = .ok (.aload_n 0, 1) := by decide +kernel
theorem dX7_court_17 : decode cX7_court 17 = .ok (.getfield 21, 3) := by decide +kernel
theorem dX7_court_20 : decode cX7_court 20 = .ok (.aload_n 0, 1) := by decide +kernel
theorem dX7_court_21 : decode cX7_court 21 = .ok (.getfield 15, 3) := by decide +kernel
theorem dX7_court_24 : decode cX7_court 24 = .ok (.iload_n 1, 1) := by decide +kernel
theorem dX7_court_25 : decode cX7_court 25 = .ok (.aaload, 1) := by decide +kernel
theorem dX7_court_26 : decode cX7_court 26 = .ok (.invokevirtual 112, 3) := by decide +kernel
theorem dX7_court_29 : decode cX7_court 29 = .ok (.bipush (-9), 2) := by decide +kernel
theorem dX7_court_31 : decode cX7_court 31 = .ok (.if_icmp .eq 6, 3) := by decide +kernel
theorem dX7_court_34 : decode cX7_court 34 = .ok (.bipush (-4), 2) := by decide +kernel
theorem dX7_court_36 : decode cX7_court 36 = .ok (.ireturn, 1) := by decide +kernel
theorem dX7_court_37 : decode cX7_court 37 = .ok (.aload_n 0, 1) := by decide +kernel
theorem dX7_court_38 : decode cX7_court 38 = .ok (.getfield 28, 3) := by decide +kernel
theorem dX7_court_41 : decode cX7_court 41 = .ok (.aload_n 0, 1) := by decide +kernel
theorem dX7_court_42 : decode cX7_court 42 = .ok (.getfield 21, 3) := by decide +kernel
theorem dX7_court_45 : decode cX7_court 45 = .ok (.invokevirtual 116, 3) := by decide +kernel
theorem dX7_court_48 : decode cX7_court 48 = .ok (.iconst 0, 1) := by decide +kernel
theorem dX7_court_49 : decode cX7_court 49 = .ok (.istore_n 3, 1) := by decide +kernel
theorem dX7_court_50 : decode cX7_court 50 = .ok (.iload_n 3, 1) := by decide +kernel
theorem dX7_court_51 : decode cX7_court 51 = .ok (.iconst 3, 1) := by decide +kernel
theorem dX7_court_52 : decode cX7_court 52 = .ok (.if_icmp .ge 19, 3) := by decide +kernel
theorem dX7_court_55 : decode cX7_court 55 = .ok (.aload_n 0, 1) := by decide +kernel
theorem dX7_court_56 : decode cX7_court 56 = .ok (.getfield 34, 3) := by decide +kernel
theorem dX7_court_59 : decode cX7_court 59 = .ok (.iload_n 3, 1) := by decide +kernel
theorem dX7_court_60 : decode cX7_court 60 = .ok (.aaload, 1) := by decide +kernel
theorem dX7_court_61 : decode cX7_court 61 = .ok (.iconst (-1), 1) := by decide +kernel
theorem dX7_court_62 : decode cX7_court 62 = .ok (.putfield 120, 3) := by decide +kernel
theorem dX7_court_65 : decode cX7_court 65 = .ok (.iinc 3 1, 3) := by decide +kernel
theorem dX7_court_68 : decode cX7_court 68 = .ok (.goto (-18), 3) := by decide +kernel
theorem dX7_court_71 : decode cX7_court 71 = .ok (.aload_n 0, 1) := by decide +kernel
theorem dX7_court_72 : decode cX7_court 72 = .ok (.getfield 28, 3) := by decide +kernel
theorem dX7_court_75 : decode cX7_court 75 = .ok (.getfield 121, 3) := by decide +kernel
theorem dX7_court_78 : decode cX7_court 78 = .ok (.ireturn, 1) := by decide +kernel
theorem dX7_man_0 : decode cX7_man 0 = .ok (.aload_n 0, 1) := by decide +kernel
theorem dX7_man_1 : decode cX7_man 1 = .ok (.iload_n 1, 1) := by decide +kernel
theorem dX7_man_2 : decode cX7_man 2 = .ok (.invokevirtual 122, 3) := by decide +kernel
theorem dX7_man_5 : decode cX7_man 5 = .ok (.ifCond .eq 13, 3) := by decide +kernel
theorem dX7_man_8 : decode cX7_man 8 = .ok (.iload_n 2, 1) := by decide +kernel
theorem dX7_man_9 : decode cX7_man 9 = .ok (.ifCond .lt 9, 3) := by decide +kernel
theorem dX7_man_12 : decode cX7_man 12 = .ok (.iload_n 2, 1) := by decide +kernel
theorem dX7_man_13 : decode cX7_man 13 = .ok (.bipush 9, 2) := by decide +kernel
theorem dX7_man_15 : decode cX7_man 15 = .ok (.if_icmp .lt 5, 3) := by decide +kernel
theorem dX7_man_18 : decode cX7_man 18 = .ok (.iconst (-1), 1) := by decide +kernel
theorem dX7_man_19 : decode cX7_man 19 = .ok (.ireturn, 1) := by decide +kernel
theorem dX7_man_20 : decode cX7_man 20 = .ok (.aload_n 0, 1) := by decide +kernel
theorem dX7_man_21 : decode cX7_man 21 = .ok (.aload_n 0, 1) := by decide +kernel
theorem dX7_man_22 : decode cX7_man 22 = .ok (.getfield 28, 3) := by decide +kernel
theorem dX7_man_25 : decode cX7_man 25 = .ok (.aload_n 0, 1) := by decide +kernel
theorem dX7_man_26 : decode cX7_man 26 = .ok (.getfield 28, 3) := by decide +kernel
theorem dX7_man_29 : decode cX7_man 29 = .ok (.getfield 126, 3) := by decide +kernel
theorem dX7_man_32 : decode cX7_man 32 = .ok (.iload_n 1, 1) := by decide +kernel
theorem dX7_man_33 : decode cX7_man 33 = .ok (.aaload, 1) := by decide +kernel
theorem dX7_man_34 : decode cX7_man 34 = .ok (.iload_n 2, 1) := by decide +kernel
theorem dX7_man_35 : decode cX7_man 35 = .ok (.invokevirtual 130, 3) := by decide +kernel
theorem dX7_man_38 : decode cX7_man 38 = .ok (.putfield 75, 3) := by decide +kernel
theorem dX7_man_41 : decode cX7_man 41 = .ok (.iconst 1, 1) := by decide +kernel
theorem dX7_man_42 : decode cX7_man 42 = .ok (.ireturn, 1) := by decide +kernel
theorem dX7_heat_0 : decode cX7_heat 0 = .ok (.iload_n 1, 1) := by decide +kernel
theorem dX7_heat_1 : decode cX7_heat 1 = .ok (.ifCond .eq 14, 3) := by decide +kernel
theorem dX7_heat_4 : decode cX7_heat 4 = .ok (.iload_n 1, 1) := by decide +kernel
theorem dX7_heat_5 : decode cX7_heat 5 = .ok (.bipush (-5), 2) := by decide +kernel
theorem dX7_heat_7 : decode cX7_heat 7 = .ok (.if_icmp .lt 8, 3) := by decide +kernel
theorem dX7_heat_10 : decode cX7_heat 10 = .ok (.iload_n 1, 1) := by decide +kernel
theorem dX7_heat_11 : decode cX7_heat 11 = .ok (.iconst 5, 1) := by decide +kernel
theorem dX7_heat_12 : decode cX7_heat 12 = .ok (.if_icmp .le 5, 3) := by decide +kernel
theorem dX7_heat_15 : decode cX7_heat 15 = .ok (.iconst (-1), 1) := by decide +kernel
theorem dX7_heat_16 : decode cX7_heat 16 = .ok (.ireturn, 1) := by decide +kernel
theorem dX7_heat_17 : decode cX7_heat 17 = .ok (.aload_n 0, 1) := by decide +kernel
theorem dX7_heat_18 : decode cX7_heat 18 = .ok (.getfield 28, 3) := by decide +kernel
theorem dX7_heat_21 : decode cX7_heat 21 = .ok (.getfield 121, 3) := by decide +kernel
theorem dX7_heat_24 : decode cX7_heat 24 = .ok (.ifCond .ne 6, 3) := by decide +kernel
theorem dX7_heat_27 : decode cX7_heat 27 = .ok (.bipush (-4), 2) := by decide +kernel
theorem dX7_heat_29 : decode cX7_heat 29 = .ok (.ireturn, 1) := by decide +kernel
theorem dX7_heat_30 : decode cX7_heat 30 = .ok (.aload_n 0, 1) := by decide +kernel
theorem dX7_heat_31 : decode cX7_heat 31 = .ok (.getfield 28, 3) := by decide +kernel
theorem dX7_heat_34 : decode cX7_heat 34 = .ok (.getfield 166, 3) := by decide +kernel
theorem dX7_heat_37 : decode cX7_heat 37 = .ok (.iconst 1, 1) := by decide +kernel
theorem dX7_heat_38 : decode cX7_heat 38 = .ok (.invokevirtual 170, 3) := by decide +kernel
theorem dX7_heat_41 : decode cX7_heat 41 = .ok (.ifCond .ne 6, 3) := by decide +kernel
theorem dX7_heat_44 : decode cX7_heat 44 = .ok (.bipush (-2), 2) := by decide +kernel
theorem dX7_heat_46 : decode cX7_heat 46 = .ok (.ireturn, 1) := by decide +kernel
theorem dX7_heat_47 : decode cX7_heat 47 = .ok (.aload_n 0, 1) := by decide +kernel
theorem dX7_heat_48 : decode cX7_heat 48 = .ok (.getfield 28, 3) := by decide +kernel
theorem dX7_heat_51 : decode cX7_heat 51 = .ok (.iconst 0, 1) := by decide +kernel
theorem dX7_heat_52 : decode cX7_heat 52 = .ok (.iload_n 1, 1) := by decide +kernel
theorem dX7_heat_53 : decode cX7_heat 53 = .ok (.invokevirtual 173, 3) := by decide +kernel
theorem dX7_heat_56 : decode cX7_heat 56 = .ok (.aload_n 0, 1) := by decide +kernel
theorem dX7_heat_57 : decode cX7_heat 57 = .ok (.getfield 28, 3) := by decide +kernel
theorem dX7_heat_60 : decode cX7_heat 60 = .ok (.getfield 151, 3) := by decide +kernel
theorem dX7_heat_63 : decode cX7_heat 63 = .ok (.ireturn, 1) := by decide +kernel
theorem dX7_salve_0 : decode cX7_salve 0 = .ok (.aload_n 0, 1) := by decide +kernel
theorem dX7_salve_1 : decode cX7_salve 1 = .ok (.iload_n 1, 1) := by decide +kernel
theorem dX7_salve_2 : decode cX7_salve 2 = .ok (.invokevirtual 122, 3) := by decide +kernel
theorem dX7_salve_5 : decode cX7_salve 5 = .ok (.ifCond .ne 5, 3) := by decide +kernel
theorem dX7_salve_8 : decode cX7_salve 8 = .ok (.iconst (-1), 1) := by decide +kernel
theorem dX7_salve_9 : decode cX7_salve 9 = .ok (.ireturn, 1) := by decide +kernel
theorem dX7_salve_10 : decode cX7_salve 10 = .ok (.aload_n 0, 1) := by decide +kernel
theorem dX7_salve_11 : decode cX7_salve 11 = .ok (.getfield 28, 3) := by decide +kernel
theorem dX7_salve_14 : decode cX7_salve 14 = .ok (.getfield 126, 3) := by decide +kernel
theorem dX7_salve_17 : decode cX7_salve 17 = .ok (.iload_n 1, 1) := by decide +kernel
theorem dX7_salve_18 : decode cX7_salve 18 = .ok (.aaload, 1) := by decide +kernel
theorem dX7_salve_19 : decode cX7_salve 19 = .ok (.astore_n 2, 1) := by decide +kernel
theorem dX7_salve_20 : decode cX7_salve 20 = .ok (.aload_n 2, 1) := by decide +kernel
theorem dX7_salve_21 : decode cX7_salve 21 = .ok (.getfield 177, 3) := by decide +kernel
theorem dX7_salve_24 : decode cX7_salve 24 = .ok (.iconst 3, 1) := by decide +kernel
theorem dX7_salve_25 : decode cX7_salve 25 = .ok (.if_icmp .ge 10, 3) := by decide +kernel
theorem dX7_salve_28 : decode cX7_salve 28 = .ok (.aload_n 2, 1) := by decide +kernel
theorem dX7_salve_29 : decode cX7_salve 29 = .ok (.invokevirtual 180, 3) := by decide +kernel
theorem dX7_salve_32 : decode cX7_salve 32 = .ok (.ifCond .eq 6, 3) := by decide +kernel
theorem dX7_salve_35 : decode cX7_salve 35 = .ok (.bipush (-4), 2) := by decide +kernel
theorem dX7_salve_37 : decode cX7_salve 37 = .ok (.ireturn, 1) := by decide +kernel
theorem dX7_salve_38 : decode cX7_salve 38 = .ok (.aload_n 0, 1) := by decide +kernel
theorem dX7_salve_39 : decode cX7_salve 39 = .ok (.getfield 28, 3) := by decide +kernel
theorem dX7_salve_42 : decode cX7_salve 42 = .ok (.getfield 166, 3) := by decide +kernel
theorem dX7_salve_45 : decode cX7_salve 45 = .ok (.iconst 1, 1) := by decide +kernel
theorem dX7_salve_46 : decode cX7_salve 46 = .ok (.invokevirtual 170, 3) := by decide +kernel
theorem dX7_salve_49 : decode cX7_salve 49 = .ok (.ifCond .ne 6, 3) := by decide +kernel
theorem dX7_salve_52 : decode cX7_salve 52 = .ok (.bipush (-2), 2) := by decide +kernel
theorem dX7_salve_54 : decode cX7_salve 54 = .ok (.ireturn, 1) := by decide +kernel
theorem dX7_salve_55 : decode cX7_salve 55 = .ok (.aload_n 0, 1) := by decide +kernel
theorem dX7_salve_56 : decode cX7_salve 56 = .ok (.getfield 28, 3) := by decide +kernel
theorem dX7_salve_59 : decode cX7_salve 59 = .ok (.iconst 1, 1) := by decide +kernel
theorem dX7_salve_60 : decode cX7_salve 60 = .ok (.iload_n 1, 1) := by decide +kernel
theorem dX7_salve_61 : decode cX7_salve 61 = .ok (.invokevirtual 173, 3) := by decide +kernel
theorem dX7_salve_64 : decode cX7_salve 64 = .ok (.aload_n 2, 1) := by decide +kernel
theorem dX7_salve_65 : decode cX7_salve 65 = .ok (.getfield 177, 3) := by decide +kernel
theorem dX7_salve_68 : decode cX7_salve 68 = .ok (.ireturn, 1) := by decide +kernel
theorem dX7_trial_0 : decode cX7_trial 0 = .ok (.aload_n 0, 1) := by decide +kernel
theorem dX7_trial_1 : decode cX7_trial 1 = .ok (.iload_n 1, 1) := by decide +kernel
theorem dX7_trial_2 : decode cX7_trial 2 = .ok (.invokevirtual 122, 3) := by decide +kernel
theorem dX7_trial_5 : decode cX7_trial 5 = .ok (.ifCond .ne 5, 3) := by decide +kernel
theorem dX7_trial_8 : decode cX7_trial 8 = .ok (.iconst (-1), 1) := by decide +kernel
theorem dX7_trial_9 : decode cX7_trial 9 = .ok (.ireturn, 1) := by decide +kernel
theorem dX7_trial_10 : decode cX7_trial 10 = .ok (.aload_n 0, 1) := by decide +kernel
theorem dX7_trial_11 : decode cX7_trial 11 = .ok (.getfield 28, 3) := by decide +kernel
theorem dX7_trial_14 : decode cX7_trial 14 = .ok (.getfield 126, 3) := by decide +kernel
theorem dX7_trial_17 : decode cX7_trial 17 = .ok (.iload_n 1, 1) := by decide +kernel
theorem dX7_trial_18 : decode cX7_trial 18 = .ok (.aaload, 1) := by decide +kernel
theorem dX7_trial_19 : decode cX7_trial 19 = .ok (.astore_n 2, 1) := by decide +kernel
theorem dX7_trial_20 : decode cX7_trial 20 = .ok (.aload_n 2, 1) := by decide +kernel
theorem dX7_trial_21 : decode cX7_trial 21 = .ok (.invokevirtual 180, 3) := by decide +kernel
theorem dX7_trial_24 : decode cX7_trial 24 = .ok (.ifCond .eq 6, 3) := by decide +kernel
theorem dX7_trial_27 : decode cX7_trial 27 = .ok (.bipush (-4), 2) := by decide +kernel
theorem dX7_trial_29 : decode cX7_trial 29 = .ok (.ireturn, 1) := by decide +kernel
theorem dX7_trial_30 : decode cX7_trial 30 = .ok (.aload_n 0, 1) := by decide +kernel
theorem dX7_trial_31 : decode cX7_trial 31 = .ok (.getfield 28, 3) := by decide +kernel
theorem dX7_trial_34 : decode cX7_trial 34 = .ok (.getfield 166, 3) := by decide +kernel
theorem dX7_trial_37 : decode cX7_trial 37 = .ok (.iconst 1, 1) := by decide +kernel
theorem dX7_trial_38 : decode cX7_trial 38 = .ok (.invokevirtual 170, 3) := by decide +kernel
theorem dX7_trial_41 : decode cX7_trial 41 = .ok (.ifCond .ne 6, 3) := by decide +kernel
theorem dX7_trial_44 : decode cX7_trial 44 = .ok (.bipush (-2), 2) := by decide +kernel
theorem dX7_trial_46 : decode cX7_trial 46 = .ok (.ireturn, 1) := by decide +kernel
theorem dX7_trial_47 : decode cX7_trial 47 = .ok (.aload_n 0, 1) := by decide +kernel
theorem dX7_trial_48 : decode cX7_trial 48 = .ok (.getfield 28, 3) := by decide +kernel
theorem dX7_trial_51 : decode cX7_trial 51 = .ok (.iconst 2, 1) := by decide +kernel
theorem dX7_trial_52 : decode cX7_trial 52 = .ok (.iload_n 1, 1) := by decide +kernel
theorem dX7_trial_53 : decode cX7_trial 53 = .ok (.invokevirtual 173, 3) := by decide +kernel
theorem dX7_trial_56 : decode cX7_trial 56 = .ok (.aload_n 0, 1) := by decide +kernel
theorem dX7_trial_57 : decode cX7_trial 57 = .ok (.aload_n 2, 1) := by decide +kernel
theorem dX7_trial_58 : decode cX7_trial 58 = .ok (.getfield 183, 3) := by decide +kernel
theorem dX7_trial_61 : decode cX7_trial 61 = .ok (.ifCond .eq 7, 3) := by decide +kernel
theorem dX7_trial_64 : decode cX7_trial 64 = .ok (.iconst 1, 1) := by decide +kernel
theorem dX7_trial_65 : decode cX7_trial 65 = .ok (.goto 4, 3) := by decide +kernel
theorem dX7_trial_68 : decode cX7_trial 68 = .ok (.iconst 0, 1) := by decide +kernel
theorem dX7_trial_69 : decode cX7_trial 69 = .ok (.putfield 75, 3) := by decide +kernel
theorem dX7_trial_72 : decode cX7_trial 72 = .ok (.aload_n 2, 1) := by decide +kernel
theorem dX7_trial_73 : decode cX7_trial 73 = .ok (.getfield 187, 3) := by decide +kernel
theorem dX7_trial_76 : decode cX7_trial 76 = .ok (.ireturn, 1) := by decide +kernel
theorem dX7_undo_0 : decode cX7_undo 0 = .ok (.iload_n 1, 1) := by decide +kernel
theorem dX7_undo_1 : decode cX7_undo 1 = .ok (.ifCond .lt 17, 3) := by decide +kernel
theorem dX7_undo_4 : decode cX7_undo 4 = .ok (.iload_n 1, 1) := by decide +kernel
theorem dX7_undo_5 : decode cX7_undo 5 = .ok (.aload_n 0, 1) := by decide +kernel
theorem dX7_undo_6 : decode cX7_undo 6 = .ok (.getfield 28, 3) := by decide +kernel
theorem dX7_undo_9 : decode cX7_undo 9 = .ok (.getfield 166, 3) := by decide +kernel
theorem dX7_undo_12 : decode cX7_undo 12 = .ok (.getfield 120, 3) := by decide +kernel
theorem dX7_undo_15 : decode cX7_undo 15 = .ok (.if_icmp .le 5, 3) := by decide +kernel
theorem dX7_undo_18 : decode cX7_undo 18 = .ok (.iconst (-1), 1) := by decide +kernel
theorem dX7_undo_19 : decode cX7_undo 19 = .ok (.ireturn, 1) := by decide +kernel
theorem dX7_undo_20 : decode cX7_undo 20 = .ok (.aload_n 0, 1) := by decide +kernel
theorem dX7_undo_21 : decode cX7_undo 21 = .ok (.getfield 28, 3) := by decide +kernel
theorem dX7_undo_24 : decode cX7_undo 24 = .ok (.getfield 166, 3) := by decide +kernel
theorem dX7_undo_27 : decode cX7_undo 27 = .ok (.getfield 120, 3) := by decide +kernel
theorem dX7_undo_30 : decode cX7_undo 30 = .ok (.iload_n 1, 1) := by decide +kernel
theorem dX7_undo_31 : decode cX7_undo 31 = .ok (.isub, 1) := by decide +kernel
theorem dX7_undo_32 : decode cX7_undo 32 = .ok (.istore_n 2, 1) := by decide +kernel
theorem dX7_undo_33 : decode cX7_undo 33 = .ok (.aload_n 0, 1) := by decide +kernel
theorem dX7_undo_34 : decode cX7_undo 34 = .ok (.getfield 28, 3) := by decide +kernel
theorem dX7_undo_37 : decode cX7_undo 37 = .ok (.getfield 166, 3) := by decide +kernel
theorem dX7_undo_40 : decode cX7_undo 40 = .ok (.iload_n 1, 1) := by decide +kernel
theorem dX7_undo_41 : decode cX7_undo 41 = .ok (.putfield 120, 3) := by decide +kernel
theorem dX7_undo_44 : decode cX7_undo 44 = .ok (.aload_n 0, 1) := by decide +kernel
theorem dX7_undo_45 : decode cX7_undo 45 = .ok (.getfield 28, 3) := by decide +kernel
theorem dX7_undo_48 : decode cX7_undo 48 = .ok (.invokevirtual 190, 3) := by decide +kernel
theorem dX7_undo_51 : decode cX7_undo 51 = .ok (.iload_n 2, 1) := by decide +kernel
theorem dX7_undo_52 : decode cX7_undo 52 = .ok (.ireturn, 1) := by decide +kernel
theorem dX7_keep_0 : decode cX7_keep 0 = .ok (.iload_n 1, 1) := by decide +kernel
theorem dX7_keep_1 : decode cX7_keep 1 = .ok (.invokestatic 193, 3) := by decide +kernel
theorem dX7_keep_4 : decode cX7_keep 4 = .ok (.ifCond .ne 5, 3) := by decide +kernel
theorem dX7_keep_7 : decode cX7_keep 7 = .ok (.iconst (-1), 1) := by decide +kernel
theorem dX7_keep_8 : decode cX7_keep 8 = .ok (.ireturn, 1) := by decide +kernel
theorem dX7_keep_9 : decode cX7_keep 9 = .ok (.aload_n 0, 1) := by decide +kernel
theorem dX7_keep_10 : decode cX7_keep 10 = .ok (.getfield 28, 3) := by decide +kernel
theorem dX7_keep_13 : decode cX7_keep 13 = .ok (.getfield 121, 3) := by decide +kernel
theorem dX7_keep_16 : decode cX7_keep 16 = .ok (.ifCond .ne 6, 3) := by decide +kernel
theorem dX7_keep_19 : decode cX7_keep 19 = .ok (.bipush (-4), 2) := by decide +kernel
theorem dX7_keep_21 : decode cX7_keep 21 = .ok (.ireturn, 1) := by decide +kernel
theorem dX7_keep_22 : decode cX7_keep 22 = .ok (.aload_n 0, 1) := by decide +kernel
theorem dX7_keep_23 : decode cX7_keep 23 = .ok (.getfield 34, 3) := by decide +kernel
theorem dX7_keep_26 : decode cX7_keep 26 = .ok (.iload_n 1, 1) := by decide +kernel
theorem dX7_keep_27 : decode cX7_keep 27 = .ok (.aaload, 1) := by decide +kernel
theorem dX7_keep_28 : decode cX7_keep 28 = .ok (.aload_n 0, 1) := by decide +kernel
theorem dX7_keep_29 : decode cX7_keep 29 = .ok (.getfield 28, 3) := by decide +kernel
theorem dX7_keep_32 : decode cX7_keep 32 = .ok (.getfield 166, 3) := by decide +kernel
theorem dX7_keep_35 : decode cX7_keep 35 = .ok (.invokevirtual 196, 3) := by decide +kernel
theorem dX7_keep_38 : decode cX7_keep 38 = .ok (.aload_n 0, 1) := by decide +kernel
theorem dX7_keep_39 : decode cX7_keep 39 = .ok (.getfield 28, 3) := by decide +kernel
theorem dX7_keep_42 : decode cX7_keep 42 = .ok (.getfield 166, 3) := by decide +kernel
theorem dX7_keep_45 : decode cX7_keep 45 = .ok (.getfield 120, 3) := by decide +kernel
theorem dX7_keep_48 : decode cX7_keep 48 = .ok (.ireturn, 1) := by decide +kernel
theorem dX7_on_0 : decode cX7_on 0 = .ok (.iload_n 1, 1) := by decide +kernel
theorem dX7_on_1 : decode cX7_on 1 = .ok (.invokestatic 193, 3) := by decide +kernel
theorem dX7_on_4 : decode cX7_on 4 = .ok (.ifCond .ne 5, 3) := by decide +kernel
theorem dX7_on_7 : decode cX7_on 7 = .ok (.iconst (-1), 1) := by decide +kernel
theorem dX7_on_8 : decode cX7_on 8 = .ok (.ireturn, 1) := by decide +kernel
theorem dX7_on_9 : decode cX7_on 9 = .ok (.aload_n 0, 1) := by decide +kernel
theorem dX7_on_10 : decode cX7_on 10 = .ok (.getfield 34, 3) := by decide +kernel
theorem dX7_on_13 : decode cX7_on 13 = .ok (.iload_n 1, 1) := by decide +kernel
theorem dX7_on_14 : decode cX7_on 14 = .ok (.aaload, 1) := by decide +kernel
theorem dX7_on_15 : decode cX7_on 15 = .ok (.getfield 120, 3) := by decide +kernel
theorem dX7_on_18 : decode cX7_on 18 = .ok (.iconst (-1), 1) := by decide +kernel
theorem dX7_on_19 : decode cX7_on 19 = .ok (.if_icmp .ne 9, 3) := by decide +kernel
theorem dX7_on_22 : decode cX7_on 22 = .ok (.aload_n 0, 1) := by decide +kernel
theorem dX7_on_23 : decode cX7_on 23 = .ok (.iconst 1, 1) := by decide +kernel
theorem dX7_on_24 : decode cX7_on 24 = .ok (.invokevirtual 90, 3) := by decide +kernel
theorem dX7_on_27 : decode cX7_on 27 = .ok (.ireturn, 1) := by decide +kernel
theorem dX7_on_28 : decode cX7_on 28 = .ok (.aload_n 0, 1) := by decide +kernel
theorem dX7_on_29 : decode cX7_on 29 = .ok (.getfield 28, 3) := by decide +kernel
theorem dX7_on_32 : decode cX7_on 32 = .ok (.getfield 166, 3) := by decide +kernel
theorem dX7_on_35 : decode cX7_on 35 = .ok (.aload_n 0, 1) := by decide +kernel
theorem dX7_on_36 : decode cX7_on 36 = .ok (.getfield 34, 3) := by decide +kernel
theorem dX7_on_39 : decode cX7_on 39 = .ok (.iload_n 1, 1) := by decide +kernel
theorem dX7_on_40 : decode cX7_on 40 = .ok (.aaload, 1) := by decide +kernel
theorem dX7_on_41 : decode cX7_on 41 = .ok (.invokevirtual 196, 3) := by decide +kernel
theorem dX7_on_44 : decode cX7_on 44 = .ok (.aload_n 0, 1) := by decide +kernel
theorem dX7_on_45 : decode cX7_on 45 = .ok (.getfield 28, 3) := by decide +kernel
theorem dX7_on_48 : decode cX7_on 48 = .ok (.invokevirtual 190, 3) := by decide +kernel
theorem dX7_on_51 : decode cX7_on 51 = .ok (.aload_n 0, 1) := by decide +kernel
theorem dX7_on_52 : decode cX7_on 52 = .ok (.getfield 28, 3) := by decide +kernel
theorem dX7_on_55 : decode cX7_on 55 = .ok (.getfield 166, 3) := by decide +kernel
theorem dX7_on_58 : decode cX7_on 58 = .ok (.getfield 120, 3) := by decide +kernel
theorem dX7_on_61 : decode cX7_on 61 = .ok (.ireturn, 1) := by decide +kernel
theorem dX7_comes_0 : decode cX7_comes 0 = .ok (.aload_n 0, 1) := by decide +kernel
theorem dX7_comes_1 : decode cX7_comes 1 = .ok (.getfield 28, 3) := by decide +kernel
theorem dX7_comes_4 : decode cX7_comes 4 = .ok (.getfield 121, 3) := by decide +kernel
theorem dX7_comes_7 : decode cX7_comes 7 = .ok (.ifCond .ne 6, 3) := by decide +kernel
theorem dX7_comes_10 : decode cX7_comes 10 = .ok (.bipush (-4), 2) := by decide +kernel
theorem dX7_comes_12 : decode cX7_comes 12 = .ok (.ireturn, 1) := by decide +kernel
theorem dX7_comes_13 : decode cX7_comes 13 = .ok (.iconst 0, 1) := by decide +kernel
theorem dX7_comes_14 : decode cX7_comes 14 = .ok (.istore_n 1, 1) := by decide +kernel
theorem dX7_comes_15 : decode cX7_comes 15 = .ok (.iconst 0, 1) := by decide +kernel
theorem dX7_comes_16 : decode cX7_comes 16 = .ok (.istore_n 2, 1) := by decide +kernel
theorem dX7_comes_17 : decode cX7_comes 17 = .ok (.iconst 0, 1) := by decide +kernel
theorem dX7_comes_18 : decode cX7_comes 18 = .ok (.istore_n 3, 1) := by decide +kernel
theorem dX7_comes_19 : decode cX7_comes 19 = .ok (.iload_n 3, 1) := by decide +kernel
theorem dX7_comes_20 : decode cX7_comes 20 = .ok (.aload_n 0, 1) := by decide +kernel
theorem dX7_comes_21 : decode cX7_comes 21 = .ok (.getfield 28, 3) := by decide +kernel
theorem dX7_comes_24 : decode cX7_comes 24 = .ok (.getfield 121, 3) := by decide +kernel
theorem dX7_comes_27 : decode cX7_comes 27 = .ok (.if_icmp .ge 74, 3) := by decide +kernel
theorem dX7_comes_30 : decode cX7_comes 30 = .ok (.aload_n 0, 1) := by decide +kernel
theorem dX7_comes_31 : decode cX7_comes 31 = .ok (.getfield 28, 3) := by decide +kernel
theorem dX7_comes_34 : decode cX7_comes 34 = .ok (.getfield 126, 3) := by decide +kernel
theorem dX7_comes_37 : decode cX7_comes 37 = .ok (.iload_n 3, 1) := by decide +kernel
theorem dX7_comes_38 : decode cX7_comes 38 = .ok (.aaload, 1) := by decide +kernel
theorem dX7_comes_39 : decode cX7_comes 39 = .ok (.astore 4, 2) := by decide +kernel
theorem dX7_comes_41 : decode cX7_comes 41 = .ok (.aload_n 0, 1) := by decide +kernel
theorem dX7_comes_42 : decode cX7_comes 42 = .ok (.getfield 28, 3) := by decide +kernel
theorem dX7_comes_45 : decode cX7_comes 45 = .ok (.aload 4, 2) := by decide +kernel
theorem dX7_comes_47 : decode cX7_comes 47 = .ok (.aload_n 0, 1) := by decide +kernel
theorem dX7_comes_48 : decode cX7_comes 48 = .ok (.getfield 28, 3) := by decide +kernel
theorem dX7_comes_51 : decode cX7_comes 51 = .ok (.getfield 151, 3) := by decide +kernel
theorem dX7_comes_54 : decode cX7_comes 54 = .ok (.invokevirtual 200, 3) := by decide +kernel
theorem dX7_comes_57 : decode cX7_comes 57 = .ok (.istore 5, 2) := by decide +kernel
theorem dX7_comes_59 : decode cX7_comes 59 = .ok (.aload 4, 2) := by decide +kernel
theorem dX7_comes_61 : decode cX7_comes 61 = .ok (.invokevirtual 180, 3) := by decide +kernel
theorem dX7_comes_64 : decode cX7_comes 64 = .ok (.ifCond .ne 31, 3) := by decide +kernel
theorem dX7_comes_67 : decode cX7_comes 67 = .ok (.iload 5, 2) := by decide +kernel
theorem dX7_comes_69 : decode cX7_comes 69 = .ok (.iconst 2, 1) := by decide +kernel
theorem dX7_comes_70 : decode cX7_comes 70 = .ok (.if_icmp .eq 25, 3) := by decide +kernel
theorem dX7_comes_73 : decode cX7_comes 73 = .ok (.iload_n 1, 1) := by decide +kernel
theorem dX7_comes_74 : decode cX7_comes 74 = .ok (.iconst 1, 1) := by decide +kernel
theorem dX7_comes_75 : decode cX7_comes 75 = .ok (.iload_n 3, 1) := by decide +kernel
theorem dX7_comes_76 : decode cX7_comes 76 = .ok (.ishl, 1) := by decide +kernel
theorem dX7_comes_77 : decode cX7_comes 77 = .ok (.ior, 1) := by decide +kernel
theorem dX7_comes_78 : decode cX7_comes 78 = .ok (.istore_n 1, 1) := by decide +kernel
theorem dX7_comes_79 : decode cX7_comes 79 = .ok (.iload_n 2, 1) := by decide +kernel
theorem dX7_comes_80 : decode cX7_comes 80 = .ok (.iload 5, 2) := by decide +kernel
theorem dX7_comes_82 : decode cX7_comes 82 = .ok (.iconst 1, 1) := by decide +kernel
theorem dX7_comes_83 : decode cX7_comes 83 = .ok (.if_icmp .ne 9, 3) := by decide +kernel
theorem dX7_comes_86 : decode cX7_comes 86 = .ok (.iconst 1, 1) := by decide +kernel
theorem dX7_comes_87 : decode cX7_comes 87 = .ok (.iload_n 3, 1) := by decide +kernel
theorem dX7_comes_88 : decode cX7_comes 88 = .ok (.ishl, 1) := by decide +kernel
theorem dX7_comes_89 : decode cX7_comes 89 = .ok (.goto 4, 3) := by decide +kernel
theorem dX7_comes_92 : decode cX7_comes 92 = .ok (.iconst 0, 1) := by decide +kernel
theorem dX7_comes_93 : decode cX7_comes 93 = .ok (.ior, 1) := by decide +kernel
theorem dX7_comes_94 : decode cX7_comes 94 = .ok (.istore_n 2, 1) := by decide +kernel
theorem dX7_comes_95 : decode cX7_comes 95 = .ok (.iinc 3 1, 3) := by decide +kernel
theorem dX7_comes_98 : decode cX7_comes 98 = .ok (.goto (-79), 3) := by decide +kernel
theorem dX7_comes_101 : decode cX7_comes 101 = .ok (.aload_n 0, 1) := by decide +kernel
theorem dX7_comes_102 : decode cX7_comes 102 = .ok (.iload_n 2, 1) := by decide +kernel
theorem dX7_comes_103 : decode cX7_comes 103 = .ok (.putfield 75, 3) := by decide +kernel
theorem dX7_comes_106 : decode cX7_comes 106 = .ok (.iload_n 1, 1) := by decide +kernel
theorem dX7_comes_107 : decode cX7_comes 107 = .ok (.ireturn, 1) := by decide +kernel
theorem dX7_wrong_0 : decode cX7_wrong 0 = .ok (.aload_n 0, 1) := by decide +kernel
theorem dX7_wrong_1 : decode cX7_wrong 1 = .ok (.iload_n 1, 1) := by decide +kernel
theorem dX7_wrong_2 : decode cX7_wrong 2 = .ok (.invokevirtual 202, 3) := by decide +kernel
theorem dX7_wrong_5 : decode cX7_wrong 5 = .ok (.istore_n 2, 1) := by decide +kernel
theorem dX7_wrong_6 : decode cX7_wrong 6 = .ok (.iload_n 2, 1) := by decide +kernel
theorem dX7_wrong_7 : decode cX7_wrong 7 = .ok (.ifCond .eq 5, 3) := by decide +kernel
theorem dX7_wrong_10 : decode cX7_wrong 10 = .ok (.iload_n 2, 1) := by decide +kernel
theorem dX7_wrong_11 : decode cX7_wrong 11 = .ok (.ireturn, 1) := by decide +kernel
theorem dX7_wrong_12 : decode cX7_wrong 12 = .ok (.aload_n 0, 1) := by decide +kernel
theorem dX7_wrong_13 : decode cX7_wrong 13 = .ok (.aload_n 0, 1) := by decide +kernel
theorem dX7_wrong_14 : decode cX7_wrong 14 = .ok (.getfield 28, 3) := by decide +kernel
theorem dX7_wrong_17 : decode cX7_wrong 17 = .ok (.iload_n 1, 1) := by decide +kernel
theorem dX7_wrong_18 : decode cX7_wrong 18 = .ok (.invokevirtual 205, 3) := by decide +kernel
theorem dX7_wrong_21 : decode cX7_wrong 21 = .ok (.putfield 75, 3) := by decide +kernel
theorem dX7_wrong_24 : decode cX7_wrong 24 = .ok (.aload_n 0, 1) := by decide +kernel
theorem dX7_wrong_25 : decode cX7_wrong 25 = .ok (.getfield 28, 3) := by decide +kernel
theorem dX7_wrong_28 : decode cX7_wrong 28 = .ok (.iload_n 1, 1) := by decide +kernel
theorem dX7_wrong_29 : decode cX7_wrong 29 = .ok (.invokevirtual 208, 3) := by decide +kernel
theorem dX7_wrong_32 : decode cX7_wrong 32 = .ok (.ireturn, 1) := by decide +kernel
theorem dX7_best_0 : decode cX7_best 0 = .ok (.aload_n 0, 1) := by decide +kernel
theorem dX7_best_1 : decode cX7_best 1 = .ok (.getfield 28, 3) := by decide +kernel
theorem dX7_best_4 : decode cX7_best 4 = .ok (.getfield 121, 3) := by decide +kernel
theorem dX7_best_7 : decode cX7_best 7 = .ok (.ifCond .ne 6, 3) := by decide +kernel
theorem dX7_best_10 : decode cX7_best 10 = .ok (.bipush (-4), 2) := by decide +kernel
theorem dX7_best_12 : decode cX7_best 12 = .ok (.ireturn, 1) := by decide +kernel
theorem dX7_best_13 : decode cX7_best 13 = .ok (.iconst 0, 1) := by decide +kernel
theorem dX7_best_14 : decode cX7_best 14 = .ok (.istore_n 1, 1) := by decide +kernel
theorem dX7_best_15 : decode cX7_best 15 = .ok (.aload_n 0, 1) := by decide +kernel
theorem dX7_best_16 : decode cX7_best 16 = .ok (.getfield 28, 3) := by decide +kernel
theorem dX7_best_19 : decode cX7_best 19 = .ok (.iconst 0, 1) := by decide +kernel
theorem dX7_best_20 : decode cX7_best 20 = .ok (.invokevirtual 208, 3) := by decide +kernel
theorem dX7_best_23 : decode cX7_best 23 = .ok (.istore_n 2, 1) := by decide +kernel
theorem dX7_best_24 : decode cX7_best 24 = .ok (.iconst 1, 1) := by decide +kernel
theorem dX7_best_25 : decode cX7_best 25 = .ok (.istore_n 3, 1) := by decide +kernel
theorem dX7_best_26 : decode cX7_best 26 = .ok (.iload_n 3, 1) := by decide +kernel
theorem dX7_best_27 : decode cX7_best 27 = .ok (.bipush 31, 2) := by decide +kernel
theorem dX7_best_29 : decode cX7_best 29 = .ok (.if_icmp .ge 30, 3) := by decide +kernel
theorem dX7_best_32 : decode cX7_best 32 = .ok (.aload_n 0, 1) := by decide +kernel
theorem dX7_best_33 : decode cX7_best 33 = .ok (.getfield 28, 3) := by decide +kernel
theorem dX7_best_36 : decode cX7_best 36 = .ok (.iload_n 3, 1) := by decide +kernel
theorem dX7_best_37 : decode cX7_best 37 = .ok (.invokevirtual 208, 3) := by decide +kernel
theorem dX7_best_40 : decode cX7_best 40 = .ok (.istore 4, 2) := by decide +kernel
theorem dX7_best_42 : decode cX7_best 42 = .ok (.iload 4, 2) := by decide +kernel
theorem dX7_best_44 : decode cX7_best 44 = .ok (.iload_n 2, 1) := by decide +kernel
theorem dX7_best_45 : decode cX7_best 45 = .ok (.if_icmp .ge 8, 3) := by decide +kernel
theorem dX7_best_48 : decode cX7_best 48 = .ok (.iload 4, 2) := by decide +kernel
theorem dX7_best_50 : decode cX7_best 50 = .ok (.istore_n 2, 1) := by decide +kernel
theorem dX7_best_51 : decode cX7_best 51 = .ok (.iload_n 3, 1) := by decide +kernel
theorem dX7_best_52 : decode cX7_best 52 = .ok (.istore_n 1, 1) := by decide +kernel
theorem dX7_best_53 : decode cX7_best 53 = .ok (.iinc 3 1, 3) := by decide +kernel
theorem dX7_best_56 : decode cX7_best 56 = .ok (.goto (-30), 3) := by decide +kernel
theorem dX7_best_59 : decode cX7_best 59 = .ok (.aload_n 0, 1) := by decide +kernel
theorem dX7_best_60 : decode cX7_best 60 = .ok (.iload_n 2, 1) := by decide +kernel
theorem dX7_best_61 : decode cX7_best 61 = .ok (.putfield 75, 3) := by decide +kernel
theorem dX7_best_64 : decode cX7_best 64 = .ok (.iload_n 1, 1) := by decide +kernel
theorem dX7_best_65 : decode cX7_best 65 = .ok (.ireturn, 1) := by decide +kernel
theorem dX7_heats_0 : decode cX7_heats 0 = .ok (.aload_n 0, 1) := by decide +kernel
theorem dX7_heats_1 : decode cX7_heats 1 = .ok (.iload_n 1, 1) := by decide +kernel
theorem dX7_heats_2 : decode cX7_heats 2 = .ok (.invokevirtual 122, 3) := by decide +kernel
theorem dX7_heats_5 : decode cX7_heats 5 = .ok (.ifCond .eq 12, 3) := by decide +kernel
theorem dX7_heats_8 : decode cX7_heats 8 = .ok (.iload_n 2, 1) := by decide +kernel
theorem dX7_heats_9 : decode cX7_heats 9 = .ok (.ifCond .lt 8, 3) := by decide +kernel
theorem dX7_heats_12 : decode cX7_heats 12 = .ok (.iload_n 2, 1) := by decide +kernel
theorem dX7_heats_13 : decode cX7_heats 13 = .ok (.iconst 3, 1) := by decide +kernel
theorem dX7_heats_14 : decode cX7_heats 14 = .ok (.if_icmp .lt 5, 3) := by decide +kernel
theorem dX7_heats_17 : decode cX7_heats 17 = .ok (.iconst (-1), 1) := by decide +kernel
theorem dX7_heats_18 : decode cX7_heats 18 = .ok (.ireturn, 1) := by decide +kernel
theorem dX7_heats_19 : decode cX7_heats 19 = .ok (.aload_n 0, 1) := by decide +kernel
theorem dX7_heats_20 : decode cX7_heats 20 = .ok (.getfield 28, 3) := by decide +kernel
theorem dX7_heats_23 : decode cX7_heats 23 = .ok (.aload_n 0, 1) := by decide +kernel
theorem dX7_heats_24 : decode cX7_heats 24 = .ok (.getfield 28, 3) := by decide +kernel
theorem dX7_heats_27 : decode cX7_heats 27 = .ok (.getfield 126, 3) := by decide +kernel
theorem dX7_heats_30 : decode cX7_heats 30 = .ok (.iload_n 1, 1) := by decide +kernel
theorem dX7_heats_31 : decode cX7_heats 31 = .ok (.aaload, 1) := by decide +kernel
theorem dX7_heats_32 : decode cX7_heats 32 = .ok (.iload_n 2, 1) := by decide +kernel
theorem dX7_heats_33 : decode cX7_heats 33 = .ok (.invokevirtual 211, 3) := by decide +kernel
theorem dX7_heats_36 : decode cX7_heats 36 = .ok (.ireturn, 1) := by decide +kernel
theorem dX7_tells_0 : decode cX7_tells 0 = .ok (.aload_n 0, 1) := by decide +kernel
theorem dX7_tells_1 : decode cX7_tells 1 = .ok (.iload_n 1, 1) := by decide +kernel
theorem dX7_tells_2 : decode cX7_tells 2 = .ok (.invokevirtual 202, 3) := by decide +kernel
theorem dX7_tells_5 : decode cX7_tells 5 = .ok (.istore_n 2, 1) := by decide +kernel
theorem dX7_tells_6 : decode cX7_tells 6 = .ok (.iload_n 2, 1) := by decide +kernel
theorem dX7_tells_7 : decode cX7_tells 7 = .ok (.ifCond .eq 5, 3) := by decide +kernel
theorem dX7_tells_10 : decode cX7_tells 10 = .ok (.iload_n 2, 1) := by decide +kernel
theorem dX7_tells_11 : decode cX7_tells 11 = .ok (.ireturn, 1) := by decide +kernel
theorem dX7_tells_12 : decode cX7_tells 12 = .ok (.iconst 0, 1) := by decide +kernel
theorem dX7_tells_13 : decode cX7_tells 13 = .ok (.istore_n 3, 1) := by decide +kernel
theorem dX7_tells_14 : decode cX7_tells 14 = .ok (.iconst 0, 1) := by decide +kernel
theorem dX7_tells_15 : decode cX7_tells 15 = .ok (.istore 4, 2) := by decide +kernel
theorem dX7_tells_17 : decode cX7_tells 17 = .ok (.iconst 0, 1) := by decide +kernel
theorem dX7_tells_18 : decode cX7_tells 18 = .ok (.istore 5, 2) := by decide +kernel
theorem dX7_tells_20 : decode cX7_tells 20 = .ok (.iload 5, 2) := by decide +kernel
theorem dX7_tells_22 : decode cX7_tells 22 = .ok (.aload_n 0, 1) := by decide +kernel
theorem dX7_tells_23 : decode cX7_tells 23 = .ok (.getfield 28, 3) := by decide +kernel
theorem dX7_tells_26 : decode cX7_tells 26 = .ok (.getfield 121, 3) := by decide +kernel
theorem dX7_tells_29 : decode cX7_tells 29 = .ok (.if_icmp .ge 56, 3) := by decide +kernel
theorem dX7_tells_32 : decode cX7_tells 32 = .ok (.aload_n 0, 1) := by decide +kernel
theorem dX7_tells_33 : decode cX7_tells 33 = .ok (.getfield 28, 3) := by decide +kernel
theorem dX7_tells_36 : decode cX7_tells 36 = .ok (.getfield 126, 3) := by decide +kernel
theorem dX7_tells_39 : decode cX7_tells 39 = .ok (.iload 5, 2) := by decide +kernel
theorem dX7_tells_41 : decode cX7_tells 41 = .ok (.aaload, 1) := by decide +kernel
theorem dX7_tells_42 : decode cX7_tells 42 = .ok (.astore 6, 2) := by decide +kernel
theorem dX7_tells_44 : decode cX7_tells 44 = .ok (.aload 6, 2) := by decide +kernel
theorem dX7_tells_46 : decode cX7_tells 46 = .ok (.invokevirtual 180, 3) := by decide +kernel
theorem dX7_tells_49 : decode cX7_tells 49 = .ok (.ifCond .ne 30, 3) := by decide +kernel
theorem dX7_tells_52 : decode cX7_tells 52 = .ok (.aload_n 0, 1) := by decide +kernel
theorem dX7_tells_53 : decode cX7_tells 53 = .ok (.getfield 28, 3) := by decide +kernel
theorem dX7_tells_56 : decode cX7_tells 56 = .ok (.aload 6, 2) := by decide +kernel
theorem dX7_tells_58 : decode cX7_tells 58 = .ok (.iload_n 1, 1) := by decide +kernel
theorem dX7_tells_59 : decode cX7_tells 59 = .ok (.invokevirtual 200, 3) := by decide +kernel
theorem dX7_tells_62 : decode cX7_tells 62 = .ok (.iconst 1, 1) := by decide +kernel
theorem dX7_tells_63 : decode cX7_tells 63 = .ok (.if_icmp .ne 16, 3) := by decide +kernel
theorem dX7_tells_66 : decode cX7_tells 66 = .ok (.iinc 3 1, 3) := by decide +kernel
theorem dX7_tells_69 : decode cX7_tells 69 = .ok (.iload 4, 2) := by decide +kernel
theorem dX7_tells_71 : decode cX7_tells 71 = .ok (.aload 6, 2) := by decide +kernel
theorem dX7_tells_73 : decode cX7_tells 73 = .ok (.getfield 214, 3) := by decide +kernel
theorem dX7_tells_76 : decode cX7_tells 76 = .ok (.iadd, 1) := by decide +kernel
theorem dX7_tells_77 : decode cX7_tells 77 = .ok (.istore 4, 2) := by decide +kernel
theorem dX7_tells_79 : decode cX7_tells 79 = .ok (.iinc 5 1, 3) := by decide +kernel
theorem dX7_tells_82 : decode cX7_tells 82 = .ok (.goto (-62), 3) := by decide +kernel
theorem dX7_tells_85 : decode cX7_tells 85 = .ok (.aload_n 0, 1) := by decide +kernel
theorem dX7_tells_86 : decode cX7_tells 86 = .ok (.iload 4, 2) := by decide +kernel
theorem dX7_tells_88 : decode cX7_tells 88 = .ok (.i2l, 1) := by decide +kernel
theorem dX7_tells_89 : decode cX7_tells 89 = .ok (.iload_n 3, 1) := by decide +kernel
theorem dX7_tells_90 : decode cX7_tells 90 = .ok (.i2l, 1) := by decide +kernel
theorem dX7_tells_91 : decode cX7_tells 91 = .ok (.invokevirtual 217, 3) := by decide +kernel
theorem dX7_tells_94 : decode cX7_tells 94 = .ok (.iconst 1, 1) := by decide +kernel
theorem dX7_tells_95 : decode cX7_tells 95 = .ok (.ireturn, 1) := by decide +kernel
theorem dX7_order_0 : decode cX7_order 0 = .ok (.aload_n 0, 1) := by decide +kernel
theorem dX7_order_1 : decode cX7_order 1 = .ok (.iload_n 1, 1) := by decide +kernel
theorem dX7_order_2 : decode cX7_order 2 = .ok (.invokevirtual 221, 3) := by decide +kernel
theorem dX7_order_5 : decode cX7_order 5 = .ok (.istore_n 2, 1) := by decide +kernel
theorem dX7_order_6 : decode cX7_order 6 = .ok (.iload_n 2, 1) := by decide +kernel
theorem dX7_order_7 : decode cX7_order 7 = .ok (.ifCond .eq 5, 3) := by decide +kernel
theorem dX7_order_10 : decode cX7_order 10 = .ok (.iload_n 2, 1) := by decide +kernel
theorem dX7_order_11 : decode cX7_order 11 = .ok (.ireturn, 1) := by decide +kernel
theorem dX7_order_12 : decode cX7_order 12 = .ok (.aload_n 0, 1) := by decide +kernel
theorem dX7_order_13 : decode cX7_order 13 = .ok (.getfield 41, 3) := by decide +kernel
theorem dX7_order_16 : decode cX7_order 16 = .ok (.aload_n 0, 1) := by decide +kernel
theorem dX7_order_17 : decode cX7_order 17 = .ok (.getfield 28, 3) := by decide +kernel
theorem dX7_order_20 : decode cX7_order 20 = .ok (.aload_n 0, 1) := by decide +kernel
theorem dX7_order_21 : decode cX7_order 21 = .ok (.getfield 11, 3) := by decide +kernel
theorem dX7_order_24 : decode cX7_order 24 = .ok (.iload_n 1, 1) := by decide +kernel
theorem dX7_order_25 : decode cX7_order 25 = .ok (.aaload, 1) := by decide +kernel
theorem dX7_order_26 : decode cX7_order 26 = .ok (.invokevirtual 224, 3) := by decide +kernel
theorem dX7_order_29 : decode cX7_order 29 = .ok (.ireturn, 1) := by decide +kernel
theorem dX7_tried_0 : decode cX7_tried 0 = .ok (.aload_n 0, 1) := by decide +kernel
theorem dX7_tried_1 : decode cX7_tried 1 = .ok (.iload_n 1, 1) := by decide +kernel
theorem dX7_tried_2 : decode cX7_tried 2 = .ok (.invokevirtual 221, 3) := by decide +kernel
theorem dX7_tried_5 : decode cX7_tried 5 = .ok (.istore_n 2, 1) := by decide +kernel
theorem dX7_tried_6 : decode cX7_tried 6 = .ok (.iload_n 2, 1) := by decide +kernel
theorem dX7_tried_7 : decode cX7_tried 7 = .ok (.ifCond .eq 5, 3) := by decide +kernel
theorem dX7_tried_10 : decode cX7_tried 10 = .ok (.iload_n 2, 1) := by decide +kernel
theorem dX7_tried_11 : decode cX7_tried 11 = .ok (.ireturn, 1) := by decide +kernel
theorem dX7_tried_12 : decode cX7_tried 12 = .ok (.aload_n 0, 1) := by decide +kernel
theorem dX7_tried_13 : decode cX7_tried 13 = .ok (.getfield 11, 3) := by decide +kernel
theorem dX7_tried_16 : decode cX7_tried 16 = .ok (.iload_n 1, 1) := by decide +kernel
theorem dX7_tried_17 : decode cX7_tried 17 = .ok (.aaload, 1) := by decide +kernel
theorem dX7_tried_18 : decode cX7_tried 18 = .ok (.astore_n 3, 1) := by decide +kernel
theorem dX7_tried_19 : decode cX7_tried 19 = .ok (.aload_n 0, 1) := by decide +kernel
theorem dX7_tried_20 : decode cX7_tried 20 = .ok (.aload_n 3, 1) := by decide +kernel
theorem dX7_tried_21 : decode cX7_tried 21 = .ok (.invokevirtual 228, 3) := by decide +kernel
theorem dX7_tried_24 : decode cX7_tried 24 = .ok (.istore 4, 2) := by decide +kernel
theorem dX7_tried_26 : decode cX7_tried 26 = .ok (.iload 4, 2) := by decide +kernel
theorem dX7_tried_28 : decode cX7_tried 28 = .ok (.ifCond .eq 10, 3) := by decide +kernel
theorem dX7_tried_31 : decode cX7_tried 31 = .ok (.aload_n 0, 1) := by decide +kernel
theorem dX7_tried_32 : decode cX7_tried 32 = .ok (.iload 4, 2) := by decide +kernel
theorem dX7_tried_34 : decode cX7_tried 34 = .ok (.invokevirtual 90, 3) := by decide +kernel
theorem dX7_tried_37 : decode cX7_tried 37 = .ok (.ireturn, 1) := by decide +kernel
theorem dX7_tried_38 : decode cX7_tried 38 = .ok (.iconst 0, 1) := by decide +kernel
theorem dX7_tried_39 : decode cX7_tried 39 = .ok (.istore 5, 2) := by decide +kernel
theorem dX7_tried_41 : decode cX7_tried 41 = .ok (.aload_n 0, 1) := by decide +kernel
theorem dX7_tried_42 : decode cX7_tried 42 = .ok (.getfield 28, 3) := by decide +kernel
theorem dX7_tried_45 : decode cX7_tried 45 = .ok (.invokevirtual 231, 3) := by decide +kernel
theorem dX7_tried_48 : decode cX7_tried 48 = .ok (.istore 6, 2) := by decide +kernel
theorem dX7_tried_50 : decode cX7_tried 50 = .ok (.aload_n 0, 1) := by decide +kernel
theorem dX7_tried_51 : decode cX7_tried 51 = .ok (.getfield 28, 3) := by decide +kernel
theorem dX7_tried_54 : decode cX7_tried 54 = .ok (.getfield 151, 3) := by decide +kernel
theorem dX7_tried_57 : decode cX7_tried 57 = .ok (.istore 7, 2) := by decide +kernel
theorem dX7_tried_59 : decode cX7_tried 59 = .ok (.iconst 0, 1) := by decide +kernel
theorem dX7_tried_60 : decode cX7_tried 60 = .ok (.istore 8, 2) := by decide +kernel
theorem dX7_tried_62 : decode cX7_tried 62 = .ok (.iload 8, 2) := by decide +kernel
theorem dX7_tried_64 : decode cX7_tried 64 = .ok (.aload_n 3, 1) := by decide +kernel
theorem dX7_tried_65 : decode cX7_tried 65 = .ok (.getfield 83, 3) := by decide +kernel
theorem dX7_tried_68 : decode cX7_tried 68 = .ok (.if_icmp .ge 90, 3) := by decide +kernel
theorem dX7_tried_71 : decode cX7_tried 71 = .ok (.aload_n 0, 1) := by decide +kernel
theorem dX7_tried_72 : decode cX7_tried 72 = .ok (.getfield 28, 3) := by decide +kernel
theorem dX7_tried_75 : decode cX7_tried 75 = .ok (.getfield 126, 3) := by decide +kernel
theorem dX7_tried_78 : decode cX7_tried 78 = .ok (.aload_n 3, 1) := by decide +kernel
theorem dX7_tried_79 : decode cX7_tried 79 = .ok (.getfield 72, 3) := by decide +kernel
theorem dX7_tried_82 : decode cX7_tried 82 = .ok (.iload 8, 2) := by decide +kernel
theorem dX7_tried_84 : decode cX7_tried 84 = .ok (.iaload, 1) := by decide +kernel
theorem dX7_tried_85 : decode cX7_tried 85 = .ok (.aaload, 1) := by decide +kernel
theorem dX7_tried_86 : decode cX7_tried 86 = .ok (.astore 9, 2) := by decide +kernel
theorem dX7_tried_88 : decode cX7_tried 88 = .ok (.aload_n 0, 1) := by decide +kernel
theorem dX7_tried_89 : decode cX7_tried 89 = .ok (.getfield 28, 3) := by decide +kernel
theorem dX7_tried_92 : decode cX7_tried 92 = .ok (.aload 9, 2) := by decide +kernel
theorem dX7_tried_94 : decode cX7_tried 94 = .ok (.iload 7, 2) := by decide +kernel
theorem dX7_tried_96 : decode cX7_tried 96 = .ok (.invokevirtual 200, 3) := by decide +kernel
theorem dX7_tried_99 : decode cX7_tried 99 = .ok (.istore 10, 2) := by decide +kernel
theorem dX7_tried_101 : decode cX7_tried 101 = .ok (.iload 5, 2) := by decide +kernel
theorem dX7_tried_103 : decode cX7_tried 103 = .ok (.aload 9, 2) := by decide +kernel
theorem dX7_tried_105 : decode cX7_tried 105 = .ok (.iload 10, 2) := by decide +kernel
theorem dX7_tried_107 : decode cX7_tried 107 = .ok (.invokevirtual 234, 3) := by decide +kernel
theorem dX7_tried_110 : decode cX7_tried 110 = .ok (.ifCond .eq 7, 3) := by decide +kernel
theorem dX7_tried_113 : decode cX7_tried 113 = .ok (.iconst 1, 1) := by decide +kernel
theorem dX7_tried_114 : decode cX7_tried 114 = .ok (.goto 4, 3) := by decide +kernel
theorem dX7_tried_117 : decode cX7_tried 117 = .ok (.iconst 0, 1) := by decide +kernel
theorem dX7_tried_118 : decode cX7_tried 118 = .ok (.iadd, 1) := by decide +kernel
theorem dX7_tried_119 : decode cX7_tried 119 = .ok (.istore 5, 2) := by decide +kernel
theorem dX7_tried_121 : decode cX7_tried 121 = .ok (.iload 6, 2) := by decide +kernel
theorem dX7_tried_123 : decode cX7_tried 123 = .ok (.iload 10, 2) := by decide +kernel
theorem dX7_tried_125 : decode cX7_tried 125 = .ok (.iconst 1, 1) := by decide +kernel
theorem dX7_tried_126 : decode cX7_tried 126 = .ok (.if_icmp .ne 7, 3) := by decide +kernel
theorem dX7_tried_129 : decode cX7_tried 129 = .ok (.iconst 1, 1) := by decide +kernel
theorem dX7_tried_130 : decode cX7_tried 130 = .ok (.goto 4, 3) := by decide +kernel
theorem dX7_tried_133 : decode cX7_tried 133 = .ok (.iconst 0, 1) := by decide +kernel
theorem dX7_tried_134 : decode cX7_tried 134 = .ok (.iadd, 1) := by decide +kernel
theorem dX7_tried_135 : decode cX7_tried 135 = .ok (.istore 6, 2) := by decide +kernel
theorem dX7_tried_137 : decode cX7_tried 137 = .ok (.aload_n 0, 1) := by decide +kernel
theorem dX7_tried_138 : decode cX7_tried 138 = .ok (.getfield 28, 3) := by decide +kernel
theorem dX7_tried_141 : decode cX7_tried 141 = .ok (.iload 10, 2) := by decide +kernel
theorem dX7_tried_143 : decode cX7_tried 143 = .ok (.iload 6, 2) := by decide +kernel
theorem dX7_tried_145 : decode cX7_tried 145 = .ok (.iload 7, 2) := by decide +kernel
theorem dX7_tried_147 : decode cX7_tried 147 = .ok (.invokevirtual 237, 3) := by decide +kernel
theorem dX7_tried_150 : decode cX7_tried 150 = .ok (.istore 7, 2) := by decide +kernel
theorem dX7_tried_152 : decode cX7_tried 152 = .ok (.iinc 8 1, 3) := by decide +kernel
theorem dX7_tried_155 : decode cX7_tried 155 = .ok (.goto (-93), 3) := by decide +kernel
theorem dX7_tried_158 : decode cX7_tried 158 = .ok (.aload_n 0, 1) := by decide +kernel
theorem dX7_tried_159 : decode cX7_tried 159 = .ok (.iload 7, 2) := by decide +kernel
theorem dX7_tried_161 : decode cX7_tried 161 = .ok (.putfield 75, 3) := by decide +kernel
theorem dX7_tried_164 : decode cX7_tried 164 = .ok (.iload 5, 2) := by decide +kernel
theorem dX7_tried_166 : decode cX7_tried 166 = .ok (.ireturn, 1) := by decide +kernel
theorem dX7_least_0 : decode cX7_least 0 = .ok (.aload_n 0, 1) := by decide +kernel
theorem dX7_least_1 : decode cX7_least 1 = .ok (.getfield 28, 3) := by decide +kernel
theorem dX7_least_4 : decode cX7_least 4 = .ok (.getfield 121, 3) := by decide +kernel
theorem dX7_least_7 : decode cX7_least 7 = .ok (.ifCond .ne 6, 3) := by decide +kernel
theorem dX7_least_10 : decode cX7_least 10 = .ok (.bipush (-4), 2) := by decide +kernel
theorem dX7_least_12 : decode cX7_least 12 = .ok (.ireturn, 1) := by decide +kernel
theorem dX7_least_13 : decode cX7_least 13 = .ok (.iconst 0, 1) := by decide +kernel
theorem dX7_least_14 : decode cX7_least 14 = .ok (.istore_n 1, 1) := by decide +kernel
theorem dX7_least_15 : decode cX7_least 15 = .ok (.iconst 0, 1) := by decide +kernel
theorem dX7_least_16 : decode cX7_least 16 = .ok (.istore_n 2, 1) := by decide +kernel
theorem dX7_least_17 : decode cX7_least 17 = .ok (.iconst 0, 1) := by decide +kernel
theorem dX7_least_18 : decode cX7_least 18 = .ok (.istore_n 3, 1) := by decide +kernel
theorem dX7_least_19 : decode cX7_least 19 = .ok (.iload_n 3, 1) := by decide +kernel
theorem dX7_least_20 : decode cX7_least 20 = .ok (.aload_n 0, 1) := by decide +kernel
theorem dX7_least_21 : decode cX7_least 21 = .ok (.getfield 28, 3) := by decide +kernel
theorem dX7_least_24 : decode cX7_least 24 = .ok (.getfield 121, 3) := by decide +kernel
theorem dX7_least_27 : decode cX7_least 27 = .ok (.if_icmp .ge 80, 3) := by decide +kernel
theorem dX7_least_30 : decode cX7_least 30 = .ok (.aload_n 0, 1) := by decide +kernel
theorem dX7_least_31 : decode cX7_least 31 = .ok (.getfield 28, 3) := by decide +kernel
theorem dX7_least_34 : decode cX7_least 34 = .ok (.getfield 126, 3) := by decide +kernel
theorem dX7_least_37 : decode cX7_least 37 = .ok (.iload_n 3, 1) := by decide +kernel
theorem dX7_least_38 : decode cX7_least 38 = .ok (.aaload, 1) := by decide +kernel
theorem dX7_least_39 : decode cX7_least 39 = .ok (.astore 4, 2) := by decide +kernel
theorem dX7_least_41 : decode cX7_least 41 = .ok (.aload_n 0, 1) := by decide +kernel
theorem dX7_least_42 : decode cX7_least 42 = .ok (.getfield 28, 3) := by decide +kernel
theorem dX7_least_45 : decode cX7_least 45 = .ok (.aload 4, 2) := by decide +kernel
theorem dX7_least_47 : decode cX7_least 47 = .ok (.invokevirtual 241, 3) := by decide +kernel
theorem dX7_least_50 : decode cX7_least 50 = .ok (.ifCond .eq 15, 3) := by decide +kernel
theorem dX7_least_53 : decode cX7_least 53 = .ok (.aload_n 0, 1) := by decide +kernel
theorem dX7_least_54 : decode cX7_least 54 = .ok (.getfield 28, 3) := by decide +kernel
theorem dX7_least_57 : decode cX7_least 57 = .ok (.aload 4, 2) := by decide +kernel
theorem dX7_least_59 : decode cX7_least 59 = .ok (.invokevirtual 245, 3) := by decide +kernel
theorem dX7_least_62 : decode cX7_least 62 = .ok (.goto 4, 3) := by decide +kernel
theorem dX7_least_65 : decode cX7_least 65 = .ok (.iconst 0, 1) := by decide +kernel
theorem dX7_least_66 : decode cX7_least 66 = .ok (.istore 5, 2) := by decide +kernel
theorem dX7_least_68 : decode cX7_least 68 = .ok (.aload 4, 2) := by decide +kernel
theorem dX7_least_70 : decode cX7_least 70 = .ok (.getfield 177, 3) := by decide +kernel
theorem dX7_least_73 : decode cX7_least 73 = .ok (.iload 5, 2) := by decide +kernel
theorem dX7_least_75 : decode cX7_least 75 = .ok (.iadd, 1) := by decide +kernel
theorem dX7_least_76 : decode cX7_least 76 = .ok (.iconst 3, 1) := by decide +kernel
theorem dX7_least_77 : decode cX7_least 77 = .ok (.if_icmp .le 6, 3) := by decide +kernel
theorem dX7_least_80 : decode cX7_least 80 = .ok (.bipush (-9), 2) := by decide +kernel
theorem dX7_least_82 : decode cX7_least 82 = .ok (.ireturn, 1) := by decide +kernel
theorem dX7_least_83 : decode cX7_least 83 = .ok (.iload_n 1, 1) := by decide +kernel
theorem dX7_least_84 : decode cX7_least 84 = .ok (.iload 5, 2) := by decide +kernel
theorem dX7_least_86 : decode cX7_least 86 = .ok (.iadd, 1) := by decide +kernel
theorem dX7_least_87 : decode cX7_least 87 = .ok (.istore_n 1, 1) := by decide +kernel
theorem dX7_least_88 : decode cX7_least 88 = .ok (.iload_n 2, 1) := by decide +kernel
theorem dX7_least_89 : decode cX7_least 89 = .ok (.iload 5, 2) := by decide +kernel
theorem dX7_least_91 : decode cX7_least 91 = .ok (.ifCond .le 7, 3) := by decide +kernel
theorem dX7_least_94 : decode cX7_least 94 = .ok (.iconst 1, 1) := by decide +kernel
theorem dX7_least_95 : decode cX7_least 95 = .ok (.goto 4, 3) := by decide +kernel
theorem dX7_least_98 : decode cX7_least 98 = .ok (.iconst 0, 1) := by decide +kernel
theorem dX7_least_99 : decode cX7_least 99 = .ok (.iadd, 1) := by decide +kernel
theorem dX7_least_100 : decode cX7_least 100 = .ok (.istore_n 2, 1) := by decide +kernel
theorem dX7_least_101 : decode cX7_least 101 = .ok (.iinc 3 1, 3) := by decide +kernel
theorem dX7_least_104 : decode cX7_least 104 = .ok (.goto (-85), 3) := by decide +kernel
theorem dX7_least_107 : decode cX7_least 107 = .ok (.aload_n 0, 1) := by decide +kernel
theorem dX7_least_108 : decode cX7_least 108 = .ok (.iload_n 2, 1) := by decide +kernel
theorem dX7_least_109 : decode cX7_least 109 = .ok (.putfield 75, 3) := by decide +kernel
theorem dX7_least_112 : decode cX7_least 112 = .ok (.iload_n 1, 1) := by decide +kernel
theorem dX7_least_113 : decode cX7_least 113 = .ok (.ireturn, 1) := by decide +kernel
theorem dX7_fits_0 : decode cX7_fits 0 = .ok (.aload_n 0, 1) := by decide +kernel
theorem dX7_fits_1 : decode cX7_fits 1 = .ok (.iload_n 1, 1) := by decide +kernel
theorem dX7_fits_2 : decode cX7_fits 2 = .ok (.invokevirtual 248, 3) := by decide +kernel
theorem dX7_fits_5 : decode cX7_fits 5 = .ok (.istore_n 2, 1) := by decide +kernel
theorem dX7_fits_6 : decode cX7_fits 6 = .ok (.iload_n 2, 1) := by decide +kernel
theorem dX7_fits_7 : decode cX7_fits 7 = .ok (.ifCond .eq 5, 3) := by decide +kernel
theorem dX7_fits_10 : decode cX7_fits 10 = .ok (.iload_n 2, 1) := by decide +kernel
theorem dX7_fits_11 : decode cX7_fits 11 = .ok (.ireturn, 1) := by decide +kernel
theorem dX7_fits_12 : decode cX7_fits 12 = .ok (.aload_n 0, 1) := by decide +kernel
theorem dX7_fits_13 : decode cX7_fits 13 = .ok (.getfield 28, 3) := by decide +kernel
theorem dX7_fits_16 : decode cX7_fits 16 = .ok (.aload_n 0, 1) := by decide +kernel
theorem dX7_fits_17 : decode cX7_fits 17 = .ok (.getfield 11, 3) := by decide +kernel
theorem dX7_fits_20 : decode cX7_fits 20 = .ok (.iload_n 1, 1) := by decide +kernel
theorem dX7_fits_21 : decode cX7_fits 21 = .ok (.aaload, 1) := by decide +kernel
theorem dX7_fits_22 : decode cX7_fits 22 = .ok (.invokevirtual 251, 3) := by decide +kernel
theorem dX7_fits_25 : decode cX7_fits 25 = .ok (.istore_n 3, 1) := by decide +kernel
theorem dX7_fits_26 : decode cX7_fits 26 = .ok (.aload_n 0, 1) := by decide +kernel
theorem dX7_fits_27 : decode cX7_fits 27 = .ok (.iload_n 3, 1) := by decide +kernel
theorem dX7_fits_28 : decode cX7_fits 28 = .ok (.invokestatic 254, 3) := by decide +kernel
theorem dX7_fits_31 : decode cX7_fits 31 = .ok (.putfield 75, 3) := by decide +kernel
theorem dX7_fits_34 : decode cX7_fits 34 = .ok (.iload_n 3, 1) := by decide +kernel
theorem dX7_fits_35 : decode cX7_fits 35 = .ok (.ireturn, 1) := by decide +kernel
theorem dX7_ask_0 : decode cX7_ask 0 = .ok (.aload_n 0, 1) := by decide +kernel
theorem dX7_ask_1 : decode cX7_ask 1 = .ok (.iload_n 1, 1) := by decide +kernel
theorem dX7_ask_2 : decode cX7_ask 2 = .ok (.invokevirtual 248, 3) := by decide +kernel
theorem dX7_ask_5 : decode cX7_ask 5 = .ok (.istore_n 2, 1) := by decide +kernel
theorem dX7_ask_6 : decode cX7_ask 6 = .ok (.iload_n 2, 1) := by decide +kernel
theorem dX7_ask_7 : decode cX7_ask 7 = .ok (.ifCond .eq 5, 3) := by decide +kernel
theorem dX7_ask_10 : decode cX7_ask 10 = .ok (.iload_n 2, 1) := by decide +kernel
theorem dX7_ask_11 : decode cX7_ask 11 = .ok (.ireturn, 1) := by decide +kernel
theorem dX7_ask_12 : decode cX7_ask 12 = .ok (.aload_n 0, 1) := by decide +kernel
theorem dX7_ask_13 : decode cX7_ask 13 = .ok (.getfield 28, 3) := by decide +kernel
theorem dX7_ask_16 : decode cX7_ask 16 = .ok (.aload_n 0, 1) := by decide +kernel
theorem dX7_ask_17 : decode cX7_ask 17 = .ok (.getfield 11, 3) := by decide +kernel
theorem dX7_ask_20 : decode cX7_ask 20 = .ok (.iload_n 1, 1) := by decide +kernel
theorem dX7_ask_21 : decode cX7_ask 21 = .ok (.aaload, 1) := by decide +kernel
theorem dX7_ask_22 : decode cX7_ask 22 = .ok (.invokevirtual 251, 3) := by decide +kernel
theorem dX7_ask_25 : decode cX7_ask 25 = .ok (.istore_n 3, 1) := by decide +kernel
theorem dX7_ask_26 : decode cX7_ask 26 = .ok (.iload_n 3, 1) := by decide +kernel
theorem dX7_ask_27 : decode cX7_ask 27 = .ok (.ifCond .ne 6, 3) := by decide +kernel
theorem dX7_ask_30 : decode cX7_ask 30 = .ok (.bipush (-9), 2) := by decide +kernel
theorem dX7_ask_32 : decode cX7_ask 32 = .ok (.ireturn, 1) := by decide +kernel
theorem dX7_ask_33 : decode cX7_ask 33 = .ok (.iconst 0, 1) := by decide +kernel
theorem dX7_ask_34 : decode cX7_ask 34 = .ok (.istore 4, 2) := by decide +kernel
theorem dX7_ask_36 : decode cX7_ask 36 = .ok (.aload_n 0, 1) := by decide +kernel
theorem dX7_ask_37 : decode cX7_ask 37 = .ok (.getfield 28, 3) := by decide +kernel
theorem dX7_ask_40 : decode cX7_ask 40 = .ok (.aload_n 0, 1) := by decide +kernel
theorem dX7_ask_41 : decode cX7_ask 41 = .ok (.getfield 28, 3) := by decide +kernel
theorem dX7_ask_44 : decode cX7_ask 44 = .ok (.getfield 126, 3) := by decide +kernel
theorem dX7_ask_47 : decode cX7_ask 47 = .ok (.iconst 0, 1) := by decide +kernel
theorem dX7_ask_48 : decode cX7_ask 48 = .ok (.aaload, 1) := by decide +kernel
theorem dX7_ask_49 : decode cX7_ask 49 = .ok (.iload_n 3, 1) := by decide +kernel
theorem dX7_ask_50 : decode cX7_ask 50 = .ok (.invokevirtual 259, 3) := by decide +kernel
theorem dX7_ask_53 : decode cX7_ask 53 = .ok (.istore 5, 2) := by decide +kernel
theorem dX7_ask_55 : decode cX7_ask 55 = .ok (.iconst 1, 1) := by decide +kernel
theorem dX7_ask_56 : decode cX7_ask 56 = .ok (.istore 6, 2) := by decide +kernel
theorem dX7_ask_58 : decode cX7_ask 58 = .ok (.iload 6, 2) := by decide +kernel
theorem dX7_ask_60 : decode cX7_ask 60 = .ok (.aload_n 0, 1) := by decide +kernel
theorem dX7_ask_61 : decode cX7_ask 61 = .ok (.getfield 28, 3) := by decide +kernel
theorem dX7_ask_64 : decode cX7_ask 64 = .ok (.getfield 121, 3) := by decide +kernel
theorem dX7_ask_67 : decode cX7_ask 67 = .ok (.if_icmp .ge 44, 3) := by decide +kernel
theorem dX7_ask_70 : decode cX7_ask 70 = .ok (.aload_n 0, 1) := by decide +kernel
theorem dX7_ask_71 : decode cX7_ask 71 = .ok (.getfield 28, 3) := by decide +kernel
theorem dX7_ask_74 : decode cX7_ask 74 = .ok (.aload_n 0, 1) := by decide +kernel
theorem dX7_ask_75 : decode cX7_ask 75 = .ok (.getfield 28, 3) := by decide +kernel
theorem dX7_ask_78 : decode cX7_ask 78 = .ok (.getfield 126, 3) := by decide +kernel
theorem dX7_ask_81 : decode cX7_ask 81 = .ok (.iload 6, 2) := by decide +kernel
theorem dX7_ask_83 : decode cX7_ask 83 = .ok (.aaload, 1) := by decide +kernel
theorem dX7_ask_84 : decode cX7_ask 84 = .ok (.iload_n 3, 1) := by decide +kernel
theorem dX7_ask_85 : decode cX7_ask 85 = .ok (.invokevirtual 259, 3) := by decide +kernel
theorem dX7_ask_88 : decode cX7_ask 88 = .ok (.istore 7, 2) := by decide +kernel
theorem dX7_ask_90 : decode cX7_ask 90 = .ok (.iload 7, 2) := by decide +kernel
theorem dX7_ask_92 : decode cX7_ask 92 = .ok (.iload 5, 2) := by decide +kernel
theorem dX7_ask_94 : decode cX7_ask 94 = .ok (.if_icmp .ge 11, 3) := by decide +kernel
theorem dX7_ask_97 : decode cX7_ask 97 = .ok (.iload 7, 2) := by decide +kernel
theorem dX7_ask_99 : decode cX7_ask 99 = .ok (.istore 5, 2) := by decide +kernel
theorem dX7_ask_101 : decode cX7_ask 101 = .ok (.iload 6, 2) := by decide +kernel
theorem dX7_ask_103 : decode cX7_ask 103 = .ok (.istore 4, 2) := by decide +kernel
theorem dX7_ask_105 : decode cX7_ask 105 = .ok (.iinc 6 1, 3) := by decide +kernel
theorem dX7_ask_108 : decode cX7_ask 108 = .ok (.goto (-50), 3) := by decide +kernel
theorem dX7_ask_111 : decode cX7_ask 111 = .ok (.aload_n 0, 1) := by decide +kernel
theorem dX7_ask_112 : decode cX7_ask 112 = .ok (.iload 5, 2) := by decide +kernel
theorem dX7_ask_114 : decode cX7_ask 114 = .ok (.putfield 75, 3) := by decide +kernel
theorem dX7_ask_117 : decode cX7_ask 117 = .ok (.iload 4, 2) := by decide +kernel
theorem dX7_ask_119 : decode cX7_ask 119 = .ok (.ireturn, 1) := by decide +kernel
theorem dX7_hands_0 : decode cX7_hands 0 = .ok (.aload_n 0, 1) := by decide +kernel
theorem dX7_hands_1 : decode cX7_hands 1 = .ok (.iload_n 1, 1) := by decide +kernel
theorem dX7_hands_2 : decode cX7_hands 2 = .ok (.iload_n 2, 1) := by decide +kernel
theorem dX7_hands_3 : decode cX7_hands 3 = .ok (.invokevirtual 262, 3) := by decide +kernel
theorem dX7_hands_6 : decode cX7_hands 6 = .ok (.istore_n 3, 1) := by decide +kernel
theorem dX7_hands_7 : decode cX7_hands 7 = .ok (.iload_n 3, 1) := by decide +kernel
theorem dX7_hands_8 : decode cX7_hands 8 = .ok (.ifCond .eq 5, 3) := by decide +kernel
theorem dX7_hands_11 : decode cX7_hands 11 = .ok (.iload_n 3, 1) := by decide +kernel
theorem dX7_hands_12 : decode cX7_hands 12 = .ok (.ireturn, 1) := by decide +kernel
theorem dX7_hands_13 : decode cX7_hands 13 = .ok (.aload_n 0, 1) := by decide +kernel
theorem dX7_hands_14 : decode cX7_hands 14 = .ok (.getfield 28, 3) := by decide +kernel
theorem dX7_hands_17 : decode cX7_hands 17 = .ok (.aload_n 0, 1) := by decide +kernel
theorem dX7_hands_18 : decode cX7_hands 18 = .ok (.getfield 28, 3) := by decide +kernel
theorem dX7_hands_21 : decode cX7_hands 21 = .ok (.getfield 126, 3) := by decide +kernel
theorem dX7_hands_24 : decode cX7_hands 24 = .ok (.iload_n 1, 1) := by decide +kernel
theorem dX7_hands_25 : decode cX7_hands 25 = .ok (.aaload, 1) := by decide +kernel
theorem dX7_hands_26 : decode cX7_hands 26 = .ok (.invokevirtual 265, 3) := by decide +kernel
theorem dX7_hands_29 : decode cX7_hands 29 = .ok (.astore 4, 2) := by decide +kernel
theorem dX7_hands_31 : decode cX7_hands 31 = .ok (.iconst 0, 1) := by decide +kernel
theorem dX7_hands_32 : decode cX7_hands 32 = .ok (.istore 5, 2) := by decide +kernel
theorem dX7_hands_34 : decode cX7_hands 34 = .ok (.iconst 0, 1) := by decide +kernel
theorem dX7_hands_35 : decode cX7_hands 35 = .ok (.istore 6, 2) := by decide +kernel
theorem dX7_hands_37 : decode cX7_hands 37 = .ok (.iload 6, 2) := by decide +kernel
theorem dX7_hands_39 : decode cX7_hands 39 = .ok (.bipush 10, 2) := by decide +kernel
theorem dX7_hands_41 : decode cX7_hands 41 = .ok (.if_icmp .ge 47, 3) := by decide +kernel
theorem dX7_hands_44 : decode cX7_hands 44 = .ok (.aload 4, 2) := by decide +kernel
theorem dX7_hands_46 : decode cX7_hands 46 = .ok (.iload 6, 2) := by decide +kernel
theorem dX7_hands_48 : decode cX7_hands 48 = .ok (.putfield 268, 3) := by decide +kernel
theorem dX7_hands_51 : decode cX7_hands 51 = .ok (.iload 5, 2) := by decide +kernel
theorem dX7_hands_53 : decode cX7_hands 53 = .ok (.aload_n 0, 1) := by decide +kernel
theorem dX7_hands_54 : decode cX7_hands 54 = .ok (.getfield 28, 3) := by decide +kernel
theorem dX7_hands_57 : decode cX7_hands 57 = .ok (.aload 4, 2) := by decide +kernel
theorem dX7_hands_59 : decode cX7_hands 59 = .ok (.aload_n 0, 1) := by decide +kernel
theorem dX7_hands_60 : decode cX7_hands 60 = .ok (.getfield 11, 3) := by decide +kernel
theorem dX7_hands_63 : decode cX7_hands 63 = .ok (.iload_n 2, 1) := by decide +kernel
theorem dX7_hands_64 : decode cX7_hands 64 = .ok (.aaload, 1) := by decide +kernel
theorem dX7_hands_65 : decode cX7_hands 65 = .ok (.invokevirtual 271, 3) := by decide +kernel
theorem dX7_hands_68 : decode cX7_hands 68 = .ok (.ifCond .eq 10, 3) := by decide +kernel
theorem dX7_hands_71 : decode cX7_hands 71 = .ok (.iconst 1, 1) := by decide +kernel
theorem dX7_hands_72 : decode cX7_hands 72 = .ok (.iload 6, 2) := by decide +kernel
theorem dX7_hands_74 : decode cX7_hands 74 = .ok (.ishl, 1) := by decide +kernel
theorem dX7_hands_75 : decode cX7_hands 75 = .ok (.goto 4, 3) := by decide +kernel
theorem dX7_hands_78 : decode cX7_hands 78 = .ok (.iconst 0, 1) := by decide +kernel
theorem dX7_hands_79 : decode cX7_hands 79 = .ok (.ior, 1) := by decide +kernel
theorem dX7_hands_80 : decode cX7_hands 80 = .ok (.istore 5, 2) := by decide +kernel
theorem dX7_hands_82 : decode cX7_hands 82 = .ok (.iinc 6 1, 3) := by decide +kernel
theorem dX7_hands_85 : decode cX7_hands 85 = .ok (.goto (-48), 3) := by decide +kernel
theorem dX7_hands_88 : decode cX7_hands 88 = .ok (.iload 5, 2) := by decide +kernel
theorem dX7_hands_90 : decode cX7_hands 90 = .ok (.ireturn, 1) := by decide +kernel
theorem dX7_kinds_0 : decode cX7_kinds 0 = .ok (.aload_n 0, 1) := by decide +kernel
theorem dX7_kinds_1 : decode cX7_kinds 1 = .ok (.iload_n 1, 1) := by decide +kernel
theorem dX7_kinds_2 : decode cX7_kinds 2 = .ok (.iload_n 2, 1) := by decide +kernel
theorem dX7_kinds_3 : decode cX7_kinds 3 = .ok (.invokevirtual 262, 3) := by decide +kernel
theorem dX7_kinds_6 : decode cX7_kinds 6 = .ok (.istore_n 3, 1) := by decide +kernel
theorem dX7_kinds_7 : decode cX7_kinds 7 = .ok (.iload_n 3, 1) := by decide +kernel
theorem dX7_kinds_8 : decode cX7_kinds 8 = .ok (.ifCond .eq 5, 3) := by decide +kernel
theorem dX7_kinds_11 : decode cX7_kinds 11 = .ok (.iload_n 3, 1) := by decide +kernel
theorem dX7_kinds_12 : decode cX7_kinds 12 = .ok (.ireturn, 1) := by decide +kernel
theorem dX7_kinds_13 : decode cX7_kinds 13 = .ok (.aload_n 0, 1) := by decide +kernel
theorem dX7_kinds_14 : decode cX7_kinds 14 = .ok (.getfield 28, 3) := by decide +kernel
theorem dX7_kinds_17 : decode cX7_kinds 17 = .ok (.aload_n 0, 1) := by decide +kernel
theorem dX7_kinds_18 : decode cX7_kinds 18 = .ok (.getfield 28, 3) := by decide +kernel
theorem dX7_kinds_21 : decode cX7_kinds 21 = .ok (.getfield 126, 3) := by decide +kernel
theorem dX7_kinds_24 : decode cX7_kinds 24 = .ok (.iload_n 1, 1) := by decide +kernel
theorem dX7_kinds_25 : decode cX7_kinds 25 = .ok (.aaload, 1) := by decide +kernel
theorem dX7_kinds_26 : decode cX7_kinds 26 = .ok (.invokevirtual 265, 3) := by decide +kernel
theorem dX7_kinds_29 : decode cX7_kinds 29 = .ok (.astore 4, 2) := by decide +kernel
theorem dX7_kinds_31 : decode cX7_kinds 31 = .ok (.iconst 0, 1) := by decide +kernel
theorem dX7_kinds_32 : decode cX7_kinds 32 = .ok (.istore 5, 2) := by decide +kernel
theorem dX7_kinds_34 : decode cX7_kinds 34 = .ok (.iconst 0, 1) := by decide +kernel
theorem dX7_kinds_35 : decode cX7_kinds 35 = .ok (.istore 6, 2) := by decide +kernel
theorem dX7_kinds_37 : decode cX7_kinds 37 = .ok (.iload 6, 2) := by decide +kernel
theorem dX7_kinds_39 : decode cX7_kinds 39 = .ok (.bipush 6, 2) := by decide +kernel
theorem dX7_kinds_41 : decode cX7_kinds 41 = .ok (.if_icmp .ge 47, 3) := by decide +kernel
theorem dX7_kinds_44 : decode cX7_kinds 44 = .ok (.aload 4, 2) := by decide +kernel
theorem dX7_kinds_46 : decode cX7_kinds 46 = .ok (.iload 6, 2) := by decide +kernel
theorem dX7_kinds_48 : decode cX7_kinds 48 = .ok (.putfield 275, 3) := by decide +kernel
theorem dX7_kinds_51 : decode cX7_kinds 51 = .ok (.iload 5, 2) := by decide +kernel
theorem dX7_kinds_53 : decode cX7_kinds 53 = .ok (.aload_n 0, 1) := by decide +kernel
theorem dX7_kinds_54 : decode cX7_kinds 54 = .ok (.getfield 28, 3) := by decide +kernel
theorem dX7_kinds_57 : decode cX7_kinds 57 = .ok (.aload 4, 2) := by decide +kernel
theorem dX7_kinds_59 : decode cX7_kinds 59 = .ok (.aload_n 0, 1) := by decide +kernel
theorem dX7_kinds_60 : decode cX7_kinds 60 = .ok (.getfield 11, 3) := by decide +kernel
theorem dX7_kinds_63 : decode cX7_kinds 63 = .ok (.iload_n 2, 1) := by decide +kernel
theorem dX7_kinds_64 : decode cX7_kinds 64 = .ok (.aaload, 1) := by decide +kernel
theorem dX7_kinds_65 : decode cX7_kinds 65 = .ok (.invokevirtual 271, 3) := by decide +kernel
theorem dX7_kinds_68 : decode cX7_kinds 68 = .ok (.ifCond .eq 10, 3) := by decide +kernel
theorem dX7_kinds_71 : decode cX7_kinds 71 = .ok (.iconst 1, 1) := by decide +kernel
theorem dX7_kinds_72 : decode cX7_kinds 72 = .ok (.iload 6, 2) := by decide +kernel
theorem dX7_kinds_74 : decode cX7_kinds 74 = .ok (.ishl, 1) := by decide +kernel
theorem dX7_kinds_75 : decode cX7_kinds 75 = .ok (.goto 4, 3) := by decide +kernel
theorem dX7_kinds_78 : decode cX7_kinds 78 = .ok (.iconst 0, 1) := by decide +kernel
theorem dX7_kinds_79 : decode cX7_kinds 79 = .ok (.ior, 1) := by decide +kernel
theorem dX7_kinds_80 : decode cX7_kinds 80 = .ok (.istore 5, 2) := by decide +kernel
theorem dX7_kinds_82 : decode cX7_kinds 82 = .ok (.iinc 6 1, 3) := by decide +kernel
theorem dX7_kinds_85 : decode cX7_kinds 85 = .ok (.goto (-48), 3) := by decide +kernel
theorem dX7_kinds_88 : decode cX7_kinds 88 = .ok (.iload 5, 2) := by decide +kernel
theorem dX7_kinds_90 : decode cX7_kinds 90 = .ok (.ireturn, 1) := by decide +kernel
theorem dX7_duel_0 : decode cX7_duel 0 = .ok (.iload_n 1, 1) := by decide +kernel
theorem dX7_duel_1 : decode cX7_duel 1 = .ok (.ifCond .lt 9, 3) := by decide +kernel
theorem dX7_duel_4 : decode cX7_duel 4 = .ok (.iload_n 1, 1) := by decide +kernel
theorem dX7_duel_5 : decode cX7_duel 5 = .ok (.bipush 6, 2) := by decide +kernel
theorem dX7_duel_7 : decode cX7_duel 7 = .ok (.if_icmp .le 5, 3) := by decide +kernel
theorem dX7_duel_10 : decode cX7_duel 10 = .ok (.iconst (-1), 1) := by decide +kernel
theorem dX7_duel_11 : decode cX7_duel 11 = .ok (.ireturn, 1) := by decide +kernel
theorem dX7_duel_12 : decode cX7_duel 12 = .ok (.aload_n 0, 1) := by decide +kernel
theorem dX7_duel_13 : decode cX7_duel 13 = .ok (.getfield 28, 3) := by decide +kernel
theorem dX7_duel_16 : decode cX7_duel 16 = .ok (.getfield 121, 3) := by decide +kernel
theorem dX7_duel_19 : decode cX7_duel 19 = .ok (.ifCond .ne 6, 3) := by decide +kernel
theorem dX7_duel_22 : decode cX7_duel 22 = .ok (.bipush (-4), 2) := by decide +kernel
theorem dX7_duel_24 : decode cX7_duel 24 = .ok (.ireturn, 1) := by decide +kernel
theorem dX7_duel_25 : decode cX7_duel 25 = .ok (.aload_n 0, 1) := by decide +kernel
theorem dX7_duel_26 : decode cX7_duel 26 = .ok (.getfield 48, 3) := by decide +kernel
theorem dX7_duel_29 : decode cX7_duel 29 = .ok (.aload_n 0, 1) := by decide +kernel
theorem dX7_duel_30 : decode cX7_duel 30 = .ok (.getfield 28, 3) := by decide +kernel
theorem dX7_duel_33 : decode cX7_duel 33 = .ok (.iload_n 1, 1) := by decide +kernel
theorem dX7_duel_34 : decode cX7_duel 34 = .ok (.invokevirtual 278, 3) := by decide +kernel
theorem dX7_duel_37 : decode cX7_duel 37 = .ok (.ireturn, 1) := by decide +kernel
theorem dX7_odds_0 : decode cX7_odds 0 = .ok (.aload_n 0, 1) := by decide +kernel
theorem dX7_odds_1 : decode cX7_odds 1 = .ok (.iload_n 1, 1) := by decide +kernel
theorem dX7_odds_2 : decode cX7_odds 2 = .ok (.invokevirtual 282, 3) := by decide +kernel
theorem dX7_odds_5 : decode cX7_odds 5 = .ok (.istore_n 2, 1) := by decide +kernel
theorem dX7_odds_6 : decode cX7_odds 6 = .ok (.iload_n 2, 1) := by decide +kernel
theorem dX7_odds_7 : decode cX7_odds 7 = .ok (.ifCond .eq 5, 3) := by decide +kernel
theorem dX7_odds_10 : decode cX7_odds 10 = .ok (.iload_n 2, 1) := by decide +kernel
theorem dX7_odds_11 : decode cX7_odds 11 = .ok (.ireturn, 1) := by decide +kernel
theorem dX7_odds_12 : decode cX7_odds 12 = .ok (.lconst 1, 1) := by decide +kernel
theorem dX7_odds_13 : decode cX7_odds 13 = .ok (.lstore_n 3, 1) := by decide +kernel
theorem dX7_odds_14 : decode cX7_odds 14 = .ok (.lconst 1, 1) := by decide +kernel
theorem dX7_odds_15 : decode cX7_odds 15 = .ok (.lstore 5, 2) := by decide +kernel
theorem dX7_odds_17 : decode cX7_odds 17 = .ok (.iconst 0, 1) := by decide +kernel
theorem dX7_odds_18 : decode cX7_odds 18 = .ok (.istore 7, 2) := by decide +kernel
theorem dX7_odds_20 : decode cX7_odds 20 = .ok (.iload 7, 2) := by decide +kernel
theorem dX7_odds_22 : decode cX7_odds 22 = .ok (.aload_n 0, 1) := by decide +kernel
theorem dX7_odds_23 : decode cX7_odds 23 = .ok (.getfield 28, 3) := by decide +kernel
theorem dX7_odds_26 : decode cX7_odds 26 = .ok (.getfield 121, 3) := by decide +kernel
theorem dX7_odds_29 : decode cX7_odds 29 = .ok (.if_icmp .ge 55, 3) := by decide +kernel
theorem dX7_odds_32 : decode cX7_odds 32 = .ok (.aload_n 0, 1) := by decide +kernel
theorem dX7_odds_33 : decode cX7_odds 33 = .ok (.getfield 28, 3) := by decide +kernel
theorem dX7_odds_36 : decode cX7_odds 36 = .ok (.getfield 126, 3) := by decide +kernel
theorem dX7_odds_39 : decode cX7_odds 39 = .ok (.iload 7, 2) := by decide +kernel
theorem dX7_odds_41 : decode cX7_odds 41 = .ok (.aaload, 1) := by decide +kernel
theorem dX7_odds_42 : decode cX7_odds 42 = .ok (.astore 8, 2) := by decide +kernel
theorem dX7_odds_44 : decode cX7_odds 44 = .ok (.aload_n 0, 1) := by decide +kernel
theorem dX7_odds_45 : decode cX7_odds 45 = .ok (.getfield 28, 3) := by decide +kernel
theorem dX7_odds_48 : decode cX7_odds 48 = .ok (.aload 8, 2) := by decide +kernel
theorem dX7_odds_50 : decode cX7_odds 50 = .ok (.invokevirtual 241, 3) := by decide +kernel
theorem dX7_odds_53 : decode cX7_odds 53 = .ok (.ifCond .eq 25, 3) := by decide +kernel
theorem dX7_odds_56 : decode cX7_odds 56 = .ok (.lload_n 3, 1) := by decide +kernel
theorem dX7_odds_57 : decode cX7_odds 57 = .ok (.aload_n 0, 1) := by decide +kernel
theorem dX7_odds_58 : decode cX7_odds 58 = .ok (.getfield 28, 3) := by decide +kernel
theorem dX7_odds_61 : decode cX7_odds 61 = .ok (.aload 8, 2) := by decide +kernel
theorem dX7_odds_63 : decode cX7_odds 63 = .ok (.iload_n 1, 1) := by decide +kernel
theorem dX7_odds_64 : decode cX7_odds 64 = .ok (.invokevirtual 285, 3) := by decide +kernel
theorem dX7_odds_67 : decode cX7_odds 67 = .ok (.i2l, 1) := by decide +kernel
theorem dX7_odds_68 : decode cX7_odds 68 = .ok (.lmul, 1) := by decide +kernel
theorem dX7_odds_69 : decode cX7_odds 69 = .ok (.lstore_n 3, 1) := by decide +kernel
theorem dX7_odds_70 : decode cX7_odds 70 = .ok (.lload 5, 2) := by decide +kernel
theorem dX7_odds_72 : decode cX7_odds 72 = .ok (.ldc2_w 288, 3) := by decide +kernel
theorem dX7_odds_75 : decode cX7_odds 75 = .ok (.lmul, 1) := by decide +kernel
theorem dX7_odds_76 : decode cX7_odds 76 = .ok (.lstore 5, 2) := by decide +kernel
theorem dX7_odds_78 : decode cX7_odds 78 = .ok (.iinc 7 1, 3) := by decide +kernel
theorem dX7_odds_81 : decode cX7_odds 81 = .ok (.goto (-61), 3) := by decide +kernel
