theorem dX0_init_0 : decode cX0_init 0 = .ok (.aload_n 0, 1) := by decide +kernel
theorem dX0_init_1 : decode cX0_init 1 = .ok (.invokespecial 3, 3) := by decide +kernel
theorem dX0_init_4 : decode cX0_init 4 = .ok (.aload_n 0, 1) := by decide +kernel
theorem dX0_init_5 : decode cX0_init 5 = .ok (.bipush 6, 2) := by decide +kernel
theorem dX0_init_7 : decode cX0_init 7 = .ok (.anewarray 9, 3) := by decide +kernel
theorem dX0_init_10 : decode cX0_init 10 = .ok (.putfield 11, 3) := by decide +kernel
theorem dX0_init_13 : decode cX0_init 13 = .ok (.aload_n 0, 1) := by decide +kernel
theorem dX0_init_14 : decode cX0_init 14 = .ok (.new 9, 3) := by decide +kernel
theorem dX0_init_17 : decode cX0_init 17 = .ok (.dup, 1) := by decide +kernel
theorem dX0_init_18 : decode cX0_init 18 = .ok (.invokespecial 17, 3) := by decide +kernel
theorem dX0_init_21 : decode cX0_init 21 = .ok (.putfield 18, 3) := by decide +kernel
theorem dX0_init_24 : decode cX0_init 24 = .ok (.aload_n 0, 1) := by decide +kernel
theorem dX0_init_25 : decode cX0_init 25 = .ok (.new 22, 3) := by decide +kernel
theorem dX0_init_28 : decode cX0_init 28 = .ok (.dup, 1) := by decide +kernel
theorem dX0_init_29 : decode cX0_init 29 = .ok (.iconst 0, 1) := by decide +kernel
theorem dX0_init_30 : decode cX0_init 30 = .ok (.invokespecial 24, 3) := by decide +kernel
theorem dX0_init_33 : decode cX0_init 33 = .ok (.putfield 27, 3) := by decide +kernel
theorem dX0_init_36 : decode cX0_init 36 = .ok (.aload_n 0, 1) := by decide +kernel
theorem dX0_init_37 : decode cX0_init 37 = .ok (.bipush 8, 2) := by decide +kernel
theorem dX0_init_39 : decode cX0_init 39 = .ok (.putfield 31, 3) := by decide +kernel
theorem dX0_init_42 : decode cX0_init 42 = .ok (.iconst 0, 1) := by decide +kernel
theorem dX0_init_43 : decode cX0_init 43 = .ok (.istore_n 1, 1) := by decide +kernel
theorem dX0_init_44 : decode cX0_init 44 = .ok (.iload_n 1, 1) := by decide +kernel
theorem dX0_init_45 : decode cX0_init 45 = .ok (.bipush 6, 2) := by decide +kernel
theorem dX0_init_47 : decode cX0_init 47 = .ok (.if_icmp .ge 22, 3) := by decide +kernel
theorem dX0_init_50 : decode cX0_init 50 = .ok (.aload_n 0, 1) := by decide +kernel
theorem dX0_init_51 : decode cX0_init 51 = .ok (.getfield 11, 3) := by decide +kernel
theorem dX0_init_54 : decode cX0_init 54 = .ok (.iload_n 1, 1) := by decide +kernel
theorem dX0_init_55 : decode cX0_init 55 = .ok (.new 9, 3) := by decide +kernel
theorem dX0_init_58 : decode cX0_init 58 = .ok (.dup, 1) := by decide +kernel
theorem dX0_init_59 : decode cX0_init 59 = .ok (.invokespecial 17, 3) := by decide +kernel
theorem dX0_init_62 : decode cX0_init 62 = .ok (.aastore, 1) := by decide +kernel
theorem dX0_init_63 : decode cX0_init 63 = .ok (.iinc 1 1, 3) := by decide +kernel
theorem dX0_init_66 : decode cX0_init 66 = .ok (.goto (-22), 3) := by decide +kernel
theorem dX0_init_69 : decode cX0_init 69 = .ok (.return_, 1) := by decide +kernel
theorem dX0_assemble_0 : decode cX0_assemble 0 = .ok (.aload_n 1, 1) := by decide +kernel
theorem dX0_assemble_1 : decode cX0_assemble 1 = .ok (.getfield 35, 3) := by decide +kernel
theorem dX0_assemble_4 : decode cX0_assemble 4 = .ok (.astore_n 2, 1) := by decide +kernel
theorem dX0_assemble_5 : decode cX0_assemble 5 = .ok (.aload_n 0, 1) := by decide +kernel
theorem dX0_assemble_6 : decode cX0_assemble 6 = .ok (.aload_n 2, 1) := by decide +kernel
theorem dX0_assemble_7 : decode cX0_assemble 7 = .ok (.iconst 0, 1) := by decide +kernel
theorem dX0_assemble_8 : decode cX0_assemble 8 = .ok (.iaload, 1) := by decide +kernel
theorem dX0_assemble_9 : decode cX0_assemble 9 = .ok (.putfield 41, 3) := by decide +kernel
theorem dX0_assemble_12 : decode cX0_assemble 12 = .ok (.aload_n 0, 1) := by decide +kernel
theorem dX0_assemble_13 : decode cX0_assemble 13 = .ok (.aload_n 2, 1) := by decide +kernel
theorem dX0_assemble_14 : decode cX0_assemble 14 = .ok (.iconst 1, 1) := by decide +kernel
theorem dX0_assemble_15 : decode cX0_assemble 15 = .ok (.iaload, 1) := by decide +kernel
theorem dX0_assemble_16 : decode cX0_assemble 16 = .ok (.putfield 44, 3) := by decide +kernel
theorem dX0_assemble_19 : decode cX0_assemble 19 = .ok (.aload_n 0, 1) := by decide +kernel
theorem dX0_assemble_20 : decode cX0_assemble 20 = .ok (.aload_n 2, 1) := by decide +kernel
theorem dX0_assemble_21 : decode cX0_assemble 21 = .ok (.iconst 2, 1) := by decide +kernel
theorem dX0_assemble_22 : decode cX0_assemble 22 = .ok (.iaload, 1) := by decide +kernel
theorem dX0_assemble_23 : decode cX0_assemble 23 = .ok (.putfield 47, 3) := by decide +kernel
theorem dX0_assemble_26 : decode cX0_assemble 26 = .ok (.aload_n 0, 1) := by decide +kernel
theorem dX0_assemble_27 : decode cX0_assemble 27 = .ok (.aload_n 2, 1) := by decide +kernel
theorem dX0_assemble_28 : decode cX0_assemble 28 = .ok (.iconst 3, 1) := by decide +kernel
theorem dX0_assemble_29 : decode cX0_assemble 29 = .ok (.iaload, 1) := by decide +kernel
theorem dX0_assemble_30 : decode cX0_assemble 30 = .ok (.putfield 50, 3) := by decide +kernel
theorem dX0_assemble_33 : decode cX0_assemble 33 = .ok (.aload_n 0, 1) := by decide +kernel
theorem dX0_assemble_34 : decode cX0_assemble 34 = .ok (.aload_n 1, 1) := by decide +kernel
theorem dX0_assemble_35 : decode cX0_assemble 35 = .ok (.getfield 53, 3) := by decide +kernel
theorem dX0_assemble_38 : decode cX0_assemble 38 = .ok (.putfield 55, 3) := by decide +kernel
theorem dX0_assemble_41 : decode cX0_assemble 41 = .ok (.iconst 0, 1) := by decide +kernel
theorem dX0_assemble_42 : decode cX0_assemble 42 = .ok (.istore_n 3, 1) := by decide +kernel
theorem dX0_assemble_43 : decode cX0_assemble 43 = .ok (.iload_n 3, 1) := by decide +kernel
theorem dX0_assemble_44 : decode cX0_assemble 44 = .ok (.aload_n 0, 1) := by decide +kernel
theorem dX0_assemble_45 : decode cX0_assemble 45 = .ok (.getfield 55, 3) := by decide +kernel
theorem dX0_assemble_48 : decode cX0_assemble 48 = .ok (.if_icmp .ge 47, 3) := by decide +kernel
theorem dX0_assemble_51 : decode cX0_assemble 51 = .ok (.iconst 4, 1) := by decide +kernel
theorem dX0_assemble_52 : decode cX0_assemble 52 = .ok (.iconst 4, 1) := by decide +kernel
theorem dX0_assemble_53 : decode cX0_assemble 53 = .ok (.iload_n 3, 1) := by decide +kernel
theorem dX0_assemble_54 : decode cX0_assemble 54 = .ok (.imul, 1) := by decide +kernel
theorem dX0_assemble_55 : decode cX0_assemble 55 = .ok (.iadd, 1) := by decide +kernel
theorem dX0_assemble_56 : decode cX0_assemble 56 = .ok (.istore 4, 2) := by decide +kernel
theorem dX0_assemble_58 : decode cX0_assemble 58 = .ok (.aload_n 0, 1) := by decide +kernel
theorem dX0_assemble_59 : decode cX0_assemble 59 = .ok (.getfield 11, 3) := by decide +kernel
theorem dX0_assemble_62 : decode cX0_assemble 62 = .ok (.iload_n 3, 1) := by decide +kernel
theorem dX0_assemble_63 : decode cX0_assemble 63 = .ok (.aaload, 1) := by decide +kernel
theorem dX0_assemble_64 : decode cX0_assemble 64 = .ok (.aload_n 2, 1) := by decide +kernel
theorem dX0_assemble_65 : decode cX0_assemble 65 = .ok (.iload 4, 2) := by decide +kernel
theorem dX0_assemble_67 : decode cX0_assemble 67 = .ok (.iaload, 1) := by decide +kernel
theorem dX0_assemble_68 : decode cX0_assemble 68 = .ok (.aload_n 2, 1) := by decide +kernel
theorem dX0_assemble_69 : decode cX0_assemble 69 = .ok (.iload 4, 2) := by decide +kernel
theorem dX0_assemble_71 : decode cX0_assemble 71 = .ok (.iconst 1, 1) := by decide +kernel
theorem dX0_assemble_72 : decode cX0_assemble 72 = .ok (.iadd, 1) := by decide +kernel
theorem dX0_assemble_73 : decode cX0_assemble 73 = .ok (.iaload, 1) := by decide +kernel
theorem dX0_assemble_74 : decode cX0_assemble 74 = .ok (.aload_n 2, 1) := by decide +kernel
theorem dX0_assemble_75 : decode cX0_assemble 75 = .ok (.iload 4, 2) := by decide +kernel
theorem dX0_assemble_77 : decode cX0_assemble 77 = .ok (.iconst 2, 1) := by decide +kernel
theorem dX0_assemble_78 : decode cX0_assemble 78 = .ok (.iadd, 1) := by decide +kernel
theorem dX0_assemble_79 : decode cX0_assemble 79 = .ok (.iaload, 1) := by decide +kernel
theorem dX0_assemble_80 : decode cX0_assemble 80 = .ok (.aload_n 2, 1) := by decide +kernel
theorem dX0_assemble_81 : decode cX0_assemble 81 = .ok (.iload 4, 2) := by decide +kernel
theorem dX0_assemble_83 : decode cX0_assemble 83 = .ok (.iconst 3, 1) := by decide +kernel
theorem dX0_assemble_84 : decode cX0_assemble 84 = .ok (.iadd, 1) := by decide +kernel
theorem dX0_assemble_85 : decode cX0_assemble 85 = .ok (.iaload, 1) := by decide +kernel
theorem dX0_assemble_86 : decode cX0_assemble 86 = .ok (.invokevirtual 58, 3) := by decide +kernel
theorem dX0_assemble_89 : decode cX0_assemble 89 = .ok (.iinc 3 1, 3) := by decide +kernel
theorem dX0_assemble_92 : decode cX0_assemble 92 = .ok (.goto (-49), 3) := by decide +kernel
theorem dX0_assemble_95 : decode cX0_assemble 95 = .ok (.aload_n 0, 1) := by decide +kernel
theorem dX0_assemble_96 : decode cX0_assemble 96 = .ok (.getfield 27, 3) := by decide +kernel
theorem dX0_assemble_99 : decode cX0_assemble 99 = .ok (.iconst 0, 1) := by decide +kernel
theorem dX0_assemble_100 : decode cX0_assemble 100 = .ok (.putfield 62, 3) := by decide +kernel
theorem dX0_assemble_103 : decode cX0_assemble 103 = .ok (.aload_n 0, 1) := by decide +kernel
theorem dX0_assemble_104 : decode cX0_assemble 104 = .ok (.invokevirtual 63, 3) := by decide +kernel
theorem dX0_assemble_107 : decode cX0_assemble 107 = .ok (.return_, 1) := by decide +kernel
theorem dX0_detail_0 : decode cX0_detail 0 = .ok (.iload_n 2, 1) := by decide +kernel
theorem dX0_detail_1 : decode cX0_detail 1 = .ok (.tableswitch 117 0 7 #[47, 52, 57, 62, 67, 77, 94, 112], 47) := by decide +kernel
theorem dX0_detail_48 : decode cX0_detail 48 = .ok (.aload_n 1, 1) := by decide +kernel
theorem dX0_detail_49 : decode cX0_detail 49 = .ok (.getfield 66, 3) := by decide +kernel
theorem dX0_detail_52 : decode cX0_detail 52 = .ok (.ireturn, 1) := by decide +kernel
theorem dX0_detail_53 : decode cX0_detail 53 = .ok (.aload_n 1, 1) := by decide +kernel
theorem dX0_detail_54 : decode cX0_detail 54 = .ok (.getfield 69, 3) := by decide +kernel
theorem dX0_detail_57 : decode cX0_detail 57 = .ok (.ireturn, 1) := by decide +kernel
theorem dX0_detail_58 : decode cX0_detail 58 = .ok (.aload_n 1, 1) := by decide +kernel
theorem dX0_detail_59 : decode cX0_detail 59 = .ok (.getfield 72, 3) := by decide +kernel
theorem dX0_detail_62 : decode cX0_detail 62 = .ok (.ireturn, 1) := by decide +kernel
theorem dX0_detail_63 : decode cX0_detail 63 = .ok (.aload_n 1, 1) := by decide +kernel
theorem dX0_detail_64 : decode cX0_detail 64 = .ok (.invokevirtual 75, 3) := by decide +kernel
theorem dX0_detail_67 : decode cX0_detail 67 = .ok (.ireturn, 1) := by decide +kernel
theorem dX0_detail_68 : decode cX0_detail 68 = .ok (.aload_n 0, 1) := by decide +kernel
theorem dX0_detail_69 : decode cX0_detail 69 = .ok (.aload_n 1, 1) := by decide +kernel
theorem dX0_detail_70 : decode cX0_detail 70 = .ok (.aload_n 0, 1) := by decide +kernel
theorem dX0_detail_71 : decode cX0_detail 71 = .ok (.getfield 31, 3) := by decide +kernel
theorem dX0_detail_74 : decode cX0_detail 74 = .ok (.invokevirtual 79, 3) := by decide +kernel
theorem dX0_detail_77 : decode cX0_detail 77 = .ok (.ireturn, 1) := by decide +kernel
theorem dX0_detail_78 : decode cX0_detail 78 = .ok (.aload_n 1, 1) := by decide +kernel
theorem dX0_detail_79 : decode cX0_detail 79 = .ok (.aload_n 0, 1) := by decide +kernel
theorem dX0_detail_80 : decode cX0_detail 80 = .ok (.getfield 31, 3) := by decide +kernel
theorem dX0_detail_83 : decode cX0_detail 83 = .ok (.invokevirtual 83, 3) := by decide +kernel
theorem dX0_detail_86 : decode cX0_detail 86 = .ok (.ifCond .eq 7, 3) := by decide +kernel
theorem dX0_detail_89 : decode cX0_detail 89 = .ok (.iconst 1, 1) := by decide +kernel
theorem dX0_detail_90 : decode cX0_detail 90 = .ok (.goto 4, 3) := by decide +kernel
theorem dX0_detail_93 : decode cX0_detail 93 = .ok (.iconst 0, 1) := by decide +kernel
theorem dX0_detail_94 : decode cX0_detail 94 = .ok (.ireturn, 1) := by decide +kernel
theorem dX0_detail_95 : decode cX0_detail 95 = .ok (.aload_n 0, 1) := by decide +kernel
theorem dX0_detail_96 : decode cX0_detail 96 = .ok (.aload_n 1, 1) := by decide +kernel
theorem dX0_detail_97 : decode cX0_detail 97 = .ok (.aload_n 0, 1) := by decide +kernel
theorem dX0_detail_98 : decode cX0_detail 98 = .ok (.getfield 31, 3) := by decide +kernel
theorem dX0_detail_101 : decode cX0_detail 101 = .ok (.invokevirtual 87, 3) := by decide +kernel
theorem dX0_detail_104 : decode cX0_detail 104 = .ok (.ifCond .gt 7, 3) := by decide +kernel
theorem dX0_detail_107 : decode cX0_detail 107 = .ok (.iconst 1, 1) := by decide +kernel
theorem dX0_detail_108 : decode cX0_detail 108 = .ok (.goto 4, 3) := by decide +kernel
theorem dX0_detail_111 : decode cX0_detail 111 = .ok (.iconst 0, 1) := by decide +kernel
theorem dX0_detail_112 : decode cX0_detail 112 = .ok (.ireturn, 1) := by decide +kernel
theorem dX0_detail_113 : decode cX0_detail 113 = .ok (.aload_n 1, 1) := by decide +kernel
theorem dX0_detail_114 : decode cX0_detail 114 = .ok (.getfield 90, 3) := by decide +kernel
theorem dX0_detail_117 : decode cX0_detail 117 = .ok (.ireturn, 1) := by decide +kernel
theorem dX0_detail_118 : decode cX0_detail 118 = .ok (.aload_n 1, 1) := by decide +kernel
theorem dX0_detail_119 : decode cX0_detail 119 = .ok (.getfield 93, 3) := by decide +kernel
theorem dX0_detail_122 : decode cX0_detail 122 = .ok (.ireturn, 1) := by decide +kernel
theorem dX0_perform_0 : decode cX0_perform 0 = .ok (.aload_n 0, 1) := by decide +kernel
theorem dX0_perform_1 : decode cX0_perform 1 = .ok (.getfield 27, 3) := by decide +kernel
theorem dX0_perform_4 : decode cX0_perform 4 = .ok (.iload_n 1, 1) := by decide +kernel
theorem dX0_perform_5 : decode cX0_perform 5 = .ok (.iload_n 2, 1) := by decide +kernel
theorem dX0_perform_6 : decode cX0_perform 6 = .ok (.invokevirtual 96, 3) := by decide +kernel
theorem dX0_perform_9 : decode cX0_perform 9 = .ok (.aload_n 0, 1) := by decide +kernel
theorem dX0_perform_10 : decode cX0_perform 10 = .ok (.iload_n 1, 1) := by decide +kernel
theorem dX0_perform_11 : decode cX0_perform 11 = .ok (.iload_n 2, 1) := by decide +kernel
theorem dX0_perform_12 : decode cX0_perform 12 = .ok (.invokevirtual 100, 3) := by decide +kernel
theorem dX0_perform_15 : decode cX0_perform 15 = .ok (.return_, 1) := by decide +kernel
theorem dX0_actAgain_0 : decode cX0_actAgain 0 = .ok (.aload_n 0, 1) := by decide +kernel
theorem dX0_actAgain_1 : decode cX0_actAgain 1 = .ok (.bipush 8, 2) := by decide +kernel
theorem dX0_actAgain_3 : decode cX0_actAgain 3 = .ok (.putfield 31, 3) := by decide +kernel
theorem dX0_actAgain_6 : decode cX0_actAgain 6 = .ok (.iconst 0, 1) := by decide +kernel
theorem dX0_actAgain_7 : decode cX0_actAgain 7 = .ok (.istore_n 1, 1) := by decide +kernel
theorem dX0_actAgain_8 : decode cX0_actAgain 8 = .ok (.iload_n 1, 1) := by decide +kernel
theorem dX0_actAgain_9 : decode cX0_actAgain 9 = .ok (.aload_n 0, 1) := by decide +kernel
theorem dX0_actAgain_10 : decode cX0_actAgain 10 = .ok (.getfield 55, 3) := by decide +kernel
theorem dX0_actAgain_13 : decode cX0_actAgain 13 = .ok (.if_icmp .ge 18, 3) := by decide +kernel
theorem dX0_actAgain_16 : decode cX0_actAgain 16 = .ok (.aload_n 0, 1) := by decide +kernel
theorem dX0_actAgain_17 : decode cX0_actAgain 17 = .ok (.getfield 11, 3) := by decide +kernel
theorem dX0_actAgain_20 : decode cX0_actAgain 20 = .ok (.iload_n 1, 1) := by decide +kernel
theorem dX0_actAgain_21 : decode cX0_actAgain 21 = .ok (.aaload, 1) := by decide +kernel
theorem dX0_actAgain_22 : decode cX0_actAgain 22 = .ok (.invokevirtual 103, 3) := by decide +kernel
theorem dX0_actAgain_25 : decode cX0_actAgain 25 = .ok (.iinc 1 1, 3) := by decide +kernel
theorem dX0_actAgain_28 : decode cX0_actAgain 28 = .ok (.goto (-20), 3) := by decide +kernel
theorem dX0_actAgain_31 : decode cX0_actAgain 31 = .ok (.iconst 0, 1) := by decide +kernel
theorem dX0_actAgain_32 : decode cX0_actAgain 32 = .ok (.istore_n 1, 1) := by decide +kernel
theorem dX0_actAgain_33 : decode cX0_actAgain 33 = .ok (.iload_n 1, 1) := by decide +kernel
theorem dX0_actAgain_34 : decode cX0_actAgain 34 = .ok (.aload_n 0, 1) := by decide +kernel
theorem dX0_actAgain_35 : decode cX0_actAgain 35 = .ok (.getfield 27, 3) := by decide +kernel
theorem dX0_actAgain_38 : decode cX0_actAgain 38 = .ok (.getfield 62, 3) := by decide +kernel
theorem dX0_actAgain_41 : decode cX0_actAgain 41 = .ok (.if_icmp .ge 31, 3) := by decide +kernel
theorem dX0_actAgain_44 : decode cX0_actAgain 44 = .ok (.aload_n 0, 1) := by decide +kernel
theorem dX0_actAgain_45 : decode cX0_actAgain 45 = .ok (.aload_n 0, 1) := by decide +kernel
theorem dX0_actAgain_46 : decode cX0_actAgain 46 = .ok (.getfield 27, 3) := by decide +kernel
theorem dX0_actAgain_49 : decode cX0_actAgain 49 = .ok (.getfield 106, 3) := by decide +kernel
theorem dX0_actAgain_52 : decode cX0_actAgain 52 = .ok (.iload_n 1, 1) := by decide +kernel
theorem dX0_actAgain_53 : decode cX0_actAgain 53 = .ok (.iaload, 1) := by decide +kernel
theorem dX0_actAgain_54 : decode cX0_actAgain 54 = .ok (.aload_n 0, 1) := by decide +kernel
theorem dX0_actAgain_55 : decode cX0_actAgain 55 = .ok (.getfield 27, 3) := by decide +kernel
theorem dX0_actAgain_58 : decode cX0_actAgain 58 = .ok (.getfield 109, 3) := by decide +kernel
theorem dX0_actAgain_61 : decode cX0_actAgain 61 = .ok (.iload_n 1, 1) := by decide +kernel
theorem dX0_actAgain_62 : decode cX0_actAgain 62 = .ok (.iaload, 1) := by decide +kernel
theorem dX0_actAgain_63 : decode cX0_actAgain 63 = .ok (.invokevirtual 100, 3) := by decide +kernel
theorem dX0_actAgain_66 : decode cX0_actAgain 66 = .ok (.iinc 1 1, 3) := by decide +kernel
theorem dX0_actAgain_69 : decode cX0_actAgain 69 = .ok (.goto (-36), 3) := by decide +kernel
theorem dX0_actAgain_72 : decode cX0_actAgain 72 = .ok (.return_, 1) := by decide +kernel
theorem dX0_act_0 : decode cX0_act 0 = .ok (.iload_n 1, 1) := by decide +kernel
theorem dX0_act_1 : decode cX0_act 1 = .ok (.tableswitch 116 0 2 #[27, 43, 61], 27) := by decide +kernel
theorem dX0_act_28 : decode cX0_act 28 = .ok (.aload_n 0, 1) := by decide +kernel
theorem dX0_act_29 : decode cX0_act 29 = .ok (.aload_n 0, 1) := by decide +kernel
theorem dX0_act_30 : decode cX0_act 30 = .ok (.getfield 31, 3) := by decide +kernel
theorem dX0_act_33 : decode cX0_act 33 = .ok (.iload_n 2, 1) := by decide +kernel
theorem dX0_act_34 : decode cX0_act 34 = .ok (.iadd, 1) := by decide +kernel
theorem dX0_act_35 : decode cX0_act 35 = .ok (.invokestatic 112, 3) := by decide +kernel
theorem dX0_act_38 : decode cX0_act 38 = .ok (.putfield 31, 3) := by decide +kernel
theorem dX0_act_41 : decode cX0_act 41 = .ok (.goto 76, 3) := by decide +kernel
theorem dX0_act_44 : decode cX0_act 44 = .ok (.aload_n 0, 1) := by decide +kernel
theorem dX0_act_45 : decode cX0_act 45 = .ok (.getfield 11, 3) := by decide +kernel
theorem dX0_act_48 : decode cX0_act 48 = .ok (.iload_n 2, 1) := by decide +kernel
theorem dX0_act_49 : decode cX0_act 49 = .ok (.aaload, 1) := by decide +kernel
theorem dX0_act_50 : decode cX0_act 50 = .ok (.dup, 1) := by decide +kernel
theorem dX0_act_51 : decode cX0_act 51 = .ok (.getfield 90, 3) := by decide +kernel
theorem dX0_act_54 : decode cX0_act 54 = .ok (.iconst 1, 1) := by decide +kernel
theorem dX0_act_55 : decode cX0_act 55 = .ok (.iadd, 1) := by decide +kernel
theorem dX0_act_56 : decode cX0_act 56 = .ok (.putfield 90, 3) := by decide +kernel
theorem dX0_act_59 : decode cX0_act 59 = .ok (.goto 58, 3) := by decide +kernel
theorem dX0_act_62 : decode cX0_act 62 = .ok (.aload_n 0, 1) := by decide +kernel
theorem dX0_act_63 : decode cX0_act 63 = .ok (.getfield 11, 3) := by decide +kernel
theorem dX0_act_66 : decode cX0_act 66 = .ok (.iload_n 2, 1) := by decide +kernel
theorem dX0_act_67 : decode cX0_act 67 = .ok (.aaload, 1) := by decide +kernel
theorem dX0_act_68 : decode cX0_act 68 = .ok (.astore_n 3, 1) := by decide +kernel
theorem dX0_act_69 : decode cX0_act 69 = .ok (.aload_n 3, 1) := by decide +kernel
theorem dX0_act_70 : decode cX0_act 70 = .ok (.aload_n 0, 1) := by decide +kernel
theorem dX0_act_71 : decode cX0_act 71 = .ok (.aload_n 3, 1) := by decide +kernel
theorem dX0_act_72 : decode cX0_act 72 = .ok (.aload_n 0, 1) := by decide +kernel
theorem dX0_act_73 : decode cX0_act 73 = .ok (.getfield 31, 3) := by decide +kernel
theorem dX0_act_76 : decode cX0_act 76 = .ok (.invokevirtual 116, 3) := by decide +kernel
theorem dX0_act_79 : decode cX0_act 79 = .ok (.putfield 93, 3) := by decide +kernel
theorem dX0_act_82 : decode cX0_act 82 = .ok (.aload_n 3, 1) := by decide +kernel
theorem dX0_act_83 : decode cX0_act 83 = .ok (.aload_n 3, 1) := by decide +kernel
theorem dX0_act_84 : decode cX0_act 84 = .ok (.aload_n 3, 1) := by decide +kernel
theorem dX0_act_85 : decode cX0_act 85 = .ok (.getfield 93, 3) := by decide +kernel
theorem dX0_act_88 : decode cX0_act 88 = .ok (.invokevirtual 118, 3) := by decide +kernel
theorem dX0_act_91 : decode cX0_act 91 = .ok (.putfield 121, 3) := by decide +kernel
theorem dX0_act_94 : decode cX0_act 94 = .ok (.aload_n 0, 1) := by decide +kernel
theorem dX0_act_95 : decode cX0_act 95 = .ok (.aload_n 0, 1) := by decide +kernel
theorem dX0_act_96 : decode cX0_act 96 = .ok (.aload_n 3, 1) := by decide +kernel
theorem dX0_act_97 : decode cX0_act 97 = .ok (.getfield 93, 3) := by decide +kernel
theorem dX0_act_100 : decode cX0_act 100 = .ok (.aload_n 0, 1) := by decide +kernel
theorem dX0_act_101 : decode cX0_act 101 = .ok (.invokevirtual 125, 3) := by decide +kernel
theorem dX0_act_104 : decode cX0_act 104 = .ok (.aload_n 0, 1) := by decide +kernel
theorem dX0_act_105 : decode cX0_act 105 = .ok (.getfield 31, 3) := by decide +kernel
theorem dX0_act_108 : decode cX0_act 108 = .ok (.invokevirtual 128, 3) := by decide +kernel
theorem dX0_act_111 : decode cX0_act 111 = .ok (.putfield 31, 3) := by decide +kernel
theorem dX0_act_114 : decode cX0_act 114 = .ok (.goto 3, 3) := by decide +kernel
theorem dX0_act_117 : decode cX0_act 117 = .ok (.return_, 1) := by decide +kernel
theorem dX0_heatBehind_0 : decode cX0_heatBehind 0 = .ok (.iload_n 1, 1) := by decide +kernel
theorem dX0_heatBehind_1 : decode cX0_heatBehind 1 = .ok (.iconst 1, 1) := by decide +kernel
theorem dX0_heatBehind_2 : decode cX0_heatBehind 2 = .ok (.if_icmp .ne 20, 3) := by decide +kernel
theorem dX0_heatBehind_5 : decode cX0_heatBehind 5 = .ok (.iload_n 2, 1) := by decide +kernel
theorem dX0_heatBehind_6 : decode cX0_heatBehind 6 = .ok (.aload_n 0, 1) := by decide +kernel
theorem dX0_heatBehind_7 : decode cX0_heatBehind 7 = .ok (.getfield 50, 3) := by decide +kernel
theorem dX0_heatBehind_10 : decode cX0_heatBehind 10 = .ok (.if_icmp .lt 12, 3) := by decide +kernel
theorem dX0_heatBehind_13 : decode cX0_heatBehind 13 = .ok (.iload_n 3, 1) := by decide +kernel
theorem dX0_heatBehind_14 : decode cX0_heatBehind 14 = .ok (.iconst 5, 1) := by decide +kernel
theorem dX0_heatBehind_15 : decode cX0_heatBehind 15 = .ok (.iadd, 1) := by decide +kernel
theorem dX0_heatBehind_16 : decode cX0_heatBehind 16 = .ok (.invokestatic 112, 3) := by decide +kernel
theorem dX0_heatBehind_19 : decode cX0_heatBehind 19 = .ok (.goto 4, 3) := by decide +kernel
theorem dX0_heatBehind_22 : decode cX0_heatBehind 22 = .ok (.iload_n 3, 1) := by decide +kernel
theorem dX0_heatBehind_23 : decode cX0_heatBehind 23 = .ok (.ireturn, 1) := by decide +kernel
theorem dX0_keptHeat_0 : decode cX0_keptHeat 0 = .ok (.iconst 0, 1) := by decide +kernel
theorem dX0_keptHeat_1 : decode cX0_keptHeat 1 = .ok (.bipush 30, 2) := by decide +kernel
theorem dX0_keptHeat_3 : decode cX0_keptHeat 3 = .ok (.iload_n 0, 1) := by decide +kernel
theorem dX0_keptHeat_4 : decode cX0_keptHeat 4 = .ok (.invokestatic 132, 3) := by decide +kernel
theorem dX0_keptHeat_7 : decode cX0_keptHeat 7 = .ok (.invokestatic 138, 3) := by decide +kernel
theorem dX0_keptHeat_10 : decode cX0_keptHeat 10 = .ok (.ireturn, 1) := by decide +kernel
theorem dX0_felt_0 : decode cX0_felt 0 = .ok (.iload_n 2, 1) := by decide +kernel
theorem dX0_felt_1 : decode cX0_felt 1 = .ok (.istore_n 3, 1) := by decide +kernel
theorem dX0_felt_2 : decode cX0_felt 2 = .ok (.aload_n 1, 1) := by decide +kernel
theorem dX0_felt_3 : decode cX0_felt 3 = .ok (.getfield 72, 3) := by decide +kernel
theorem dX0_felt_6 : decode cX0_felt 6 = .ok (.iconst 5, 1) := by decide +kernel
theorem dX0_felt_7 : decode cX0_felt 7 = .ok (.if_icmp .lt 22, 3) := by decide +kernel
theorem dX0_felt_10 : decode cX0_felt 10 = .ok (.iload_n 2, 1) := by decide +kernel
theorem dX0_felt_11 : decode cX0_felt 11 = .ok (.aload_n 0, 1) := by decide +kernel
theorem dX0_felt_12 : decode cX0_felt 12 = .ok (.getfield 44, 3) := by decide +kernel
theorem dX0_felt_15 : decode cX0_felt 15 = .ok (.if_icmp .le 12, 3) := by decide +kernel
theorem dX0_felt_18 : decode cX0_felt 18 = .ok (.iload_n 2, 1) := by decide +kernel
theorem dX0_felt_19 : decode cX0_felt 19 = .ok (.aload_n 0, 1) := by decide +kernel
theorem dX0_felt_20 : decode cX0_felt 20 = .ok (.getfield 44, 3) := by decide +kernel
theorem dX0_felt_23 : decode cX0_felt 23 = .ok (.isub, 1) := by decide +kernel
theorem dX0_felt_24 : decode cX0_felt 24 = .ok (.goto 4, 3) := by decide +kernel
theorem dX0_felt_27 : decode cX0_felt 27 = .ok (.iconst 0, 1) := by decide +kernel
theorem dX0_felt_28 : decode cX0_felt 28 = .ok (.istore_n 3, 1) := by decide +kernel
theorem dX0_felt_29 : decode cX0_felt 29 = .ok (.aload_n 1, 1) := by decide +kernel
theorem dX0_felt_30 : decode cX0_felt 30 = .ok (.getfield 66, 3) := by decide +kernel
theorem dX0_felt_33 : decode cX0_felt 33 = .ok (.iconst 5, 1) := by decide +kernel
theorem dX0_felt_34 : decode cX0_felt 34 = .ok (.if_icmp .ne 9, 3) := by decide +kernel
theorem dX0_felt_37 : decode cX0_felt 37 = .ok (.iload_n 3, 1) := by decide +kernel
theorem dX0_felt_38 : decode cX0_felt 38 = .ok (.iconst 2, 1) := by decide +kernel
theorem dX0_felt_39 : decode cX0_felt 39 = .ok (.idiv, 1) := by decide +kernel
theorem dX0_felt_40 : decode cX0_felt 40 = .ok (.goto 4, 3) := by decide +kernel
theorem dX0_felt_43 : decode cX0_felt 43 = .ok (.iload_n 3, 1) := by decide +kernel
theorem dX0_felt_44 : decode cX0_felt 44 = .ok (.ireturn, 1) := by decide +kernel
theorem dX0_burn_0 : decode cX0_burn 0 = .ok (.iconst 0, 1) := by decide +kernel
theorem dX0_burn_1 : decode cX0_burn 1 = .ok (.aload_n 0, 1) := by decide +kernel
theorem dX0_burn_2 : decode cX0_burn 2 = .ok (.getfield 41, 3) := by decide +kernel
theorem dX0_burn_5 : decode cX0_burn 5 = .ok (.aload_n 0, 1) := by decide +kernel
theorem dX0_burn_6 : decode cX0_burn 6 = .ok (.aload_n 1, 1) := by decide +kernel
theorem dX0_burn_7 : decode cX0_burn 7 = .ok (.iload_n 2, 1) := by decide +kernel
theorem dX0_burn_8 : decode cX0_burn 8 = .ok (.invokevirtual 141, 3) := by decide +kernel
theorem dX0_burn_11 : decode cX0_burn 11 = .ok (.imul, 1) := by decide +kernel
theorem dX0_burn_12 : decode cX0_burn 12 = .ok (.aload_n 1, 1) := by decide +kernel
theorem dX0_burn_13 : decode cX0_burn 13 = .ok (.invokevirtual 75, 3) := by decide +kernel
theorem dX0_burn_16 : decode cX0_burn 16 = .ok (.isub, 1) := by decide +kernel
theorem dX0_burn_17 : decode cX0_burn 17 = .ok (.invokestatic 138, 3) := by decide +kernel
theorem dX0_burn_20 : decode cX0_burn 20 = .ok (.ireturn, 1) := by decide +kernel
theorem dX0_lacking_0 : decode cX0_lacking 0 = .ok (.aload_n 0, 1) := by decide +kernel
theorem dX0_lacking_1 : decode cX0_lacking 1 = .ok (.aload_n 1, 1) := by decide +kernel
theorem dX0_lacking_2 : decode cX0_lacking 2 = .ok (.iload_n 2, 1) := by decide +kernel
theorem dX0_lacking_3 : decode cX0_lacking 3 = .ok (.invokevirtual 79, 3) := by decide +kernel
theorem dX0_lacking_6 : decode cX0_lacking 6 = .ok (.aload_n 0, 1) := by decide +kernel
theorem dX0_lacking_7 : decode cX0_lacking 7 = .ok (.getfield 47, 3) := by decide +kernel
theorem dX0_lacking_10 : decode cX0_lacking 10 = .ok (.isub, 1) := by decide +kernel
theorem dX0_lacking_11 : decode cX0_lacking 11 = .ok (.iconst 2, 1) := by decide +kernel
theorem dX0_lacking_12 : decode cX0_lacking 12 = .ok (.aload_n 1, 1) := by decide +kernel
theorem dX0_lacking_13 : decode cX0_lacking 13 = .ok (.getfield 90, 3) := by decide +kernel
theorem dX0_lacking_16 : decode cX0_lacking 16 = .ok (.imul, 1) := by decide +kernel
theorem dX0_lacking_17 : decode cX0_lacking 17 = .ok (.isub, 1) := by decide +kernel
theorem dX0_lacking_18 : decode cX0_lacking 18 = .ok (.ireturn, 1) := by decide +kernel
theorem dX0_verdict_0 : decode cX0_verdict 0 = .ok (.aload_n 1, 1) := by decide +kernel
theorem dX0_verdict_1 : decode cX0_verdict 1 = .ok (.iload_n 2, 1) := by decide +kernel
theorem dX0_verdict_2 : decode cX0_verdict 2 = .ok (.invokevirtual 83, 3) := by decide +kernel
theorem dX0_verdict_5 : decode cX0_verdict 5 = .ok (.ifCond .ne 5, 3) := by decide +kernel
theorem dX0_verdict_8 : decode cX0_verdict 8 = .ok (.iconst 2, 1) := by decide +kernel
theorem dX0_verdict_9 : decode cX0_verdict 9 = .ok (.ireturn, 1) := by decide +kernel
theorem dX0_verdict_10 : decode cX0_verdict 10 = .ok (.aload_n 0, 1) := by decide +kernel
theorem dX0_verdict_11 : decode cX0_verdict 11 = .ok (.aload_n 1, 1) := by decide +kernel
theorem dX0_verdict_12 : decode cX0_verdict 12 = .ok (.iload_n 2, 1) := by decide +kernel
theorem dX0_verdict_13 : decode cX0_verdict 13 = .ok (.invokevirtual 87, 3) := by decide +kernel
theorem dX0_verdict_16 : decode cX0_verdict 16 = .ok (.ifCond .le 7, 3) := by decide +kernel
theorem dX0_verdict_19 : decode cX0_verdict 19 = .ok (.iconst 0, 1) := by decide +kernel
theorem dX0_verdict_20 : decode cX0_verdict 20 = .ok (.goto 4, 3) := by decide +kernel
theorem dX0_verdict_23 : decode cX0_verdict 23 = .ok (.iconst 1, 1) := by decide +kernel
theorem dX0_verdict_24 : decode cX0_verdict 24 = .ok (.ireturn, 1) := by decide +kernel
theorem dX0_mustBeCleared_0 : decode cX0_mustBeCleared 0 = .ok (.aload_n 1, 1) := by decide +kernel
theorem dX0_mustBeCleared_1 : decode cX0_mustBeCleared 1 = .ok (.invokevirtual 144, 3) := by decide +kernel
theorem dX0_mustBeCleared_4 : decode cX0_mustBeCleared 4 = .ok (.ifCond .ne 25, 3) := by decide +kernel
theorem dX0_mustBeCleared_7 : decode cX0_mustBeCleared 7 = .ok (.aload_n 1, 1) := by decide +kernel
theorem dX0_mustBeCleared_8 : decode cX0_mustBeCleared 8 = .ok (.getfield 69, 3) := by decide +kernel
theorem dX0_mustBeCleared_11 : decode cX0_mustBeCleared 11 = .ok (.ifCond .ne 18, 3) := by decide +kernel
theorem dX0_mustBeCleared_14 : decode cX0_mustBeCleared 14 = .ok (.aload_n 1, 1) := by decide +kernel
theorem dX0_mustBeCleared_15 : decode cX0_mustBeCleared 15 = .ok (.aload_n 0, 1) := by decide +kernel
theorem dX0_mustBeCleared_16 : decode cX0_mustBeCleared 16 = .ok (.getfield 31, 3) := by decide +kernel
theorem dX0_mustBeCleared_19 : decode cX0_mustBeCleared 19 = .ok (.invokevirtual 83, 3) := by decide +kernel
theorem dX0_mustBeCleared_22 : decode cX0_mustBeCleared 22 = .ok (.ifCond .eq 7, 3) := by decide +kernel
theorem dX0_mustBeCleared_25 : decode cX0_mustBeCleared 25 = .ok (.iconst 1, 1) := by decide +kernel
theorem dX0_mustBeCleared_26 : decode cX0_mustBeCleared 26 = .ok (.goto 4, 3) := by decide +kernel
theorem dX0_mustBeCleared_29 : decode cX0_mustBeCleared 29 = .ok (.iconst 0, 1) := by decide +kernel
theorem dX0_mustBeCleared_30 : decode cX0_mustBeCleared 30 = .ok (.ireturn, 1) := by decide +kernel
theorem dX0_salveNeeded_0 : decode cX0_salveNeeded 0 = .ok (.iconst 0, 1) := by decide +kernel
theorem dX0_salveNeeded_1 : decode cX0_salveNeeded 1 = .ok (.aload_n 0, 1) := by decide +kernel
theorem dX0_salveNeeded_2 : decode cX0_salveNeeded 2 = .ok (.aload_n 1, 1) := by decide +kernel
theorem dX0_salveNeeded_3 : decode cX0_salveNeeded 3 = .ok (.aload_n 0, 1) := by decide +kernel
theorem dX0_salveNeeded_4 : decode cX0_salveNeeded 4 = .ok (.getfield 31, 3) := by decide +kernel
theorem dX0_salveNeeded_7 : decode cX0_salveNeeded 7 = .ok (.invokevirtual 87, 3) := by decide +kernel
theorem dX0_salveNeeded_10 : decode cX0_salveNeeded 10 = .ok (.iconst 1, 1) := by decide +kernel
theorem dX0_salveNeeded_11 : decode cX0_salveNeeded 11 = .ok (.iadd, 1) := by decide +kernel
theorem dX0_salveNeeded_12 : decode cX0_salveNeeded 12 = .ok (.iconst 2, 1) := by decide +kernel
theorem dX0_salveNeeded_13 : decode cX0_salveNeeded 13 = .ok (.idiv, 1) := by decide +kernel
theorem dX0_salveNeeded_14 : decode cX0_salveNeeded 14 = .ok (.invokestatic 138, 3) := by decide +kernel
theorem dX0_salveNeeded_17 : decode cX0_salveNeeded 17 = .ok (.ireturn, 1) := by decide +kernel
theorem dX0_cleanChances_0 : decode cX0_cleanChances 0 = .ok (.aload_n 0, 1) := by decide +kernel
theorem dX0_cleanChances_1 : decode cX0_cleanChances 1 = .ok (.aload_n 1, 1) := by decide +kernel
theorem dX0_cleanChances_2 : decode cX0_cleanChances 2 = .ok (.aload_n 0, 1) := by decide +kernel
theorem dX0_cleanChances_3 : decode cX0_cleanChances 3 = .ok (.getfield 31, 3) := by decide +kernel
theorem dX0_cleanChances_6 : decode cX0_cleanChances 6 = .ok (.invokevirtual 87, 3) := by decide +kernel
theorem dX0_cleanChances_9 : decode cX0_cleanChances 9 = .ok (.istore_n 3, 1) := by decide +kernel
theorem dX0_cleanChances_10 : decode cX0_cleanChances 10 = .ok (.iload_n 3, 1) := by decide +kernel
theorem dX0_cleanChances_11 : decode cX0_cleanChances 11 = .ok (.ifCond .le 5, 3) := by decide +kernel
theorem dX0_cleanChances_14 : decode cX0_cleanChances 14 = .ok (.iconst 0, 1) := by decide +kernel
theorem dX0_cleanChances_15 : decode cX0_cleanChances 15 = .ok (.ireturn, 1) := by decide +kernel
theorem dX0_cleanChances_16 : decode cX0_cleanChances 16 = .ok (.iload_n 3, 1) := by decide +kernel
theorem dX0_cleanChances_17 : decode cX0_cleanChances 17 = .ok (.iconst 3, 1) := by decide +kernel
theorem dX0_cleanChances_18 : decode cX0_cleanChances 18 = .ok (.iadd, 1) := by decide +kernel
theorem dX0_cleanChances_19 : decode cX0_cleanChances 19 = .ok (.ifCond .le 10, 3) := by decide +kernel
theorem dX0_cleanChances_22 : decode cX0_cleanChances 22 = .ok (.bipush 12, 2) := by decide +kernel
theorem dX0_cleanChances_24 : decode cX0_cleanChances 24 = .ok (.iload_n 2, 1) := by decide +kernel
theorem dX0_cleanChances_25 : decode cX0_cleanChances 25 = .ok (.isub, 1) := by decide +kernel
theorem dX0_cleanChances_26 : decode cX0_cleanChances 26 = .ok (.goto 5, 3) := by decide +kernel
theorem dX0_cleanChances_29 : decode cX0_cleanChances 29 = .ok (.bipush 12, 2) := by decide +kernel
theorem dX0_cleanChances_31 : decode cX0_cleanChances 31 = .ok (.ireturn, 1) := by decide +kernel
theorem dX0_likeOf_0 : decode cX0_likeOf 0 = .ok (.aload_n 0, 1) := by decide +kernel
theorem dX0_likeOf_1 : decode cX0_likeOf 1 = .ok (.getfield 18, 3) := by decide +kernel
theorem dX0_likeOf_4 : decode cX0_likeOf 4 = .ok (.aload_n 1, 1) := by decide +kernel
theorem dX0_likeOf_5 : decode cX0_likeOf 5 = .ok (.getfield 66, 3) := by decide +kernel
theorem dX0_likeOf_8 : decode cX0_likeOf 8 = .ok (.aload_n 1, 1) := by decide +kernel
theorem dX0_likeOf_9 : decode cX0_likeOf 9 = .ok (.getfield 69, 3) := by decide +kernel
theorem dX0_likeOf_12 : decode cX0_likeOf 12 = .ok (.aload_n 1, 1) := by decide +kernel
theorem dX0_likeOf_13 : decode cX0_likeOf 13 = .ok (.getfield 72, 3) := by decide +kernel
theorem dX0_likeOf_16 : decode cX0_likeOf 16 = .ok (.aload_n 1, 1) := by decide +kernel
theorem dX0_likeOf_17 : decode cX0_likeOf 17 = .ok (.getfield 148, 3) := by decide +kernel
theorem dX0_likeOf_20 : decode cX0_likeOf 20 = .ok (.invokevirtual 58, 3) := by decide +kernel
theorem dX0_likeOf_23 : decode cX0_likeOf 23 = .ok (.aload_n 0, 1) := by decide +kernel
theorem dX0_likeOf_24 : decode cX0_likeOf 24 = .ok (.getfield 18, 3) := by decide +kernel
theorem dX0_likeOf_27 : decode cX0_likeOf 27 = .ok (.aload_n 1, 1) := by decide +kernel
theorem dX0_likeOf_28 : decode cX0_likeOf 28 = .ok (.getfield 90, 3) := by decide +kernel
theorem dX0_likeOf_31 : decode cX0_likeOf 31 = .ok (.putfield 90, 3) := by decide +kernel
theorem dX0_likeOf_34 : decode cX0_likeOf 34 = .ok (.aload_n 0, 1) := by decide +kernel
theorem dX0_likeOf_35 : decode cX0_likeOf 35 = .ok (.getfield 18, 3) := by decide +kernel
theorem dX0_likeOf_38 : decode cX0_likeOf 38 = .ok (.areturn, 1) := by decide +kernel
theorem dX0_wouldTell_0 : decode cX0_wouldTell 0 = .ok (.iconst 0, 1) := by decide +kernel
theorem dX0_wouldTell_1 : decode cX0_wouldTell 1 = .ok (.istore_n 3, 1) := by decide +kernel
theorem dX0_wouldTell_2 : decode cX0_wouldTell 2 = .ok (.iload_n 3, 1) := by decide +kernel
theorem dX0_wouldTell_3 : decode cX0_wouldTell 3 = .ok (.iconst 1, 1) := by decide +kernel
theorem dX0_wouldTell_4 : decode cX0_wouldTell 4 = .ok (.iadd, 1) := by decide +kernel
theorem dX0_wouldTell_5 : decode cX0_wouldTell 5 = .ok (.aload_n 2, 1) := by decide +kernel
theorem dX0_wouldTell_6 : decode cX0_wouldTell 6 = .ok (.getfield 155, 3) := by decide +kernel
theorem dX0_wouldTell_9 : decode cX0_wouldTell 9 = .ok (.if_icmp .ge 33, 3) := by decide +kernel
theorem dX0_wouldTell_12 : decode cX0_wouldTell 12 = .ok (.aload_n 0, 1) := by decide +kernel
theorem dX0_wouldTell_13 : decode cX0_wouldTell 13 = .ok (.aload_n 1, 1) := by decide +kernel
theorem dX0_wouldTell_14 : decode cX0_wouldTell 14 = .ok (.aload_n 2, 1) := by decide +kernel
theorem dX0_wouldTell_15 : decode cX0_wouldTell 15 = .ok (.getfield 158, 3) := by decide +kernel
theorem dX0_wouldTell_18 : decode cX0_wouldTell 18 = .ok (.iload_n 3, 1) := by decide +kernel
theorem dX0_wouldTell_19 : decode cX0_wouldTell 19 = .ok (.iaload, 1) := by decide +kernel
theorem dX0_wouldTell_20 : decode cX0_wouldTell 20 = .ok (.invokevirtual 116, 3) := by decide +kernel
theorem dX0_wouldTell_23 : decode cX0_wouldTell 23 = .ok (.aload_n 2, 1) := by decide +kernel
theorem dX0_wouldTell_24 : decode cX0_wouldTell 24 = .ok (.getfield 158, 3) := by decide +kernel
theorem dX0_wouldTell_27 : decode cX0_wouldTell 27 = .ok (.iload_n 3, 1) := by decide +kernel
theorem dX0_wouldTell_28 : decode cX0_wouldTell 28 = .ok (.iconst 1, 1) := by decide +kernel
theorem dX0_wouldTell_29 : decode cX0_wouldTell 29 = .ok (.iadd, 1) := by decide +kernel
theorem dX0_wouldTell_30 : decode cX0_wouldTell 30 = .ok (.iaload, 1) := by decide +kernel
theorem dX0_wouldTell_31 : decode cX0_wouldTell 31 = .ok (.if_icmp .eq 5, 3) := by decide +kernel
theorem dX0_wouldTell_34 : decode cX0_wouldTell 34 = .ok (.iconst 0, 1) := by decide +kernel
theorem dX0_wouldTell_35 : decode cX0_wouldTell 35 = .ok (.ireturn, 1) := by decide +kernel
theorem dX0_wouldTell_36 : decode cX0_wouldTell 36 = .ok (.iinc 3 2, 3) := by decide +kernel
theorem dX0_wouldTell_39 : decode cX0_wouldTell 39 = .ok (.goto (-37), 3) := by decide +kernel
theorem dX0_wouldTell_42 : decode cX0_wouldTell 42 = .ok (.iconst 1, 1) := by decide +kernel
theorem dX0_wouldTell_43 : decode cX0_wouldTell 43 = .ok (.ireturn, 1) := by decide +kernel
theorem dX0_guiltyWrongly_0 : decode cX0_guiltyWrongly 0 = .ok (.iconst 0, 1) := by decide +kernel
theorem dX0_guiltyWrongly_1 : decode cX0_guiltyWrongly 1 = .ok (.istore_n 2, 1) := by decide +kernel
theorem dX0_guiltyWrongly_2 : decode cX0_guiltyWrongly 2 = .ok (.iconst 0, 1) := by decide +kernel
theorem dX0_guiltyWrongly_3 : decode cX0_guiltyWrongly 3 = .ok (.istore_n 3, 1) := by decide +kernel
theorem dX0_guiltyWrongly_4 : decode cX0_guiltyWrongly 4 = .ok (.iload_n 3, 1) := by decide +kernel
theorem dX0_guiltyWrongly_5 : decode cX0_guiltyWrongly 5 = .ok (.aload_n 0, 1) := by decide +kernel
theorem dX0_guiltyWrongly_6 : decode cX0_guiltyWrongly 6 = .ok (.getfield 55, 3) := by decide +kernel
theorem dX0_guiltyWrongly_9 : decode cX0_guiltyWrongly 9 = .ok (.if_icmp .ge 44, 3) := by decide +kernel
theorem dX0_guiltyWrongly_12 : decode cX0_guiltyWrongly 12 = .ok (.iload_n 2, 1) := by decide +kernel
theorem dX0_guiltyWrongly_13 : decode cX0_guiltyWrongly 13 = .ok (.aload_n 0, 1) := by decide +kernel
theorem dX0_guiltyWrongly_14 : decode cX0_guiltyWrongly 14 = .ok (.getfield 11, 3) := by decide +kernel
theorem dX0_guiltyWrongly_17 : decode cX0_guiltyWrongly 17 = .ok (.iload_n 3, 1) := by decide +kernel
theorem dX0_guiltyWrongly_18 : decode cX0_guiltyWrongly 18 = .ok (.aaload, 1) := by decide +kernel
theorem dX0_guiltyWrongly_19 : decode cX0_guiltyWrongly 19 = .ok (.getfield 69, 3) := by decide +kernel
theorem dX0_guiltyWrongly_22 : decode cX0_guiltyWrongly 22 = .ok (.iconst 1, 1) := by decide +kernel
theorem dX0_guiltyWrongly_23 : decode cX0_guiltyWrongly 23 = .ok (.if_icmp .ne 21, 3) := by decide +kernel
theorem dX0_guiltyWrongly_26 : decode cX0_guiltyWrongly 26 = .ok (.aload_n 0, 1) := by decide +kernel
theorem dX0_guiltyWrongly_27 : decode cX0_guiltyWrongly 27 = .ok (.aload_n 0, 1) := by decide +kernel
theorem dX0_guiltyWrongly_28 : decode cX0_guiltyWrongly 28 = .ok (.getfield 11, 3) := by decide +kernel
theorem dX0_guiltyWrongly_31 : decode cX0_guiltyWrongly 31 = .ok (.iload_n 3, 1) := by decide +kernel
theorem dX0_guiltyWrongly_32 : decode cX0_guiltyWrongly 32 = .ok (.aaload, 1) := by decide +kernel
theorem dX0_guiltyWrongly_33 : decode cX0_guiltyWrongly 33 = .ok (.iload_n 1, 1) := by decide +kernel
theorem dX0_guiltyWrongly_34 : decode cX0_guiltyWrongly 34 = .ok (.invokevirtual 161, 3) := by decide +kernel
theorem dX0_guiltyWrongly_37 : decode cX0_guiltyWrongly 37 = .ok (.ifCond .eq 7, 3) := by decide +kernel
theorem dX0_guiltyWrongly_40 : decode cX0_guiltyWrongly 40 = .ok (.iconst 1, 1) := by decide +kernel
theorem dX0_guiltyWrongly_41 : decode cX0_guiltyWrongly 41 = .ok (.goto 4, 3) := by decide +kernel
theorem dX0_guiltyWrongly_44 : decode cX0_guiltyWrongly 44 = .ok (.iconst 0, 1) := by decide +kernel
theorem dX0_guiltyWrongly_45 : decode cX0_guiltyWrongly 45 = .ok (.iadd, 1) := by decide +kernel
theorem dX0_guiltyWrongly_46 : decode cX0_guiltyWrongly 46 = .ok (.istore_n 2, 1) := by decide +kernel
theorem dX0_guiltyWrongly_47 : decode cX0_guiltyWrongly 47 = .ok (.iinc 3 1, 3) := by decide +kernel
theorem dX0_guiltyWrongly_50 : decode cX0_guiltyWrongly 50 = .ok (.goto (-46), 3) := by decide +kernel
theorem dX0_guiltyWrongly_53 : decode cX0_guiltyWrongly 53 = .ok (.iload_n 2, 1) := by decide +kernel
theorem dX0_guiltyWrongly_54 : decode cX0_guiltyWrongly 54 = .ok (.ireturn, 1) := by decide +kernel
theorem dX0_allWrongly_0 : decode cX0_allWrongly 0 = .ok (.iconst 0, 1) := by decide +kernel
theorem dX0_allWrongly_1 : decode cX0_allWrongly 1 = .ok (.istore_n 2, 1) := by decide +kernel
theorem dX0_allWrongly_2 : decode cX0_allWrongly 2 = .ok (.iconst 0, 1) := by decide +kernel
theorem dX0_allWrongly_3 : decode cX0_allWrongly 3 = .ok (.istore_n 3, 1) := by decide +kernel
theorem dX0_allWrongly_4 : decode cX0_allWrongly 4 = .ok (.iload_n 3, 1) := by decide +kernel
theorem dX0_allWrongly_5 : decode cX0_allWrongly 5 = .ok (.aload_n 0, 1) := by decide +kernel
theorem dX0_allWrongly_6 : decode cX0_allWrongly 6 = .ok (.getfield 55, 3) := by decide +kernel
theorem dX0_allWrongly_9 : decode cX0_allWrongly 9 = .ok (.if_icmp .ge 31, 3) := by decide +kernel
theorem dX0_allWrongly_12 : decode cX0_allWrongly 12 = .ok (.iload_n 2, 1) := by decide +kernel
theorem dX0_allWrongly_13 : decode cX0_allWrongly 13 = .ok (.aload_n 0, 1) := by decide +kernel
theorem dX0_allWrongly_14 : decode cX0_allWrongly 14 = .ok (.aload_n 0, 1) := by decide +kernel
theorem dX0_allWrongly_15 : decode cX0_allWrongly 15 = .ok (.getfield 11, 3) := by decide +kernel
theorem dX0_allWrongly_18 : decode cX0_allWrongly 18 = .ok (.iload_n 3, 1) := by decide +kernel
theorem dX0_allWrongly_19 : decode cX0_allWrongly 19 = .ok (.aaload, 1) := by decide +kernel
theorem dX0_allWrongly_20 : decode cX0_allWrongly 20 = .ok (.iload_n 1, 1) := by decide +kernel
theorem dX0_allWrongly_21 : decode cX0_allWrongly 21 = .ok (.invokevirtual 161, 3) := by decide +kernel
theorem dX0_allWrongly_24 : decode cX0_allWrongly 24 = .ok (.ifCond .eq 7, 3) := by decide +kernel
theorem dX0_allWrongly_27 : decode cX0_allWrongly 27 = .ok (.iconst 1, 1) := by decide +kernel
theorem dX0_allWrongly_28 : decode cX0_allWrongly 28 = .ok (.goto 4, 3) := by decide +kernel
theorem dX0_allWrongly_31 : decode cX0_allWrongly 31 = .ok (.iconst 0, 1) := by decide +kernel
theorem dX0_allWrongly_32 : decode cX0_allWrongly 32 = .ok (.iadd, 1) := by decide +kernel
theorem dX0_allWrongly_33 : decode cX0_allWrongly 33 = .ok (.istore_n 2, 1) := by decide +kernel
theorem dX0_allWrongly_34 : decode cX0_allWrongly 34 = .ok (.iinc 3 1, 3) := by decide +kernel
theorem dX0_allWrongly_37 : decode cX0_allWrongly 37 = .ok (.goto (-33), 3) := by decide +kernel
theorem dX0_allWrongly_40 : decode cX0_allWrongly 40 = .ok (.iload_n 2, 1) := by decide +kernel
theorem dX0_allWrongly_41 : decode cX0_allWrongly 41 = .ok (.ireturn, 1) := by decide +kernel
theorem dX0_wouldWrong_0 : decode cX0_wouldWrong 0 = .ok (.aload_n 1, 1) := by decide +kernel
theorem dX0_wouldWrong_1 : decode cX0_wouldWrong 1 = .ok (.invokevirtual 144, 3) := by decide +kernel
theorem dX0_wouldWrong_4 : decode cX0_wouldWrong 4 = .ok (.ifCond .ne 20, 3) := by decide +kernel
theorem dX0_wouldWrong_7 : decode cX0_wouldWrong 7 = .ok (.aload_n 1, 1) := by decide +kernel
theorem dX0_wouldWrong_8 : decode cX0_wouldWrong 8 = .ok (.aload_n 0, 1) := by decide +kernel
theorem dX0_wouldWrong_9 : decode cX0_wouldWrong 9 = .ok (.aload_n 1, 1) := by decide +kernel
theorem dX0_wouldWrong_10 : decode cX0_wouldWrong 10 = .ok (.iload_n 2, 1) := by decide +kernel
theorem dX0_wouldWrong_11 : decode cX0_wouldWrong 11 = .ok (.invokevirtual 116, 3) := by decide +kernel
theorem dX0_wouldWrong_14 : decode cX0_wouldWrong 14 = .ok (.invokevirtual 118, 3) := by decide +kernel
theorem dX0_wouldWrong_17 : decode cX0_wouldWrong 17 = .ok (.ifCond .eq 7, 3) := by decide +kernel
theorem dX0_wouldWrong_20 : decode cX0_wouldWrong 20 = .ok (.iconst 1, 1) := by decide +kernel
theorem dX0_wouldWrong_21 : decode cX0_wouldWrong 21 = .ok (.goto 4, 3) := by decide +kernel
theorem dX0_wouldWrong_24 : decode cX0_wouldWrong 24 = .ok (.iconst 0, 1) := by decide +kernel
theorem dX0_wouldWrong_25 : decode cX0_wouldWrong 25 = .ok (.ireturn, 1) := by decide +kernel
theorem dX0_foulOnes_0 : decode cX0_foulOnes 0 = .ok (.iconst 0, 1) := by decide +kernel
theorem dX0_foulOnes_1 : decode cX0_foulOnes 1 = .ok (.istore_n 2, 1) := by decide +kernel
theorem dX0_foulOnes_2 : decode cX0_foulOnes 2 = .ok (.iconst 0, 1) := by decide +kernel
theorem dX0_foulOnes_3 : decode cX0_foulOnes 3 = .ok (.istore_n 3, 1) := by decide +kernel
theorem dX0_foulOnes_4 : decode cX0_foulOnes 4 = .ok (.iload_n 3, 1) := by decide +kernel
theorem dX0_foulOnes_5 : decode cX0_foulOnes 5 = .ok (.aload_n 0, 1) := by decide +kernel
theorem dX0_foulOnes_6 : decode cX0_foulOnes 6 = .ok (.getfield 55, 3) := by decide +kernel
theorem dX0_foulOnes_9 : decode cX0_foulOnes 9 = .ok (.if_icmp .ge 43, 3) := by decide +kernel
theorem dX0_foulOnes_12 : decode cX0_foulOnes 12 = .ok (.iload_n 2, 1) := by decide +kernel
theorem dX0_foulOnes_13 : decode cX0_foulOnes 13 = .ok (.aload_n 0, 1) := by decide +kernel
theorem dX0_foulOnes_14 : decode cX0_foulOnes 14 = .ok (.getfield 11, 3) := by decide +kernel
theorem dX0_foulOnes_17 : decode cX0_foulOnes 17 = .ok (.iload_n 3, 1) := by decide +kernel
theorem dX0_foulOnes_18 : decode cX0_foulOnes 18 = .ok (.aaload, 1) := by decide +kernel
theorem dX0_foulOnes_19 : decode cX0_foulOnes 19 = .ok (.invokevirtual 144, 3) := by decide +kernel
theorem dX0_foulOnes_22 : decode cX0_foulOnes 22 = .ok (.ifCond .ne 21, 3) := by decide +kernel
theorem dX0_foulOnes_25 : decode cX0_foulOnes 25 = .ok (.aload_n 0, 1) := by decide +kernel
theorem dX0_foulOnes_26 : decode cX0_foulOnes 26 = .ok (.aload_n 0, 1) := by decide +kernel
theorem dX0_foulOnes_27 : decode cX0_foulOnes 27 = .ok (.getfield 11, 3) := by decide +kernel
theorem dX0_foulOnes_30 : decode cX0_foulOnes 30 = .ok (.iload_n 3, 1) := by decide +kernel
theorem dX0_foulOnes_31 : decode cX0_foulOnes 31 = .ok (.aaload, 1) := by decide +kernel
theorem dX0_foulOnes_32 : decode cX0_foulOnes 32 = .ok (.iload_n 1, 1) := by decide +kernel
theorem dX0_foulOnes_33 : decode cX0_foulOnes 33 = .ok (.invokevirtual 116, 3) := by decide +kernel
theorem dX0_foulOnes_36 : decode cX0_foulOnes 36 = .ok (.ifCond .ne 7, 3) := by decide +kernel
theorem dX0_foulOnes_39 : decode cX0_foulOnes 39 = .ok (.iconst 1, 1) := by decide +kernel
theorem dX0_foulOnes_40 : decode cX0_foulOnes 40 = .ok (.goto 4, 3) := by decide +kernel
theorem dX0_foulOnes_43 : decode cX0_foulOnes 43 = .ok (.iconst 0, 1) := by decide +kernel
theorem dX0_foulOnes_44 : decode cX0_foulOnes 44 = .ok (.iadd, 1) := by decide +kernel
theorem dX0_foulOnes_45 : decode cX0_foulOnes 45 = .ok (.istore_n 2, 1) := by decide +kernel
theorem dX0_foulOnes_46 : decode cX0_foulOnes 46 = .ok (.iinc 3 1, 3) := by decide +kernel
theorem dX0_foulOnes_49 : decode cX0_foulOnes 49 = .ok (.goto (-45), 3) := by decide +kernel
theorem dX0_foulOnes_52 : decode cX0_foulOnes 52 = .ok (.iload_n 2, 1) := by decide +kernel
theorem dX0_foulOnes_53 : decode cX0_foulOnes 53 = .ok (.ireturn, 1) := by decide +kernel
theorem dX0_heatsTelling_0 : decode cX0_heatsTelling 0 = .ok (.iconst 0, 1) := by decide +kernel
theorem dX0_heatsTelling_1 : decode cX0_heatsTelling 1 = .ok (.istore_n 3, 1) := by decide +kernel
theorem dX0_heatsTelling_2 : decode cX0_heatsTelling 2 = .ok (.iconst 0, 1) := by decide +kernel
theorem dX0_heatsTelling_3 : decode cX0_heatsTelling 3 = .ok (.istore 4, 2) := by decide +kernel
theorem dX0_heatsTelling_5 : decode cX0_heatsTelling 5 = .ok (.iload 4, 2) := by decide +kernel
theorem dX0_heatsTelling_7 : decode cX0_heatsTelling 7 = .ok (.bipush 31, 2) := by decide +kernel
theorem dX0_heatsTelling_9 : decode cX0_heatsTelling 9 = .ok (.if_icmp .ge 31, 3) := by decide +kernel
theorem dX0_heatsTelling_12 : decode cX0_heatsTelling 12 = .ok (.iload_n 3, 1) := by decide +kernel
theorem dX0_heatsTelling_13 : decode cX0_heatsTelling 13 = .ok (.aload_n 0, 1) := by decide +kernel
theorem dX0_heatsTelling_14 : decode cX0_heatsTelling 14 = .ok (.aload_n 1, 1) := by decide +kernel
theorem dX0_heatsTelling_15 : decode cX0_heatsTelling 15 = .ok (.iload 4, 2) := by decide +kernel
theorem dX0_heatsTelling_17 : decode cX0_heatsTelling 17 = .ok (.invokevirtual 116, 3) := by decide +kernel
theorem dX0_heatsTelling_20 : decode cX0_heatsTelling 20 = .ok (.iload_n 2, 1) := by decide +kernel
theorem dX0_heatsTelling_21 : decode cX0_heatsTelling 21 = .ok (.if_icmp .ne 10, 3) := by decide +kernel
theorem dX0_heatsTelling_24 : decode cX0_heatsTelling 24 = .ok (.iconst 1, 1) := by decide +kernel
theorem dX0_heatsTelling_25 : decode cX0_heatsTelling 25 = .ok (.iload 4, 2) := by decide +kernel
theorem dX0_heatsTelling_27 : decode cX0_heatsTelling 27 = .ok (.ishl, 1) := by decide +kernel
theorem dX0_heatsTelling_28 : decode cX0_heatsTelling 28 = .ok (.goto 4, 3) := by decide +kernel
theorem dX0_heatsTelling_31 : decode cX0_heatsTelling 31 = .ok (.iconst 0, 1) := by decide +kernel
theorem dX0_heatsTelling_32 : decode cX0_heatsTelling 32 = .ok (.ior, 1) := by decide +kernel
theorem dX0_heatsTelling_33 : decode cX0_heatsTelling 33 = .ok (.istore_n 3, 1) := by decide +kernel
theorem dX0_heatsTelling_34 : decode cX0_heatsTelling 34 = .ok (.iinc 4 1, 3) := by decide +kernel
theorem dX0_heatsTelling_37 : decode cX0_heatsTelling 37 = .ok (.goto (-32), 3) := by decide +kernel
theorem dX0_heatsTelling_40 : decode cX0_heatsTelling 40 = .ok (.iload_n 3, 1) := by decide +kernel
theorem dX0_heatsTelling_41 : decode cX0_heatsTelling 41 = .ok (.ireturn, 1) := by decide +kernel
theorem dX0_heatsFitting_0 : decode cX0_heatsFitting 0 = .ok (.ldc 165, 2) := by decide +kernel
theorem dX0_heatsFitting_2 : decode cX0_heatsFitting 2 = .ok (.istore_n 2, 1) := by decide +kernel
theorem dX0_heatsFitting_3 : decode cX0_heatsFitting 3 = .ok (.iconst 0, 1) := by decide +kernel
theorem dX0_heatsFitting_4 : decode cX0_heatsFitting 4 = .ok (.istore_n 3, 1) := by decide +kernel
theorem dX0_heatsFitting_5 : decode cX0_heatsFitting 5 = .ok (.iload_n 3, 1) := by decide +kernel
theorem dX0_heatsFitting_6 : decode cX0_heatsFitting 6 = .ok (.iconst 1, 1) := by decide +kernel
theorem dX0_heatsFitting_7 : decode cX0_heatsFitting 7 = .ok (.iadd, 1) := by decide +kernel
theorem dX0_heatsFitting_8 : decode cX0_heatsFitting 8 = .ok (.aload_n 1, 1) := by decide +kernel
theorem dX0_heatsFitting_9 : decode cX0_heatsFitting 9 = .ok (.getfield 155, 3) := by decide +kernel
theorem dX0_heatsFitting_12 : decode cX0_heatsFitting 12 = .ok (.if_icmp .ge 35, 3) := by decide +kernel
theorem dX0_heatsFitting_15 : decode cX0_heatsFitting 15 = .ok (.iload_n 2, 1) := by decide +kernel
theorem dX0_heatsFitting_16 : decode cX0_heatsFitting 16 = .ok (.aload_n 0, 1) := by decide +kernel
theorem dX0_heatsFitting_17 : decode cX0_heatsFitting 17 = .ok (.aload_n 0, 1) := by decide +kernel
theorem dX0_heatsFitting_18 : decode cX0_heatsFitting 18 = .ok (.getfield 11, 3) := by decide +kernel
theorem dX0_heatsFitting_21 : decode cX0_heatsFitting 21 = .ok (.aload_n 1, 1) := by decide +kernel
theorem dX0_heatsFitting_22 : decode cX0_heatsFitting 22 = .ok (.getfield 158, 3) := by decide +kernel
theorem dX0_heatsFitting_25 : decode cX0_heatsFitting 25 = .ok (.iload_n 3, 1) := by decide +kernel
theorem dX0_heatsFitting_26 : decode cX0_heatsFitting 26 = .ok (.iaload, 1) := by decide +kernel
theorem dX0_heatsFitting_27 : decode cX0_heatsFitting 27 = .ok (.aaload, 1) := by decide +kernel
theorem dX0_heatsFitting_28 : decode cX0_heatsFitting 28 = .ok (.aload_n 1, 1) := by decide +kernel
theorem dX0_heatsFitting_29 : decode cX0_heatsFitting 29 = .ok (.getfield 158, 3) := by decide +kernel
theorem dX0_heatsFitting_32 : decode cX0_heatsFitting 32 = .ok (.iload_n 3, 1) := by decide +kernel
theorem dX0_heatsFitting_33 : decode cX0_heatsFitting 33 = .ok (.iconst 1, 1) := by decide +kernel
theorem dX0_heatsFitting_34 : decode cX0_heatsFitting 34 = .ok (.iadd, 1) := by decide +kernel
theorem dX0_heatsFitting_35 : decode cX0_heatsFitting 35 = .ok (.iaload, 1) := by decide +kernel
theorem dX0_heatsFitting_36 : decode cX0_heatsFitting 36 = .ok (.invokevirtual 166, 3) := by decide +kernel
theorem dX0_heatsFitting_39 : decode cX0_heatsFitting 39 = .ok (.iand, 1) := by decide +kernel
theorem dX0_heatsFitting_40 : decode cX0_heatsFitting 40 = .ok (.istore_n 2, 1) := by decide +kernel
theorem dX0_heatsFitting_41 : decode cX0_heatsFitting 41 = .ok (.iinc 3 2, 3) := by decide +kernel
theorem dX0_heatsFitting_44 : decode cX0_heatsFitting 44 = .ok (.goto (-39), 3) := by decide +kernel
theorem dX0_heatsFitting_47 : decode cX0_heatsFitting 47 = .ok (.iload_n 2, 1) := by decide +kernel
theorem dX0_heatsFitting_48 : decode cX0_heatsFitting 48 = .ok (.ireturn, 1) := by decide +kernel
theorem dX0_greatestPart_0 : decode cX0_greatestPart 0 = .ok (.iconst 0, 1) := by decide +kernel
theorem dX0_greatestPart_1 : decode cX0_greatestPart 1 = .ok (.istore_n 3, 1) := by decide +kernel
theorem dX0_greatestPart_2 : decode cX0_greatestPart 2 = .ok (.iconst 0, 1) := by decide +kernel
theorem dX0_greatestPart_3 : decode cX0_greatestPart 3 = .ok (.istore 4, 2) := by decide +kernel
theorem dX0_greatestPart_5 : decode cX0_greatestPart 5 = .ok (.iload 4, 2) := by decide +kernel
theorem dX0_greatestPart_7 : decode cX0_greatestPart 7 = .ok (.iconst 3, 1) := by decide +kernel
theorem dX0_greatestPart_8 : decode cX0_greatestPart 8 = .ok (.if_icmp .ge 26, 3) := by decide +kernel
theorem dX0_greatestPart_11 : decode cX0_greatestPart 11 = .ok (.iload_n 3, 1) := by decide +kernel
theorem dX0_greatestPart_12 : decode cX0_greatestPart 12 = .ok (.iload_n 2, 1) := by decide +kernel
theorem dX0_greatestPart_13 : decode cX0_greatestPart 13 = .ok (.aload_n 0, 1) := by decide +kernel
theorem dX0_greatestPart_14 : decode cX0_greatestPart 14 = .ok (.aload_n 1, 1) := by decide +kernel
theorem dX0_greatestPart_15 : decode cX0_greatestPart 15 = .ok (.iload 4, 2) := by decide +kernel
theorem dX0_greatestPart_17 : decode cX0_greatestPart 17 = .ok (.invokevirtual 166, 3) := by decide +kernel
theorem dX0_greatestPart_20 : decode cX0_greatestPart 20 = .ok (.iand, 1) := by decide +kernel
theorem dX0_greatestPart_21 : decode cX0_greatestPart 21 = .ok (.invokestatic 169, 3) := by decide +kernel
theorem dX0_greatestPart_24 : decode cX0_greatestPart 24 = .ok (.invokestatic 138, 3) := by decide +kernel
theorem dX0_greatestPart_27 : decode cX0_greatestPart 27 = .ok (.istore_n 3, 1) := by decide +kernel
theorem dX0_greatestPart_28 : decode cX0_greatestPart 28 = .ok (.iinc 4 1, 3) := by decide +kernel
theorem dX0_greatestPart_31 : decode cX0_greatestPart 31 = .ok (.goto (-26), 3) := by decide +kernel
theorem dX0_greatestPart_34 : decode cX0_greatestPart 34 = .ok (.iload_n 3, 1) := by decide +kernel
theorem dX0_greatestPart_35 : decode cX0_greatestPart 35 = .ok (.ireturn, 1) := by decide +kernel
theorem dX0_triedOnes_0 : decode cX0_triedOnes 0 = .ok (.iconst 0, 1) := by decide +kernel
theorem dX0_triedOnes_1 : decode cX0_triedOnes 1 = .ok (.istore_n 1, 1) := by decide +kernel
theorem dX0_triedOnes_2 : decode cX0_triedOnes 2 = .ok (.iconst 0, 1) := by decide +kernel
theorem dX0_triedOnes_3 : decode cX0_triedOnes 3 = .ok (.istore_n 2, 1) := by decide +kernel
theorem dX0_triedOnes_4 : decode cX0_triedOnes 4 = .ok (.iload_n 2, 1) := by decide +kernel
theorem dX0_triedOnes_5 : decode cX0_triedOnes 5 = .ok (.aload_n 0, 1) := by decide +kernel
theorem dX0_triedOnes_6 : decode cX0_triedOnes 6 = .ok (.getfield 55, 3) := by decide +kernel
theorem dX0_triedOnes_9 : decode cX0_triedOnes 9 = .ok (.if_icmp .ge 31, 3) := by decide +kernel
theorem dX0_triedOnes_12 : decode cX0_triedOnes 12 = .ok (.iload_n 1, 1) := by decide +kernel
theorem dX0_triedOnes_13 : decode cX0_triedOnes 13 = .ok (.aload_n 0, 1) := by decide +kernel
theorem dX0_triedOnes_14 : decode cX0_triedOnes 14 = .ok (.getfield 11, 3) := by decide +kernel
theorem dX0_triedOnes_17 : decode cX0_triedOnes 17 = .ok (.iload_n 2, 1) := by decide +kernel
theorem dX0_triedOnes_18 : decode cX0_triedOnes 18 = .ok (.aaload, 1) := by decide +kernel
theorem dX0_triedOnes_19 : decode cX0_triedOnes 19 = .ok (.invokevirtual 144, 3) := by decide +kernel
theorem dX0_triedOnes_22 : decode cX0_triedOnes 22 = .ok (.ifCond .eq 9, 3) := by decide +kernel
theorem dX0_triedOnes_25 : decode cX0_triedOnes 25 = .ok (.iconst 1, 1) := by decide +kernel
theorem dX0_triedOnes_26 : decode cX0_triedOnes 26 = .ok (.iload_n 2, 1) := by decide +kernel
theorem dX0_triedOnes_27 : decode cX0_triedOnes 27 = .ok (.ishl, 1) := by decide +kernel
theorem dX0_triedOnes_28 : decode cX0_triedOnes 28 = .ok (.goto 4, 3) := by decide +kernel
theorem dX0_triedOnes_31 : decode cX0_triedOnes 31 = .ok (.iconst 0, 1) := by decide +kernel
theorem dX0_triedOnes_32 : decode cX0_triedOnes 32 = .ok (.ior, 1) := by decide +kernel
theorem dX0_triedOnes_33 : decode cX0_triedOnes 33 = .ok (.istore_n 1, 1) := by decide +kernel
theorem dX0_triedOnes_34 : decode cX0_triedOnes 34 = .ok (.iinc 2 1, 3) := by decide +kernel
theorem dX0_triedOnes_37 : decode cX0_triedOnes 37 = .ok (.goto (-33), 3) := by decide +kernel
theorem dX0_triedOnes_40 : decode cX0_triedOnes 40 = .ok (.iload_n 1, 1) := by decide +kernel
theorem dX0_triedOnes_41 : decode cX0_triedOnes 41 = .ok (.ireturn, 1) := by decide +kernel
theorem dX0_toldClean_0 : decode cX0_toldClean 0 = .ok (.iconst 0, 1) := by decide +kernel
theorem dX0_toldClean_1 : decode cX0_toldClean 1 = .ok (.istore_n 1, 1) := by decide +kernel
theorem dX0_toldClean_2 : decode cX0_toldClean 2 = .ok (.iconst 0, 1) := by decide +kernel
theorem dX0_toldClean_3 : decode cX0_toldClean 3 = .ok (.istore_n 2, 1) := by decide +kernel
theorem dX0_toldClean_4 : decode cX0_toldClean 4 = .ok (.iload_n 2, 1) := by decide +kernel
theorem dX0_toldClean_5 : decode cX0_toldClean 5 = .ok (.aload_n 0, 1) := by decide +kernel
theorem dX0_toldClean_6 : decode cX0_toldClean 6 = .ok (.getfield 55, 3) := by decide +kernel
theorem dX0_toldClean_9 : decode cX0_toldClean 9 = .ok (.if_icmp .ge 30, 3) := by decide +kernel
theorem dX0_toldClean_12 : decode cX0_toldClean 12 = .ok (.iload_n 1, 1) := by decide +kernel
theorem dX0_toldClean_13 : decode cX0_toldClean 13 = .ok (.aload_n 0, 1) := by decide +kernel
theorem dX0_toldClean_14 : decode cX0_toldClean 14 = .ok (.getfield 11, 3) := by decide +kernel
theorem dX0_toldClean_17 : decode cX0_toldClean 17 = .ok (.iload_n 2, 1) := by decide +kernel
theorem dX0_toldClean_18 : decode cX0_toldClean 18 = .ok (.aaload, 1) := by decide +kernel
theorem dX0_toldClean_19 : decode cX0_toldClean 19 = .ok (.getfield 93, 3) := by decide +kernel
theorem dX0_toldClean_22 : decode cX0_toldClean 22 = .ok (.iconst 1, 1) := by decide +kernel
theorem dX0_toldClean_23 : decode cX0_toldClean 23 = .ok (.if_icmp .ne 7, 3) := by decide +kernel
theorem dX0_toldClean_26 : decode cX0_toldClean 26 = .ok (.iconst 1, 1) := by decide +kernel
theorem dX0_toldClean_27 : decode cX0_toldClean 27 = .ok (.goto 4, 3) := by decide +kernel
theorem dX0_toldClean_30 : decode cX0_toldClean 30 = .ok (.iconst 0, 1) := by decide +kernel
theorem dX0_toldClean_31 : decode cX0_toldClean 31 = .ok (.iadd, 1) := by decide +kernel
theorem dX0_toldClean_32 : decode cX0_toldClean 32 = .ok (.istore_n 1, 1) := by decide +kernel
theorem dX0_toldClean_33 : decode cX0_toldClean 33 = .ok (.iinc 2 1, 3) := by decide +kernel
theorem dX0_toldClean_36 : decode cX0_toldClean 36 = .ok (.goto (-32), 3) := by decide +kernel
theorem dX0_toldClean_39 : decode cX0_toldClean 39 = .ok (.iload_n 1, 1) := by decide +kernel
theorem dX0_toldClean_40 : decode cX0_toldClean 40 = .ok (.ireturn, 1) := by decide +kernel
theorem dX0_toldWrongly_0 : decode cX0_toldWrongly 0 = .ok (.iconst 0, 1) := by decide +kernel
theorem dX0_toldWrongly_1 : decode cX0_toldWrongly 1 = .ok (.istore_n 1, 1) := by decide +kernel
theorem dX0_toldWrongly_2 : decode cX0_toldWrongly 2 = .ok (.iconst 0, 1) := by decide +kernel
theorem dX0_toldWrongly_3 : decode cX0_toldWrongly 3 = .ok (.istore_n 2, 1) := by decide +kernel
theorem dX0_toldWrongly_4 : decode cX0_toldWrongly 4 = .ok (.iload_n 2, 1) := by decide +kernel
theorem dX0_toldWrongly_5 : decode cX0_toldWrongly 5 = .ok (.aload_n 0, 1) := by decide +kernel
theorem dX0_toldWrongly_6 : decode cX0_toldWrongly 6 = .ok (.getfield 55, 3) := by decide +kernel
theorem dX0_toldWrongly_9 : decode cX0_toldWrongly 9 = .ok (.if_icmp .ge 29, 3) := by decide +kernel
theorem dX0_toldWrongly_12 : decode cX0_toldWrongly 12 = .ok (.iload_n 1, 1) := by decide +kernel
theorem dX0_toldWrongly_13 : decode cX0_toldWrongly 13 = .ok (.aload_n 0, 1) := by decide +kernel
theorem dX0_toldWrongly_14 : decode cX0_toldWrongly 14 = .ok (.getfield 11, 3) := by decide +kernel
theorem dX0_toldWrongly_17 : decode cX0_toldWrongly 17 = .ok (.iload_n 2, 1) := by decide +kernel
theorem dX0_toldWrongly_18 : decode cX0_toldWrongly 18 = .ok (.aaload, 1) := by decide +kernel
theorem dX0_toldWrongly_19 : decode cX0_toldWrongly 19 = .ok (.getfield 121, 3) := by decide +kernel
theorem dX0_toldWrongly_22 : decode cX0_toldWrongly 22 = .ok (.ifCond .eq 7, 3) := by decide +kernel
theorem dX0_toldWrongly_25 : decode cX0_toldWrongly 25 = .ok (.iconst 1, 1) := by decide +kernel
theorem dX0_toldWrongly_26 : decode cX0_toldWrongly 26 = .ok (.goto 4, 3) := by decide +kernel
theorem dX0_toldWrongly_29 : decode cX0_toldWrongly 29 = .ok (.iconst 0, 1) := by decide +kernel
theorem dX0_toldWrongly_30 : decode cX0_toldWrongly 30 = .ok (.iadd, 1) := by decide +kernel
theorem dX0_toldWrongly_31 : decode cX0_toldWrongly 31 = .ok (.istore_n 1, 1) := by decide +kernel
theorem dX0_toldWrongly_32 : decode cX0_toldWrongly 32 = .ok (.iinc 2 1, 3) := by decide +kernel
theorem dX0_toldWrongly_35 : decode cX0_toldWrongly 35 = .ok (.goto (-31), 3) := by decide +kernel
theorem dX0_toldWrongly_38 : decode cX0_toldWrongly 38 = .ok (.iload_n 1, 1) := by decide +kernel
theorem dX0_toldWrongly_39 : decode cX0_toldWrongly 39 = .ok (.ireturn, 1) := by decide +kernel
theorem dX0_allSalve_0 : decode cX0_allSalve 0 = .ok (.iconst 0, 1) := by decide +kernel
theorem dX0_allSalve_1 : decode cX0_allSalve 1 = .ok (.istore_n 1, 1) := by decide +kernel
theorem dX0_allSalve_2 : decode cX0_allSalve 2 = .ok (.iconst 0, 1) := by decide +kernel
theorem dX0_allSalve_3 : decode cX0_allSalve 3 = .ok (.istore_n 2, 1) := by decide +kernel
theorem dX0_allSalve_4 : decode cX0_allSalve 4 = .ok (.iload_n 2, 1) := by decide +kernel
theorem dX0_allSalve_5 : decode cX0_allSalve 5 = .ok (.aload_n 0, 1) := by decide +kernel
theorem dX0_allSalve_6 : decode cX0_allSalve 6 = .ok (.getfield 55, 3) := by decide +kernel
theorem dX0_allSalve_9 : decode cX0_allSalve 9 = .ok (.if_icmp .ge 21, 3) := by decide +kernel
theorem dX0_allSalve_12 : decode cX0_allSalve 12 = .ok (.iload_n 1, 1) := by decide +kernel
theorem dX0_allSalve_13 : decode cX0_allSalve 13 = .ok (.aload_n 0, 1) := by decide +kernel
theorem dX0_allSalve_14 : decode cX0_allSalve 14 = .ok (.getfield 11, 3) := by decide +kernel
theorem dX0_allSalve_17 : decode cX0_allSalve 17 = .ok (.iload_n 2, 1) := by decide +kernel
theorem dX0_allSalve_18 : decode cX0_allSalve 18 = .ok (.aaload, 1) := by decide +kernel
theorem dX0_allSalve_19 : decode cX0_allSalve 19 = .ok (.getfield 90, 3) := by decide +kernel
theorem dX0_allSalve_22 : decode cX0_allSalve 22 = .ok (.iadd, 1) := by decide +kernel
theorem dX0_allSalve_23 : decode cX0_allSalve 23 = .ok (.istore_n 1, 1) := by decide +kernel
theorem dX0_allSalve_24 : decode cX0_allSalve 24 = .ok (.iinc 2 1, 3) := by decide +kernel
theorem dX0_allSalve_27 : decode cX0_allSalve 27 = .ok (.goto (-23), 3) := by decide +kernel
theorem dX0_allSalve_30 : decode cX0_allSalve 30 = .ok (.iload_n 1, 1) := by decide +kernel
theorem dX0_allSalve_31 : decode cX0_allSalve 31 = .ok (.ireturn, 1) := by decide +kernel
theorem dX0_ploughmen_0 : decode cX0_ploughmen 0 = .ok (.iconst 0, 1) := by decide +kernel
theorem dX0_ploughmen_1 : decode cX0_ploughmen 1 = .ok (.istore_n 1, 1) := by decide +kernel
theorem dX0_ploughmen_2 : decode cX0_ploughmen 2 = .ok (.iconst 0, 1) := by decide +kernel
theorem dX0_ploughmen_3 : decode cX0_ploughmen 3 = .ok (.istore_n 2, 1) := by decide +kernel
theorem dX0_ploughmen_4 : decode cX0_ploughmen 4 = .ok (.iload_n 2, 1) := by decide +kernel
theorem dX0_ploughmen_5 : decode cX0_ploughmen 5 = .ok (.aload_n 0, 1) := by decide +kernel
theorem dX0_ploughmen_6 : decode cX0_ploughmen 6 = .ok (.getfield 55, 3) := by decide +kernel
theorem dX0_ploughmen_9 : decode cX0_ploughmen 9 = .ok (.if_icmp .ge 30, 3) := by decide +kernel
theorem dX0_ploughmen_12 : decode cX0_ploughmen 12 = .ok (.iload_n 1, 1) := by decide +kernel
theorem dX0_ploughmen_13 : decode cX0_ploughmen 13 = .ok (.aload_n 0, 1) := by decide +kernel
theorem dX0_ploughmen_14 : decode cX0_ploughmen 14 = .ok (.getfield 11, 3) := by decide +kernel
theorem dX0_ploughmen_17 : decode cX0_ploughmen 17 = .ok (.iload_n 2, 1) := by decide +kernel
theorem dX0_ploughmen_18 : decode cX0_ploughmen 18 = .ok (.aaload, 1) := by decide +kernel
theorem dX0_ploughmen_19 : decode cX0_ploughmen 19 = .ok (.iconst 1, 1) := by decide +kernel
theorem dX0_ploughmen_20 : decode cX0_ploughmen 20 = .ok (.invokevirtual 174, 3) := by decide +kernel
theorem dX0_ploughmen_23 : decode cX0_ploughmen 23 = .ok (.ifCond .eq 7, 3) := by decide +kernel
theorem dX0_ploughmen_26 : decode cX0_ploughmen 26 = .ok (.iconst 1, 1) := by decide +kernel
theorem dX0_ploughmen_27 : decode cX0_ploughmen 27 = .ok (.goto 4, 3) := by decide +kernel
theorem dX0_ploughmen_30 : decode cX0_ploughmen 30 = .ok (.iconst 0, 1) := by decide +kernel
theorem dX0_ploughmen_31 : decode cX0_ploughmen 31 = .ok (.iadd, 1) := by decide +kernel
theorem dX0_ploughmen_32 : decode cX0_ploughmen 32 = .ok (.istore_n 1, 1) := by decide +kernel
theorem dX0_ploughmen_33 : decode cX0_ploughmen 33 = .ok (.iinc 2 1, 3) := by decide +kernel
theorem dX0_ploughmen_36 : decode cX0_ploughmen 36 = .ok (.goto (-32), 3) := by decide +kernel
theorem dX0_ploughmen_39 : decode cX0_ploughmen 39 = .ok (.iload_n 1, 1) := by decide +kernel
theorem dX0_ploughmen_40 : decode cX0_ploughmen 40 = .ok (.ireturn, 1) := by decide +kernel
theorem dX1_init_0 : decode cX1_init 0 = .ok (.aload_n 0, 1) := by decide +kernel
theorem dX1_init_1 : decode cX1_init 1 = .ok (.invokespecial 3, 3) := by decide +kernel
theorem dX1_init_4 : decode cX1_init 4 = .ok (.aload_n 0, 1) := by decide +kernel
theorem dX1_init_5 : decode cX1_init 5 = .ok (.bipush 40, 2) := by decide +kernel
theorem dX1_init_7 : decode cX1_init 7 = .ok (.newarray .int, 2) := by decide +kernel
theorem dX1_init_9 : decode cX1_init 9 = .ok (.putfield 9, 3) := by decide +kernel
theorem dX1_init_12 : decode cX1_init 12 = .ok (.aload_n 0, 1) := by decide +kernel
theorem dX1_init_13 : decode cX1_init 13 = .ok (.bipush 40, 2) := by decide +kernel
theorem dX1_init_15 : decode cX1_init 15 = .ok (.newarray .int, 2) := by decide +kernel
theorem dX1_init_17 : decode cX1_init 17 = .ok (.putfield 15, 3) := by decide +kernel
theorem dX1_init_20 : decode cX1_init 20 = .ok (.aload_n 0, 1) := by decide +kernel
theorem dX1_init_21 : decode cX1_init 21 = .ok (.iload_n 1, 1) := by decide +kernel
theorem dX1_init_22 : decode cX1_init 22 = .ok (.putfield 18, 3) := by decide +kernel
theorem dX1_init_25 : decode cX1_init 25 = .ok (.return_, 1) := by decide +kernel
theorem dX1_hasRoomFor_0 : decode cX1_hasRoomFor 0 = .ok (.aload_n 0, 1) := by decide +kernel
theorem dX1_hasRoomFor_1 : decode cX1_hasRoomFor 1 = .ok (.getfield 18, 3) := by decide +kernel
theorem dX1_hasRoomFor_4 : decode cX1_hasRoomFor 4 = .ok (.bipush 40, 2) := by decide +kernel
theorem dX1_hasRoomFor_6 : decode cX1_hasRoomFor 6 = .ok (.iload_n 1, 1) := by decide +kernel
theorem dX1_hasRoomFor_7 : decode cX1_hasRoomFor 7 = .ok (.isub, 1) := by decide +kernel
theorem dX1_hasRoomFor_8 : decode cX1_hasRoomFor 8 = .ok (.if_icmp .gt 7, 3) := by decide +kernel
theorem dX1_hasRoomFor_11 : decode cX1_hasRoomFor 11 = .ok (.iconst 1, 1) := by decide +kernel
theorem dX1_hasRoomFor_12 : decode cX1_hasRoomFor 12 = .ok (.goto 4, 3) := by decide +kernel
theorem dX1_hasRoomFor_15 : decode cX1_hasRoomFor 15 = .ok (.iconst 0, 1) := by decide +kernel
theorem dX1_hasRoomFor_16 : decode cX1_hasRoomFor 16 = .ok (.ireturn, 1) := by decide +kernel
theorem dX1_add_0 : decode cX1_add 0 = .ok (.aload_n 0, 1) := by decide +kernel
theorem dX1_add_1 : decode cX1_add 1 = .ok (.iconst 1, 1) := by decide +kernel
theorem dX1_add_2 : decode cX1_add 2 = .ok (.invokevirtual 22, 3) := by decide +kernel
theorem dX1_add_5 : decode cX1_add 5 = .ok (.ifCond .eq 33, 3) := by decide +kernel
theorem dX1_add_8 : decode cX1_add 8 = .ok (.aload_n 0, 1) := by decide +kernel
theorem dX1_add_9 : decode cX1_add 9 = .ok (.getfield 9, 3) := by decide +kernel
theorem dX1_add_12 : decode cX1_add 12 = .ok (.aload_n 0, 1) := by decide +kernel
theorem dX1_add_13 : decode cX1_add 13 = .ok (.getfield 18, 3) := by decide +kernel
theorem dX1_add_16 : decode cX1_add 16 = .ok (.iload_n 1, 1) := by decide +kernel
theorem dX1_add_17 : decode cX1_add 17 = .ok (.iastore, 1) := by decide +kernel
theorem dX1_add_18 : decode cX1_add 18 = .ok (.aload_n 0, 1) := by decide +kernel
theorem dX1_add_19 : decode cX1_add 19 = .ok (.getfield 15, 3) := by decide +kernel
theorem dX1_add_22 : decode cX1_add 22 = .ok (.aload_n 0, 1) := by decide +kernel
theorem dX1_add_23 : decode cX1_add 23 = .ok (.getfield 18, 3) := by decide +kernel
theorem dX1_add_26 : decode cX1_add 26 = .ok (.iload_n 2, 1) := by decide +kernel
theorem dX1_add_27 : decode cX1_add 27 = .ok (.iastore, 1) := by decide +kernel
theorem dX1_add_28 : decode cX1_add 28 = .ok (.aload_n 0, 1) := by decide +kernel
theorem dX1_add_29 : decode cX1_add 29 = .ok (.dup, 1) := by decide +kernel
theorem dX1_add_30 : decode cX1_add 30 = .ok (.getfield 18, 3) := by decide +kernel
theorem dX1_add_33 : decode cX1_add 33 = .ok (.iconst 1, 1) := by decide +kernel
theorem dX1_add_34 : decode cX1_add 34 = .ok (.iadd, 1) := by decide +kernel
theorem dX1_add_35 : decode cX1_add 35 = .ok (.putfield 18, 3) := by decide +kernel
theorem dX1_add_38 : decode cX1_add 38 = .ok (.return_, 1) := by decide +kernel
theorem dX1_become_0 : decode cX1_become 0 = .ok (.iconst 0, 1) := by decide +kernel
theorem dX1_become_1 : decode cX1_become 1 = .ok (.istore_n 2, 1) := by decide +kernel
theorem dX1_become_2 : decode cX1_become 2 = .ok (.iload_n 2, 1) := by decide +kernel
theorem dX1_become_3 : decode cX1_become 3 = .ok (.aload_n 1, 1) := by decide +kernel
theorem dX1_become_4 : decode cX1_become 4 = .ok (.getfield 18, 3) := by decide +kernel
theorem dX1_become_7 : decode cX1_become 7 = .ok (.if_icmp .ge 33, 3) := by decide +kernel
theorem dX1_become_10 : decode cX1_become 10 = .ok (.aload_n 0, 1) := by decide +kernel
theorem dX1_become_11 : decode cX1_become 11 = .ok (.getfield 9, 3) := by decide +kernel
theorem dX1_become_14 : decode cX1_become 14 = .ok (.iload_n 2, 1) := by decide +kernel
theorem dX1_become_15 : decode cX1_become 15 = .ok (.aload_n 1, 1) := by decide +kernel
theorem dX1_become_16 : decode cX1_become 16 = .ok (.getfield 9, 3) := by decide +kernel
theorem dX1_become_19 : decode cX1_become 19 = .ok (.iload_n 2, 1) := by decide +kernel
theorem dX1_become_20 : decode cX1_become 20 = .ok (.iaload, 1) := by decide +kernel
theorem dX1_become_21 : decode cX1_become 21 = .ok (.iastore, 1) := by decide +kernel
theorem dX1_become_22 : decode cX1_become 22 = .ok (.aload_n 0, 1) := by decide +kernel
theorem dX1_become_23 : decode cX1_become 23 = .ok (.getfield 15, 3) := by decide +kernel
theorem dX1_become_26 : decode cX1_become 26 = .ok (.iload_n 2, 1) := by decide +kernel
theorem dX1_become_27 : decode cX1_become 27 = .ok (.aload_n 1, 1) := by decide +kernel
theorem dX1_become_28 : decode cX1_become 28 = .ok (.getfield 15, 3) := by decide +kernel
theorem dX1_become_31 : decode cX1_become 31 = .ok (.iload_n 2, 1) := by decide +kernel
theorem dX1_become_32 : decode cX1_become 32 = .ok (.iaload, 1) := by decide +kernel
theorem dX1_become_33 : decode cX1_become 33 = .ok (.iastore, 1) := by decide +kernel
theorem dX1_become_34 : decode cX1_become 34 = .ok (.iinc 2 1, 3) := by decide +kernel
theorem dX1_become_37 : decode cX1_become 37 = .ok (.goto (-35), 3) := by decide +kernel
theorem dX1_become_40 : decode cX1_become 40 = .ok (.aload_n 0, 1) := by decide +kernel
theorem dX1_become_41 : decode cX1_become 41 = .ok (.aload_n 1, 1) := by decide +kernel
theorem dX1_become_42 : decode cX1_become 42 = .ok (.getfield 18, 3) := by decide +kernel
theorem dX1_become_45 : decode cX1_become 45 = .ok (.putfield 18, 3) := by decide +kernel
theorem dX1_become_48 : decode cX1_become 48 = .ok (.return_, 1) := by decide +kernel
theorem dX2_init_0 : decode cX2_init 0 = .ok (.aload_n 0, 1) := by decide +kernel
theorem dX2_init_1 : decode cX2_init 1 = .ok (.invokespecial 3, 3) := by decide +kernel
theorem dX2_init_4 : decode cX2_init 4 = .ok (.aload_n 0, 1) := by decide +kernel
theorem dX2_init_5 : decode cX2_init 5 = .ok (.bipush 31, 2) := by decide +kernel
theorem dX2_init_7 : decode cX2_init 7 = .ok (.newarray .int, 2) := by decide +kernel
theorem dX2_init_9 : decode cX2_init 9 = .ok (.putfield 9, 3) := by decide +kernel
theorem dX2_init_12 : decode cX2_init 12 = .ok (.aload_n 0, 1) := by decide +kernel
theorem dX2_init_13 : decode cX2_init 13 = .ok (.bipush 31, 2) := by decide +kernel
theorem dX2_init_15 : decode cX2_init 15 = .ok (.newarray .int, 2) := by decide +kernel
theorem dX2_init_17 : decode cX2_init 17 = .ok (.putfield 15, 3) := by decide +kernel
theorem dX2_init_20 : decode cX2_init 20 = .ok (.return_, 1) := by decide +kernel
theorem dX2_foulAtLast_0 : decode cX2_foulAtLast 0 = .ok (.iconst 0, 1) := by decide +kernel
theorem dX2_foulAtLast_1 : decode cX2_foulAtLast 1 = .ok (.istore_n 3, 1) := by decide +kernel
theorem dX2_foulAtLast_2 : decode cX2_foulAtLast 2 = .ok (.iload_n 3, 1) := by decide +kernel
theorem dX2_foulAtLast_3 : decode cX2_foulAtLast 3 = .ok (.bipush 31, 2) := by decide +kernel
theorem dX2_foulAtLast_5 : decode cX2_foulAtLast 5 = .ok (.if_icmp .ge 20, 3) := by decide +kernel
theorem dX2_foulAtLast_8 : decode cX2_foulAtLast 8 = .ok (.aload_n 0, 1) := by decide +kernel
theorem dX2_foulAtLast_9 : decode cX2_foulAtLast 9 = .ok (.getfield 9, 3) := by decide +kernel
theorem dX2_foulAtLast_12 : decode cX2_foulAtLast 12 = .ok (.iload_n 3, 1) := by decide +kernel
theorem dX2_foulAtLast_13 : decode cX2_foulAtLast 13 = .ok (.aload_n 1, 1) := by decide +kernel
theorem dX2_foulAtLast_14 : decode cX2_foulAtLast 14 = .ok (.iload_n 3, 1) := by decide +kernel
theorem dX2_foulAtLast_15 : decode cX2_foulAtLast 15 = .ok (.invokevirtual 18, 3) := by decide +kernel
theorem dX2_foulAtLast_18 : decode cX2_foulAtLast 18 = .ok (.iastore, 1) := by decide +kernel
theorem dX2_foulAtLast_19 : decode cX2_foulAtLast 19 = .ok (.iinc 3 1, 3) := by decide +kernel
theorem dX2_foulAtLast_22 : decode cX2_foulAtLast 22 = .ok (.goto (-20), 3) := by decide +kernel
theorem dX2_foulAtLast_25 : decode cX2_foulAtLast 25 = .ok (.iload_n 2, 1) := by decide +kernel
theorem dX2_foulAtLast_26 : decode cX2_foulAtLast 26 = .ok (.iconst 1, 1) := by decide +kernel
theorem dX2_foulAtLast_27 : decode cX2_foulAtLast 27 = .ok (.isub, 1) := by decide +kernel
theorem dX2_foulAtLast_28 : decode cX2_foulAtLast 28 = .ok (.istore_n 3, 1) := by decide +kernel
theorem dX2_foulAtLast_29 : decode cX2_foulAtLast 29 = .ok (.iload_n 3, 1) := by decide +kernel
theorem dX2_foulAtLast_30 : decode cX2_foulAtLast 30 = .ok (.ifCond .lt 69, 3) := by decide +kernel
theorem dX2_foulAtLast_33 : decode cX2_foulAtLast 33 = .ok (.iconst 0, 1) := by decide +kernel
theorem dX2_foulAtLast_34 : decode cX2_foulAtLast 34 = .ok (.istore 4, 2) := by decide +kernel
theorem dX2_foulAtLast_36 : decode cX2_foulAtLast 36 = .ok (.iload 4, 2) := by decide +kernel
theorem dX2_foulAtLast_38 : decode cX2_foulAtLast 38 = .ok (.bipush 31, 2) := by decide +kernel
theorem dX2_foulAtLast_40 : decode cX2_foulAtLast 40 = .ok (.if_icmp .ge 33, 3) := by decide +kernel
theorem dX2_foulAtLast_43 : decode cX2_foulAtLast 43 = .ok (.aload_n 0, 1) := by decide +kernel
theorem dX2_foulAtLast_44 : decode cX2_foulAtLast 44 = .ok (.getfield 15, 3) := by decide +kernel
theorem dX2_foulAtLast_47 : decode cX2_foulAtLast 47 = .ok (.iload 4, 2) := by decide +kernel
theorem dX2_foulAtLast_49 : decode cX2_foulAtLast 49 = .ok (.aload_n 0, 1) := by decide +kernel
theorem dX2_foulAtLast_50 : decode cX2_foulAtLast 50 = .ok (.iload 4, 2) := by decide +kernel
theorem dX2_foulAtLast_52 : decode cX2_foulAtLast 52 = .ok (.iload_n 3, 1) := by decide +kernel
theorem dX2_foulAtLast_53 : decode cX2_foulAtLast 53 = .ok (.iconst 2, 1) := by decide +kernel
theorem dX2_foulAtLast_54 : decode cX2_foulAtLast 54 = .ok (.irem, 1) := by decide +kernel
theorem dX2_foulAtLast_55 : decode cX2_foulAtLast 55 = .ok (.ifCond .ne 7, 3) := by decide +kernel
theorem dX2_foulAtLast_58 : decode cX2_foulAtLast 58 = .ok (.iconst 1, 1) := by decide +kernel
theorem dX2_foulAtLast_59 : decode cX2_foulAtLast 59 = .ok (.goto 4, 3) := by decide +kernel
theorem dX2_foulAtLast_62 : decode cX2_foulAtLast 62 = .ok (.iconst 0, 1) := by decide +kernel
theorem dX2_foulAtLast_63 : decode cX2_foulAtLast 63 = .ok (.invokevirtual 24, 3) := by decide +kernel
theorem dX2_foulAtLast_66 : decode cX2_foulAtLast 66 = .ok (.iastore, 1) := by decide +kernel
theorem dX2_foulAtLast_67 : decode cX2_foulAtLast 67 = .ok (.iinc 4 1, 3) := by decide +kernel
theorem dX2_foulAtLast_70 : decode cX2_foulAtLast 70 = .ok (.goto (-34), 3) := by decide +kernel
theorem dX2_foulAtLast_73 : decode cX2_foulAtLast 73 = .ok (.aload_n 0, 1) := by decide +kernel
theorem dX2_foulAtLast_74 : decode cX2_foulAtLast 74 = .ok (.getfield 9, 3) := by decide +kernel
theorem dX2_foulAtLast_77 : decode cX2_foulAtLast 77 = .ok (.astore 4, 2) := by decide +kernel
theorem dX2_foulAtLast_79 : decode cX2_foulAtLast 79 = .ok (.aload_n 0, 1) := by decide +kernel
theorem dX2_foulAtLast_80 : decode cX2_foulAtLast 80 = .ok (.aload_n 0, 1) := by decide +kernel
theorem dX2_foulAtLast_81 : decode cX2_foulAtLast 81 = .ok (.getfield 15, 3) := by decide +kernel
theorem dX2_foulAtLast_84 : decode cX2_foulAtLast 84 = .ok (.putfield 9, 3) := by decide +kernel
theorem dX2_foulAtLast_87 : decode cX2_foulAtLast 87 = .ok (.aload_n 0, 1) := by decide +kernel
theorem dX2_foulAtLast_88 : decode cX2_foulAtLast 88 = .ok (.aload 4, 2) := by decide +kernel
theorem dX2_foulAtLast_90 : decode cX2_foulAtLast 90 = .ok (.putfield 15, 3) := by decide +kernel
theorem dX2_foulAtLast_93 : decode cX2_foulAtLast 93 = .ok (.iinc 3 (-1), 3) := by decide +kernel
theorem dX2_foulAtLast_96 : decode cX2_foulAtLast 96 = .ok (.goto (-67), 3) := by decide +kernel
theorem dX2_foulAtLast_99 : decode cX2_foulAtLast 99 = .ok (.aload_n 0, 1) := by decide +kernel
theorem dX2_foulAtLast_100 : decode cX2_foulAtLast 100 = .ok (.getfield 9, 3) := by decide +kernel
theorem dX2_foulAtLast_103 : decode cX2_foulAtLast 103 = .ok (.aload_n 1, 1) := by decide +kernel
theorem dX2_foulAtLast_104 : decode cX2_foulAtLast 104 = .ok (.getfield 28, 3) := by decide +kernel
theorem dX2_foulAtLast_107 : decode cX2_foulAtLast 107 = .ok (.iaload, 1) := by decide +kernel
theorem dX2_foulAtLast_108 : decode cX2_foulAtLast 108 = .ok (.ireturn, 1) := by decide +kernel
theorem dX2_chosen_0 : decode cX2_chosen 0 = .ok (.aload_n 0, 1) := by decide +kernel
theorem dX2_chosen_1 : decode cX2_chosen 1 = .ok (.getfield 9, 3) := by decide +kernel
theorem dX2_chosen_4 : decode cX2_chosen 4 = .ok (.iload_n 1, 1) := by decide +kernel
theorem dX2_chosen_5 : decode cX2_chosen 5 = .ok (.iaload, 1) := by decide +kernel
theorem dX2_chosen_6 : decode cX2_chosen 6 = .ok (.istore_n 3, 1) := by decide +kernel
theorem dX2_chosen_7 : decode cX2_chosen 7 = .ok (.bipush (-3), 2) := by decide +kernel
theorem dX2_chosen_9 : decode cX2_chosen 9 = .ok (.istore 4, 2) := by decide +kernel
theorem dX2_chosen_11 : decode cX2_chosen 11 = .ok (.iload 4, 2) := by decide +kernel
theorem dX2_chosen_13 : decode cX2_chosen 13 = .ok (.iconst 3, 1) := by decide +kernel
theorem dX2_chosen_14 : decode cX2_chosen 14 = .ok (.if_icmp .gt 43, 3) := by decide +kernel
theorem dX2_chosen_17 : decode cX2_chosen 17 = .ok (.aload_n 0, 1) := by decide +kernel
theorem dX2_chosen_18 : decode cX2_chosen 18 = .ok (.getfield 9, 3) := by decide +kernel
theorem dX2_chosen_21 : decode cX2_chosen 21 = .ok (.iload_n 1, 1) := by decide +kernel
theorem dX2_chosen_22 : decode cX2_chosen 22 = .ok (.iload 4, 2) := by decide +kernel
theorem dX2_chosen_24 : decode cX2_chosen 24 = .ok (.iadd, 1) := by decide +kernel
theorem dX2_chosen_25 : decode cX2_chosen 25 = .ok (.invokestatic 32, 3) := by decide +kernel
theorem dX2_chosen_28 : decode cX2_chosen 28 = .ok (.iaload, 1) := by decide +kernel
theorem dX2_chosen_29 : decode cX2_chosen 29 = .ok (.istore 5, 2) := by decide +kernel
theorem dX2_chosen_31 : decode cX2_chosen 31 = .ok (.iload_n 2, 1) := by decide +kernel
theorem dX2_chosen_32 : decode cX2_chosen 32 = .ok (.ifCond .eq 12, 3) := by decide +kernel
theorem dX2_chosen_35 : decode cX2_chosen 35 = .ok (.iload_n 3, 1) := by decide +kernel
theorem dX2_chosen_36 : decode cX2_chosen 36 = .ok (.iload 5, 2) := by decide +kernel
theorem dX2_chosen_38 : decode cX2_chosen 38 = .ok (.invokestatic 35, 3) := by decide +kernel
theorem dX2_chosen_41 : decode cX2_chosen 41 = .ok (.goto 9, 3) := by decide +kernel
theorem dX2_chosen_44 : decode cX2_chosen 44 = .ok (.iload_n 3, 1) := by decide +kernel
theorem dX2_chosen_45 : decode cX2_chosen 45 = .ok (.iload 5, 2) := by decide +kernel
theorem dX2_chosen_47 : decode cX2_chosen 47 = .ok (.invokestatic 41, 3) := by decide +kernel
theorem dX2_chosen_50 : decode cX2_chosen 50 = .ok (.istore_n 3, 1) := by decide +kernel
theorem dX2_chosen_51 : decode cX2_chosen 51 = .ok (.iinc 4 1, 3) := by decide +kernel
theorem dX2_chosen_54 : decode cX2_chosen 54 = .ok (.goto (-43), 3) := by decide +kernel
theorem dX2_chosen_57 : decode cX2_chosen 57 = .ok (.iload_n 3, 1) := by decide +kernel
theorem dX2_chosen_58 : decode cX2_chosen 58 = .ok (.ireturn, 1) := by decide +kernel
theorem dX3_init_0 : decode cX3_init 0 = .ok (.aload_n 0, 1) := by decide +kernel
theorem dX3_init_1 : decode cX3_init 1 = .ok (.invokespecial 3, 3) := by decide +kernel
theorem dX3_init_4 : decode cX3_init 4 = .ok (.aload_n 0, 1) := by decide +kernel
theorem dX3_init_5 : decode cX3_init 5 = .ok (.bipush (-9), 2) := by decide +kernel
theorem dX3_init_7 : decode cX3_init 7 = .ok (.putfield 9, 3) := by decide +kernel
theorem dX3_init_10 : decode cX3_init 10 = .ok (.return_, 1) := by decide +kernel
theorem dX3_become_0 : decode cX3_become 0 = .ok (.aload_n 0, 1) := by decide +kernel
theorem dX3_become_1 : decode cX3_become 1 = .ok (.iload_n 1, 1) := by decide +kernel
theorem dX3_become_2 : decode cX3_become 2 = .ok (.putfield 15, 3) := by decide +kernel
theorem dX3_become_5 : decode cX3_become 5 = .ok (.aload_n 0, 1) := by decide +kernel
theorem dX3_become_6 : decode cX3_become 6 = .ok (.iload_n 2, 1) := by decide +kernel
theorem dX3_become_7 : decode cX3_become 7 = .ok (.putfield 18, 3) := by decide +kernel
theorem dX3_become_10 : decode cX3_become 10 = .ok (.aload_n 0, 1) := by decide +kernel
theorem dX3_become_11 : decode cX3_become 11 = .ok (.iload_n 3, 1) := by decide +kernel
theorem dX3_become_12 : decode cX3_become 12 = .ok (.putfield 21, 3) := by decide +kernel
theorem dX3_become_15 : decode cX3_become 15 = .ok (.aload_n 0, 1) := by decide +kernel
theorem dX3_become_16 : decode cX3_become 16 = .ok (.iload 4, 2) := by decide +kernel
theorem dX3_become_18 : decode cX3_become 18 = .ok (.putfield 24, 3) := by decide +kernel
theorem dX3_become_21 : decode cX3_become 21 = .ok (.return_, 1) := by decide +kernel
theorem dX3_forgetDeeds_0 : decode cX3_forgetDeeds 0 = .ok (.aload_n 0, 1) := by decide +kernel
theorem dX3_forgetDeeds_1 : decode cX3_forgetDeeds 1 = .ok (.iconst 0, 1) := by decide +kernel
theorem dX3_forgetDeeds_2 : decode cX3_forgetDeeds 2 = .ok (.putfield 27, 3) := by decide +kernel
theorem dX3_forgetDeeds_5 : decode cX3_forgetDeeds 5 = .ok (.aload_n 0, 1) := by decide +kernel
theorem dX3_forgetDeeds_6 : decode cX3_forgetDeeds 6 = .ok (.bipush (-9), 2) := by decide +kernel
theorem dX3_forgetDeeds_8 : decode cX3_forgetDeeds 8 = .ok (.putfield 9, 3) := by decide +kernel
theorem dX3_forgetDeeds_11 : decode cX3_forgetDeeds 11 = .ok (.aload_n 0, 1) := by decide +kernel
theorem dX3_forgetDeeds_12 : decode cX3_forgetDeeds 12 = .ok (.iconst 0, 1) := by decide +kernel
theorem dX3_forgetDeeds_13 : decode cX3_forgetDeeds 13 = .ok (.putfield 30, 3) := by decide +kernel
theorem dX3_forgetDeeds_16 : decode cX3_forgetDeeds 16 = .ok (.return_, 1) := by decide +kernel
theorem dX3_isTried_0 : decode cX3_isTried 0 = .ok (.aload_n 0, 1) := by decide +kernel
theorem dX3_isTried_1 : decode cX3_isTried 1 = .ok (.getfield 9, 3) := by decide +kernel
theorem dX3_isTried_4 : decode cX3_isTried 4 = .ok (.bipush (-9), 2) := by decide +kernel
theorem dX3_isTried_6 : decode cX3_isTried 6 = .ok (.if_icmp .eq 7, 3) := by decide +kernel
theorem dX3_isTried_9 : decode cX3_isTried 9 = .ok (.iconst 1, 1) := by decide +kernel
theorem dX3_isTried_10 : decode cX3_isTried 10 = .ok (.goto 4, 3) := by decide +kernel
theorem dX3_isTried_13 : decode cX3_isTried 13 = .ok (.iconst 0, 1) := by decide +kernel
theorem dX3_isTried_14 : decode cX3_isTried 14 = .ok (.ireturn, 1) := by decide +kernel
theorem dX3_isOf_0 : decode cX3_isOf 0 = .ok (.aload_n 0, 1) := by decide +kernel
theorem dX3_isOf_1 : decode cX3_isOf 1 = .ok (.getfield 15, 3) := by decide +kernel
theorem dX3_isOf_4 : decode cX3_isOf 4 = .ok (.iload_n 1, 1) := by decide +kernel
theorem dX3_isOf_5 : decode cX3_isOf 5 = .ok (.if_icmp .eq 33, 3) := by decide +kernel
theorem dX3_isOf_8 : decode cX3_isOf 8 = .ok (.iload_n 1, 1) := by decide +kernel
theorem dX3_isOf_9 : decode cX3_isOf 9 = .ok (.ifCond .eq 29, 3) := by decide +kernel
theorem dX3_isOf_12 : decode cX3_isOf 12 = .ok (.iload_n 1, 1) := by decide +kernel
theorem dX3_isOf_13 : decode cX3_isOf 13 = .ok (.iconst 1, 1) := by decide +kernel
theorem dX3_isOf_14 : decode cX3_isOf 14 = .ok (.if_icmp .ne 11, 3) := by decide +kernel
theorem dX3_isOf_17 : decode cX3_isOf 17 = .ok (.aload_n 0, 1) := by decide +kernel
theorem dX3_isOf_18 : decode cX3_isOf 18 = .ok (.getfield 15, 3) := by decide +kernel
theorem dX3_isOf_21 : decode cX3_isOf 21 = .ok (.iconst 4, 1) := by decide +kernel
theorem dX3_isOf_22 : decode cX3_isOf 22 = .ok (.if_icmp .eq 16, 3) := by decide +kernel
theorem dX3_isOf_25 : decode cX3_isOf 25 = .ok (.iload_n 1, 1) := by decide +kernel
theorem dX3_isOf_26 : decode cX3_isOf 26 = .ok (.iconst 2, 1) := by decide +kernel
theorem dX3_isOf_27 : decode cX3_isOf 27 = .ok (.if_icmp .ne 15, 3) := by decide +kernel
theorem dX3_isOf_30 : decode cX3_isOf 30 = .ok (.aload_n 0, 1) := by decide +kernel
theorem dX3_isOf_31 : decode cX3_isOf 31 = .ok (.getfield 15, 3) := by decide +kernel
theorem dX3_isOf_34 : decode cX3_isOf 34 = .ok (.iconst 5, 1) := by decide +kernel
theorem dX3_isOf_35 : decode cX3_isOf 35 = .ok (.if_icmp .ne 7, 3) := by decide +kernel
theorem dX3_isOf_38 : decode cX3_isOf 38 = .ok (.iconst 1, 1) := by decide +kernel
theorem dX3_isOf_39 : decode cX3_isOf 39 = .ok (.goto 4, 3) := by decide +kernel
theorem dX3_isOf_42 : decode cX3_isOf 42 = .ok (.iconst 0, 1) := by decide +kernel
theorem dX3_isOf_43 : decode cX3_isOf 43 = .ok (.ireturn, 1) := by decide +kernel
theorem dX3_hardness_0 : decode cX3_hardness 0 = .ok (.aload_n 0, 1) := by decide +kernel
theorem dX3_hardness_1 : decode cX3_hardness 1 = .ok (.getfield 15, 3) := by decide +kernel
theorem dX3_hardness_4 : decode cX3_hardness 4 = .ok (.tableswitch 57 1 5 #[36, 50, 57, 43, 50], 36) := by decide +kernel
theorem dX3_hardness_40 : decode cX3_hardness 40 = .ok (.aload_n 0, 1) := by decide +kernel
theorem dX3_hardness_41 : decode cX3_hardness 41 = .ok (.getfield 24, 3) := by decide +kernel
theorem dX3_hardness_44 : decode cX3_hardness 44 = .ok (.iconst 3, 1) := by decide +kernel
theorem dX3_hardness_45 : decode cX3_hardness 45 = .ok (.iadd, 1) := by decide +kernel
theorem dX3_hardness_46 : decode cX3_hardness 46 = .ok (.ireturn, 1) := by decide +kernel
theorem dX3_hardness_47 : decode cX3_hardness 47 = .ok (.aload_n 0, 1) := by decide +kernel
theorem dX3_hardness_48 : decode cX3_hardness 48 = .ok (.getfield 24, 3) := by decide +kernel
theorem dX3_hardness_51 : decode cX3_hardness 51 = .ok (.iconst 5, 1) := by decide +kernel
theorem dX3_hardness_52 : decode cX3_hardness 52 = .ok (.iadd, 1) := by decide +kernel
theorem dX3_hardness_53 : decode cX3_hardness 53 = .ok (.ireturn, 1) := by decide +kernel
theorem dX3_hardness_54 : decode cX3_hardness 54 = .ok (.aload_n 0, 1) := by decide +kernel
theorem dX3_hardness_55 : decode cX3_hardness 55 = .ok (.getfield 24, 3) := by decide +kernel
theorem dX3_hardness_58 : decode cX3_hardness 58 = .ok (.iconst 2, 1) := by decide +kernel
theorem dX3_hardness_59 : decode cX3_hardness 59 = .ok (.idiv, 1) := by decide +kernel
theorem dX3_hardness_60 : decode cX3_hardness 60 = .ok (.ireturn, 1) := by decide +kernel
theorem dX3_hardness_61 : decode cX3_hardness 61 = .ok (.aload_n 0, 1) := by decide +kernel
theorem dX3_hardness_62 : decode cX3_hardness 62 = .ok (.getfield 24, 3) := by decide +kernel
theorem dX3_hardness_65 : decode cX3_hardness 65 = .ok (.ireturn, 1) := by decide +kernel
theorem dX3_appears_0 : decode cX3_appears 0 = .ok (.aload_n 0, 1) := by decide +kernel
theorem dX3_appears_1 : decode cX3_appears 1 = .ok (.getfield 15, 3) := by decide +kernel
theorem dX3_appears_4 : decode cX3_appears 4 = .ok (.iconst 4, 1) := by decide +kernel
theorem dX3_appears_5 : decode cX3_appears 5 = .ok (.if_icmp .ne 5, 3) := by decide +kernel
theorem dX3_appears_8 : decode cX3_appears 8 = .ok (.iconst 1, 1) := by decide +kernel
theorem dX3_appears_9 : decode cX3_appears 9 = .ok (.ireturn, 1) := by decide +kernel
theorem dX3_appears_10 : decode cX3_appears 10 = .ok (.aload_n 0, 1) := by decide +kernel
theorem dX3_appears_11 : decode cX3_appears 11 = .ok (.iconst 2, 1) := by decide +kernel
theorem dX3_appears_12 : decode cX3_appears 12 = .ok (.invokevirtual 34, 3) := by decide +kernel
theorem dX3_appears_15 : decode cX3_appears 15 = .ok (.ifCond .eq 9, 3) := by decide +kernel
theorem dX3_appears_18 : decode cX3_appears 18 = .ok (.iload_n 1, 1) := by decide +kernel
theorem dX3_appears_19 : decode cX3_appears 19 = .ok (.bipush 20, 2) := by decide +kernel
theorem dX3_appears_21 : decode cX3_appears 21 = .ok (.if_icmp .gt 17, 3) := by decide +kernel
theorem dX3_appears_24 : decode cX3_appears 24 = .ok (.aload_n 0, 1) := by decide +kernel
theorem dX3_appears_25 : decode cX3_appears 25 = .ok (.iconst 3, 1) := by decide +kernel
theorem dX3_appears_26 : decode cX3_appears 26 = .ok (.invokevirtual 34, 3) := by decide +kernel
theorem dX3_appears_29 : decode cX3_appears 29 = .ok (.ifCond .eq 11, 3) := by decide +kernel
theorem dX3_appears_32 : decode cX3_appears 32 = .ok (.iload_n 1, 1) := by decide +kernel
theorem dX3_appears_33 : decode cX3_appears 33 = .ok (.bipush 10, 2) := by decide +kernel
theorem dX3_appears_35 : decode cX3_appears 35 = .ok (.if_icmp .le 5, 3) := by decide +kernel
theorem dX3_appears_38 : decode cX3_appears 38 = .ok (.iconst 0, 1) := by decide +kernel
theorem dX3_appears_39 : decode cX3_appears 39 = .ok (.ireturn, 1) := by decide +kernel
theorem dX3_appears_40 : decode cX3_appears 40 = .ok (.aload_n 0, 1) := by decide +kernel
theorem dX3_appears_41 : decode cX3_appears 41 = .ok (.getfield 18, 3) := by decide +kernel
theorem dX3_appears_44 : decode cX3_appears 44 = .ok (.ifCond .eq 11, 3) := by decide +kernel
theorem dX3_appears_47 : decode cX3_appears 47 = .ok (.aload_n 0, 1) := by decide +kernel
theorem dX3_appears_48 : decode cX3_appears 48 = .ok (.getfield 21, 3) := by decide +kernel
theorem dX3_appears_51 : decode cX3_appears 51 = .ok (.iconst 3, 1) := by decide +kernel
theorem dX3_appears_52 : decode cX3_appears 52 = .ok (.if_icmp .ge 7, 3) := by decide +kernel
theorem dX3_appears_55 : decode cX3_appears 55 = .ok (.iconst 1, 1) := by decide +kernel
theorem dX3_appears_56 : decode cX3_appears 56 = .ok (.goto 4, 3) := by decide +kernel
theorem dX3_appears_59 : decode cX3_appears 59 = .ok (.iconst 0, 1) := by decide +kernel
theorem dX3_appears_60 : decode cX3_appears 60 = .ok (.ireturn, 1) := by decide +kernel
theorem dX3_wrongedBy_0 : decode cX3_wrongedBy 0 = .ok (.iload_n 1, 1) := by decide +kernel
theorem dX3_wrongedBy_1 : decode cX3_wrongedBy 1 = .ok (.iconst 1, 1) := by decide +kernel
theorem dX3_wrongedBy_2 : decode cX3_wrongedBy 2 = .ok (.if_icmp .ne 7, 3) := by decide +kernel
theorem dX3_wrongedBy_5 : decode cX3_wrongedBy 5 = .ok (.iconst 1, 1) := by decide +kernel
theorem dX3_wrongedBy_6 : decode cX3_wrongedBy 6 = .ok (.goto 4, 3) := by decide +kernel
theorem dX3_wrongedBy_9 : decode cX3_wrongedBy 9 = .ok (.iconst 0, 1) := by decide +kernel
theorem dX3_wrongedBy_10 : decode cX3_wrongedBy 10 = .ok (.aload_n 0, 1) := by decide +kernel
theorem dX3_wrongedBy_11 : decode cX3_wrongedBy 11 = .ok (.getfield 18, 3) := by decide +kernel
theorem dX3_wrongedBy_14 : decode cX3_wrongedBy 14 = .ok (.iconst 1, 1) := by decide +kernel
theorem dX3_wrongedBy_15 : decode cX3_wrongedBy 15 = .ok (.if_icmp .ne 7, 3) := by decide +kernel
theorem dX3_wrongedBy_18 : decode cX3_wrongedBy 18 = .ok (.iconst 1, 1) := by decide +kernel
theorem dX3_wrongedBy_19 : decode cX3_wrongedBy 19 = .ok (.goto 4, 3) := by decide +kernel
theorem dX3_wrongedBy_22 : decode cX3_wrongedBy 22 = .ok (.iconst 0, 1) := by decide +kernel
theorem dX3_wrongedBy_23 : decode cX3_wrongedBy 23 = .ok (.if_icmp .ne 7, 3) := by decide +kernel
theorem dX3_wrongedBy_26 : decode cX3_wrongedBy 26 = .ok (.iconst 1, 1) := by decide +kernel
theorem dX3_wrongedBy_27 : decode cX3_wrongedBy 27 = .ok (.goto 4, 3) := by decide +kernel
theorem dX3_wrongedBy_30 : decode cX3_wrongedBy 30 = .ok (.iconst 0, 1) := by decide +kernel
theorem dX3_wrongedBy_31 : decode cX3_wrongedBy 31 = .ok (.ireturn, 1) := by decide +kernel
theorem dX3_dueByLot_0 : decode cX3_dueByLot 0 = .ok (.aload_n 0, 1) := by decide +kernel
theorem dX3_dueByLot_1 : decode cX3_dueByLot 1 = .ok (.invokevirtual 38, 3) := by decide +kernel
theorem dX3_dueByLot_4 : decode cX3_dueByLot 4 = .ok (.ifCond .ne 5, 3) := by decide +kernel
theorem dX3_dueByLot_7 : decode cX3_dueByLot 7 = .ok (.iconst 2, 1) := by decide +kernel
theorem dX3_dueByLot_8 : decode cX3_dueByLot 8 = .ok (.ireturn, 1) := by decide +kernel
theorem dX3_dueByLot_9 : decode cX3_dueByLot 9 = .ok (.aload_n 0, 1) := by decide +kernel
theorem dX3_dueByLot_10 : decode cX3_dueByLot 10 = .ok (.getfield 27, 3) := by decide +kernel
theorem dX3_dueByLot_13 : decode cX3_dueByLot 13 = .ok (.iconst 3, 1) := by decide +kernel
theorem dX3_dueByLot_14 : decode cX3_dueByLot 14 = .ok (.if_icmp .ge 7, 3) := by decide +kernel
theorem dX3_dueByLot_17 : decode cX3_dueByLot 17 = .ok (.iconst 1, 1) := by decide +kernel
theorem dX3_dueByLot_18 : decode cX3_dueByLot 18 = .ok (.goto 4, 3) := by decide +kernel
theorem dX3_dueByLot_21 : decode cX3_dueByLot 21 = .ok (.iconst 3, 1) := by decide +kernel
theorem dX3_dueByLot_22 : decode cX3_dueByLot 22 = .ok (.ireturn, 1) := by decide +kernel
theorem dX4_init_0 : decode cX4_init 0 = .ok (.aload_n 0, 1) := by decide +kernel
theorem dX4_init_1 : decode cX4_init 1 = .ok (.invokespecial 3, 3) := by decide +kernel
theorem dX4_init_4 : decode cX4_init 4 = .ok (.aload_n 0, 1) := by decide +kernel
theorem dX4_init_5 : decode cX4_init 5 = .ok (.bipush 6, 2) := by decide +kernel
theorem dX4_init_7 : decode cX4_init 7 = .ok (.newarray .int, 2) := by decide +kernel
theorem dX4_init_9 : decode cX4_init 9 = .ok (.putfield 9, 3) := by decide +kernel
theorem dX4_init_12 : decode cX4_init 12 = .ok (.return_, 1) := by decide +kernel
theorem dX4_layBest_0 : decode cX4_layBest 0 = .ok (.iconst 1, 1) := by decide +kernel
theorem dX4_layBest_1 : decode cX4_layBest 1 = .ok (.aload_n 1, 1) := by decide +kernel
theorem dX4_layBest_2 : decode cX4_layBest 2 = .ok (.getfield 15, 3) := by decide +kernel
theorem dX4_layBest_5 : decode cX4_layBest 5 = .ok (.ishl, 1) := by decide +kernel
theorem dX4_layBest_6 : decode cX4_layBest 6 = .ok (.iconst 1, 1) := by decide +kernel
theorem dX4_layBest_7 : decode cX4_layBest 7 = .ok (.isub, 1) := by decide +kernel
theorem dX4_layBest_8 : decode cX4_layBest 8 = .ok (.istore_n 3, 1) := by decide +kernel
theorem dX4_layBest_9 : decode cX4_layBest 9 = .ok (.iload_n 3, 1) := by decide +kernel
theorem dX4_layBest_10 : decode cX4_layBest 10 = .ok (.aload_n 1, 1) := by decide +kernel
theorem dX4_layBest_11 : decode cX4_layBest 11 = .ok (.invokevirtual 21, 3) := by decide +kernel
theorem dX4_layBest_14 : decode cX4_layBest 14 = .ok (.iconst (-1), 1) := by decide +kernel
theorem dX4_layBest_15 : decode cX4_layBest 15 = .ok (.ixor, 1) := by decide +kernel
theorem dX4_layBest_16 : decode cX4_layBest 16 = .ok (.iand, 1) := by decide +kernel
theorem dX4_layBest_17 : decode cX4_layBest 17 = .ok (.istore 4, 2) := by decide +kernel
theorem dX4_layBest_19 : decode cX4_layBest 19 = .ok (.aload_n 2, 1) := by decide +kernel
theorem dX4_layBest_20 : decode cX4_layBest 20 = .ok (.iload 4, 2) := by decide +kernel
theorem dX4_layBest_22 : decode cX4_layBest 22 = .ok (.invokestatic 25, 3) := by decide +kernel
theorem dX4_layBest_25 : decode cX4_layBest 25 = .ok (.iconst 0, 1) := by decide +kernel
theorem dX4_layBest_26 : decode cX4_layBest 26 = .ok (.invokevirtual 31, 3) := by decide +kernel
theorem dX4_layBest_29 : decode cX4_layBest 29 = .ok (.aload_n 0, 1) := by decide +kernel
theorem dX4_layBest_30 : decode cX4_layBest 30 = .ok (.bipush 7, 2) := by decide +kernel
theorem dX4_layBest_32 : decode cX4_layBest 32 = .ok (.putfield 37, 3) := by decide +kernel
theorem dX4_layBest_35 : decode cX4_layBest 35 = .ok (.aload_n 0, 1) := by decide +kernel
theorem dX4_layBest_36 : decode cX4_layBest 36 = .ok (.aload_n 1, 1) := by decide +kernel
theorem dX4_layBest_37 : decode cX4_layBest 37 = .ok (.aload_n 2, 1) := by decide +kernel
theorem dX4_layBest_38 : decode cX4_layBest 38 = .ok (.iload 4, 2) := by decide +kernel
theorem dX4_layBest_40 : decode cX4_layBest 40 = .ok (.iconst 0, 1) := by decide +kernel
theorem dX4_layBest_41 : decode cX4_layBest 41 = .ok (.aload_n 1, 1) := by decide +kernel
theorem dX4_layBest_42 : decode cX4_layBest 42 = .ok (.invokevirtual 40, 3) := by decide +kernel
theorem dX4_layBest_45 : decode cX4_layBest 45 = .ok (.aload_n 1, 1) := by decide +kernel
theorem dX4_layBest_46 : decode cX4_layBest 46 = .ok (.getfield 43, 3) := by decide +kernel
theorem dX4_layBest_49 : decode cX4_layBest 49 = .ok (.invokevirtual 46, 3) := by decide +kernel
theorem dX4_layBest_52 : decode cX4_layBest 52 = .ok (.aload_n 0, 1) := by decide +kernel
theorem dX4_layBest_53 : decode cX4_layBest 53 = .ok (.getfield 37, 3) := by decide +kernel
theorem dX4_layBest_56 : decode cX4_layBest 56 = .ok (.ireturn, 1) := by decide +kernel
theorem dX4_goOn_0 : decode cX4_goOn 0 = .ok (.iload 4, 2) := by decide +kernel
theorem dX4_goOn_2 : decode cX4_goOn 2 = .ok (.aload_n 0, 1) := by decide +kernel
theorem dX4_goOn_3 : decode cX4_goOn 3 = .ok (.getfield 37, 3) := by decide +kernel
theorem dX4_goOn_6 : decode cX4_goOn 6 = .ok (.if_icmp .lt 4, 3) := by decide +kernel
theorem dX4_goOn_9 : decode cX4_goOn 9 = .ok (.return_, 1) := by decide +kernel
theorem dX4_goOn_10 : decode cX4_goOn 10 = .ok (.iload_n 3, 1) := by decide +kernel
theorem dX4_goOn_11 : decode cX4_goOn 11 = .ok (.ifCond .ne 27, 3) := by decide +kernel
theorem dX4_goOn_14 : decode cX4_goOn 14 = .ok (.aload_n 0, 1) := by decide +kernel
theorem dX4_goOn_15 : decode cX4_goOn 15 = .ok (.iload 4, 2) := by decide +kernel
theorem dX4_goOn_17 : decode cX4_goOn 17 = .ok (.putfield 37, 3) := by decide +kernel
theorem dX4_goOn_20 : decode cX4_goOn 20 = .ok (.aload_n 0, 1) := by decide +kernel
theorem dX4_goOn_21 : decode cX4_goOn 21 = .ok (.getfield 9, 3) := by decide +kernel
theorem dX4_goOn_24 : decode cX4_goOn 24 = .ok (.iconst 0, 1) := by decide +kernel
theorem dX4_goOn_25 : decode cX4_goOn 25 = .ok (.aload_n 2, 1) := by decide +kernel
theorem dX4_goOn_26 : decode cX4_goOn 26 = .ok (.getfield 50, 3) := by decide +kernel
theorem dX4_goOn_29 : decode cX4_goOn 29 = .ok (.iconst 0, 1) := by decide +kernel
theorem dX4_goOn_30 : decode cX4_goOn 30 = .ok (.aload_n 2, 1) := by decide +kernel
theorem dX4_goOn_31 : decode cX4_goOn 31 = .ok (.getfield 53, 3) := by decide +kernel
theorem dX4_goOn_34 : decode cX4_goOn 34 = .ok (.invokestatic 54, 3) := by decide +kernel
theorem dX4_goOn_37 : decode cX4_goOn 37 = .ok (.return_, 1) := by decide +kernel
theorem dX4_goOn_38 : decode cX4_goOn 38 = .ok (.aload_n 2, 1) := by decide +kernel
theorem dX4_goOn_39 : decode cX4_goOn 39 = .ok (.getfield 53, 3) := by decide +kernel
theorem dX4_goOn_42 : decode cX4_goOn 42 = .ok (.iload_n 3, 1) := by decide +kernel
theorem dX4_goOn_43 : decode cX4_goOn 43 = .ok (.invokestatic 25, 3) := by decide +kernel
theorem dX4_goOn_46 : decode cX4_goOn 46 = .ok (.isub, 1) := by decide +kernel
theorem dX4_goOn_47 : decode cX4_goOn 47 = .ok (.istore 7, 2) := by decide +kernel
theorem dX4_goOn_49 : decode cX4_goOn 49 = .ok (.iconst 0, 1) := by decide +kernel
theorem dX4_goOn_50 : decode cX4_goOn 50 = .ok (.istore 8, 2) := by decide +kernel
theorem dX4_goOn_52 : decode cX4_goOn 52 = .ok (.iload 8, 2) := by decide +kernel
theorem dX4_goOn_54 : decode cX4_goOn 54 = .ok (.aload_n 1, 1) := by decide +kernel
theorem dX4_goOn_55 : decode cX4_goOn 55 = .ok (.getfield 15, 3) := by decide +kernel
theorem dX4_goOn_58 : decode cX4_goOn 58 = .ok (.if_icmp .ge 112, 3) := by decide +kernel
theorem dX4_goOn_61 : decode cX4_goOn 61 = .ok (.iload_n 3, 1) := by decide +kernel
theorem dX4_goOn_62 : decode cX4_goOn 62 = .ok (.iconst 1, 1) := by decide +kernel
theorem dX4_goOn_63 : decode cX4_goOn 63 = .ok (.iload 8, 2) := by decide +kernel
theorem dX4_goOn_65 : decode cX4_goOn 65 = .ok (.ishl, 1) := by decide +kernel
theorem dX4_goOn_66 : decode cX4_goOn 66 = .ok (.iand, 1) := by decide +kernel
theorem dX4_goOn_67 : decode cX4_goOn 67 = .ok (.ifCond .eq 97, 3) := by decide +kernel
theorem dX4_goOn_70 : decode cX4_goOn 70 = .ok (.aload_n 1, 1) := by decide +kernel
theorem dX4_goOn_71 : decode cX4_goOn 71 = .ok (.getfield 60, 3) := by decide +kernel
theorem dX4_goOn_74 : decode cX4_goOn 74 = .ok (.iload 8, 2) := by decide +kernel
theorem dX4_goOn_76 : decode cX4_goOn 76 = .ok (.aaload, 1) := by decide +kernel
theorem dX4_goOn_77 : decode cX4_goOn 77 = .ok (.astore 9, 2) := by decide +kernel
theorem dX4_goOn_79 : decode cX4_goOn 79 = .ok (.aload_n 1, 1) := by decide +kernel
theorem dX4_goOn_80 : decode cX4_goOn 80 = .ok (.aload 9, 2) := by decide +kernel
theorem dX4_goOn_82 : decode cX4_goOn 82 = .ok (.iload 6, 2) := by decide +kernel
theorem dX4_goOn_84 : decode cX4_goOn 84 = .ok (.invokevirtual 64, 3) := by decide +kernel
theorem dX4_goOn_87 : decode cX4_goOn 87 = .ok (.istore 10, 2) := by decide +kernel
theorem dX4_goOn_89 : decode cX4_goOn 89 = .ok (.aload 9, 2) := by decide +kernel
theorem dX4_goOn_91 : decode cX4_goOn 91 = .ok (.iload 10, 2) := by decide +kernel
theorem dX4_goOn_93 : decode cX4_goOn 93 = .ok (.invokevirtual 68, 3) := by decide +kernel
theorem dX4_goOn_96 : decode cX4_goOn 96 = .ok (.ifCond .eq 10, 3) := by decide +kernel
theorem dX4_goOn_99 : decode cX4_goOn 99 = .ok (.iload 4, 2) := by decide +kernel
theorem dX4_goOn_101 : decode cX4_goOn 101 = .ok (.iconst 1, 1) := by decide +kernel
theorem dX4_goOn_102 : decode cX4_goOn 102 = .ok (.iadd, 1) := by decide +kernel
theorem dX4_goOn_103 : decode cX4_goOn 103 = .ok (.goto 5, 3) := by decide +kernel
theorem dX4_goOn_106 : decode cX4_goOn 106 = .ok (.iload 4, 2) := by decide +kernel
theorem dX4_goOn_108 : decode cX4_goOn 108 = .ok (.istore 11, 2) := by decide +kernel
theorem dX4_goOn_110 : decode cX4_goOn 110 = .ok (.iload 10, 2) := by decide +kernel
theorem dX4_goOn_112 : decode cX4_goOn 112 = .ok (.iconst 1, 1) := by decide +kernel
theorem dX4_goOn_113 : decode cX4_goOn 113 = .ok (.if_icmp .ne 10, 3) := by decide +kernel
theorem dX4_goOn_116 : decode cX4_goOn 116 = .ok (.iload 5, 2) := by decide +kernel
theorem dX4_goOn_118 : decode cX4_goOn 118 = .ok (.iconst 1, 1) := by decide +kernel
theorem dX4_goOn_119 : decode cX4_goOn 119 = .ok (.iadd, 1) := by decide +kernel
theorem dX4_goOn_120 : decode cX4_goOn 120 = .ok (.goto 5, 3) := by decide +kernel
theorem dX4_goOn_123 : decode cX4_goOn 123 = .ok (.iload 5, 2) := by decide +kernel
theorem dX4_goOn_125 : decode cX4_goOn 125 = .ok (.istore 12, 2) := by decide +kernel
theorem dX4_goOn_127 : decode cX4_goOn 127 = .ok (.aload_n 0, 1) := by decide +kernel
theorem dX4_goOn_128 : decode cX4_goOn 128 = .ok (.getfield 9, 3) := by decide +kernel
theorem dX4_goOn_131 : decode cX4_goOn 131 = .ok (.iload 7, 2) := by decide +kernel
theorem dX4_goOn_133 : decode cX4_goOn 133 = .ok (.iload 8, 2) := by decide +kernel
theorem dX4_goOn_135 : decode cX4_goOn 135 = .ok (.iastore, 1) := by decide +kernel
theorem dX4_goOn_136 : decode cX4_goOn 136 = .ok (.aload_n 0, 1) := by decide +kernel
theorem dX4_goOn_137 : decode cX4_goOn 137 = .ok (.aload_n 1, 1) := by decide +kernel
theorem dX4_goOn_138 : decode cX4_goOn 138 = .ok (.aload_n 2, 1) := by decide +kernel
theorem dX4_goOn_139 : decode cX4_goOn 139 = .ok (.iload_n 3, 1) := by decide +kernel
theorem dX4_goOn_140 : decode cX4_goOn 140 = .ok (.iconst 1, 1) := by decide +kernel
theorem dX4_goOn_141 : decode cX4_goOn 141 = .ok (.iload 8, 2) := by decide +kernel
theorem dX4_goOn_143 : decode cX4_goOn 143 = .ok (.ishl, 1) := by decide +kernel
theorem dX4_goOn_144 : decode cX4_goOn 144 = .ok (.iconst (-1), 1) := by decide +kernel
theorem dX4_goOn_145 : decode cX4_goOn 145 = .ok (.ixor, 1) := by decide +kernel
theorem dX4_goOn_146 : decode cX4_goOn 146 = .ok (.iand, 1) := by decide +kernel
theorem dX4_goOn_147 : decode cX4_goOn 147 = .ok (.iload 11, 2) := by decide +kernel
theorem dX4_goOn_149 : decode cX4_goOn 149 = .ok (.iload 12, 2) := by decide +kernel
theorem dX4_goOn_151 : decode cX4_goOn 151 = .ok (.aload_n 1, 1) := by decide +kernel
theorem dX4_goOn_152 : decode cX4_goOn 152 = .ok (.iload 10, 2) := by decide +kernel
theorem dX4_goOn_154 : decode cX4_goOn 154 = .ok (.iload 12, 2) := by decide +kernel
theorem dX4_goOn_156 : decode cX4_goOn 156 = .ok (.iload 6, 2) := by decide +kernel
theorem dX4_goOn_158 : decode cX4_goOn 158 = .ok (.invokevirtual 74, 3) := by decide +kernel
theorem dX4_goOn_161 : decode cX4_goOn 161 = .ok (.invokevirtual 46, 3) := by decide +kernel
theorem dX4_goOn_164 : decode cX4_goOn 164 = .ok (.iinc 8 1, 3) := by decide +kernel
theorem dX4_goOn_167 : decode cX4_goOn 167 = .ok (.goto (-115), 3) := by decide +kernel
theorem dX4_goOn_170 : decode cX4_goOn 170 = .ok (.return_, 1) := by decide +kernel
theorem dX5_init_0 : decode cX5_init 0 = .ok (.aload_n 0, 1) := by decide +kernel
theorem dX5_init_1 : decode cX5_init 1 = .ok (.invokespecial 3, 3) := by decide +kernel
theorem dX5_init_4 : decode cX5_init 4 = .ok (.aload_n 0, 1) := by decide +kernel
theorem dX5_init_5 : decode cX5_init 5 = .ok (.bipush 28, 2) := by decide +kernel
theorem dX5_init_7 : decode cX5_init 7 = .ok (.newarray .int, 2) := by decide +kernel
theorem dX5_init_9 : decode cX5_init 9 = .ok (.putfield 11, 3) := by decide +kernel
theorem dX5_init_12 : decode cX5_init 12 = .ok (.return_, 1) := by decide +kernel
theorem dX5_read_0 : decode cX5_read 0 = .ok (.aload_n 0, 1) := by decide +kernel
theorem dX5_read_1 : decode cX5_read 1 = .ok (.iconst 0, 1) := by decide +kernel
theorem dX5_read_2 : decode cX5_read 2 = .ok (.putfield 15, 3) := by decide +kernel
theorem dX5_read_5 : decode cX5_read 5 = .ok (.aload_n 0, 1) := by decide +kernel
theorem dX5_read_6 : decode cX5_read 6 = .ok (.iconst 0, 1) := by decide +kernel
theorem dX5_read_7 : decode cX5_read 7 = .ok (.putfield 19, 3) := by decide +kernel
theorem dX5_read_10 : decode cX5_read 10 = .ok (.aload_n 0, 1) := by decide +kernel
theorem dX5_read_11 : decode cX5_read 11 = .ok (.iconst 0, 1) := by decide +kernel
theorem dX5_read_12 : decode cX5_read 12 = .ok (.putfield 22, 3) := by decide +kernel
theorem dX5_read_15 : decode cX5_read 15 = .ok (.aload_n 0, 1) := by decide +kernel
theorem dX5_read_16 : decode cX5_read 16 = .ok (.aload_n 1, 1) := by decide +kernel
theorem dX5_read_17 : decode cX5_read 17 = .ok (.invokevirtual 25, 3) := by decide +kernel
theorem dX5_read_20 : decode cX5_read 20 = .ok (.aload_n 0, 1) := by decide +kernel
theorem dX5_read_21 : decode cX5_read 21 = .ok (.aload_n 1, 1) := by decide +kernel
theorem dX5_read_22 : decode cX5_read 22 = .ok (.invokevirtual 29, 3) := by decide +kernel
theorem dX5_read_25 : decode cX5_read 25 = .ok (.istore_n 2, 1) := by decide +kernel
theorem dX5_read_26 : decode cX5_read 26 = .ok (.iconst 0, 1) := by decide +kernel
theorem dX5_read_27 : decode cX5_read 27 = .ok (.istore_n 3, 1) := by decide +kernel
theorem dX5_read_28 : decode cX5_read 28 = .ok (.iload_n 2, 1) := by decide +kernel
theorem dX5_read_29 : decode cX5_read 29 = .ok (.ifCond .eq 68, 3) := by decide +kernel
theorem dX5_read_32 : decode cX5_read 32 = .ok (.iload_n 3, 1) := by decide +kernel
theorem dX5_read_33 : decode cX5_read 33 = .ok (.bipush 6, 2) := by decide +kernel
theorem dX5_read_35 : decode cX5_read 35 = .ok (.if_icmp .gt 62, 3) := by decide +kernel
theorem dX5_read_38 : decode cX5_read 38 = .ok (.aload_n 0, 1) := by decide +kernel
theorem dX5_read_39 : decode cX5_read 39 = .ok (.aload_n 1, 1) := by decide +kernel
theorem dX5_read_40 : decode cX5_read 40 = .ok (.invokevirtual 25, 3) := by decide +kernel
theorem dX5_read_43 : decode cX5_read 43 = .ok (.aload_n 0, 1) := by decide +kernel
theorem dX5_read_44 : decode cX5_read 44 = .ok (.getfield 22, 3) := by decide +kernel
theorem dX5_read_47 : decode cX5_read 47 = .ok (.aload_n 1, 1) := by decide +kernel
theorem dX5_read_48 : decode cX5_read 48 = .ok (.getfield 33, 3) := by decide +kernel
theorem dX5_read_51 : decode cX5_read 51 = .ok (.if_icmp .ne 20, 3) := by decide +kernel
theorem dX5_read_54 : decode cX5_read 54 = .ok (.aload_n 0, 1) := by decide +kernel
theorem dX5_read_55 : decode cX5_read 55 = .ok (.getfield 19, 3) := by decide +kernel
theorem dX5_read_58 : decode cX5_read 58 = .ok (.ifCond .le 8, 3) := by decide +kernel
theorem dX5_read_61 : decode cX5_read 61 = .ok (.bipush (-9), 2) := by decide +kernel
theorem dX5_read_63 : decode cX5_read 63 = .ok (.goto 7, 3) := by decide +kernel
theorem dX5_read_66 : decode cX5_read 66 = .ok (.aload_n 0, 1) := by decide +kernel
theorem dX5_read_67 : decode cX5_read 67 = .ok (.getfield 22, 3) := by decide +kernel
theorem dX5_read_70 : decode cX5_read 70 = .ok (.ireturn, 1) := by decide +kernel
theorem dX5_read_71 : decode cX5_read 71 = .ok (.iload_n 3, 1) := by decide +kernel
theorem dX5_read_72 : decode cX5_read 72 = .ok (.bipush 6, 2) := by decide +kernel
theorem dX5_read_74 : decode cX5_read 74 = .ok (.if_icmp .ge 15, 3) := by decide +kernel
theorem dX5_read_77 : decode cX5_read 77 = .ok (.aload_n 0, 1) := by decide +kernel
theorem dX5_read_78 : decode cX5_read 78 = .ok (.aload_n 1, 1) := by decide +kernel
theorem dX5_read_79 : decode cX5_read 79 = .ok (.invokevirtual 38, 3) := by decide +kernel
theorem dX5_read_82 : decode cX5_read 82 = .ok (.ifCond .eq 7, 3) := by decide +kernel
theorem dX5_read_85 : decode cX5_read 85 = .ok (.iconst 1, 1) := by decide +kernel
theorem dX5_read_86 : decode cX5_read 86 = .ok (.goto 4, 3) := by decide +kernel
theorem dX5_read_89 : decode cX5_read 89 = .ok (.iconst 0, 1) := by decide +kernel
theorem dX5_read_90 : decode cX5_read 90 = .ok (.istore_n 2, 1) := by decide +kernel
theorem dX5_read_91 : decode cX5_read 91 = .ok (.iinc 3 1, 3) := by decide +kernel
theorem dX5_read_94 : decode cX5_read 94 = .ok (.goto (-66), 3) := by decide +kernel
theorem dX5_read_97 : decode cX5_read 97 = .ok (.aload_n 0, 1) := by decide +kernel
theorem dX5_read_98 : decode cX5_read 98 = .ok (.getfield 22, 3) := by decide +kernel
theorem dX5_read_101 : decode cX5_read 101 = .ok (.ireturn, 1) := by decide +kernel
theorem dX5_takeIron_0 : decode cX5_takeIron 0 = .ok (.aload_n 0, 1) := by decide +kernel
theorem dX5_takeIron_1 : decode cX5_takeIron 1 = .ok (.getfield 22, 3) := by decide +kernel
theorem dX5_takeIron_4 : decode cX5_takeIron 4 = .ok (.aload_n 1, 1) := by decide +kernel
theorem dX5_takeIron_5 : decode cX5_takeIron 5 = .ok (.getfield 33, 3) := by decide +kernel
theorem dX5_takeIron_8 : decode cX5_takeIron 8 = .ok (.if_icmp .ge 17, 3) := by decide +kernel
theorem dX5_takeIron_11 : decode cX5_takeIron 11 = .ok (.aload_n 1, 1) := by decide +kernel
theorem dX5_takeIron_12 : decode cX5_takeIron 12 = .ok (.getfield 41, 3) := by decide +kernel
theorem dX5_takeIron_15 : decode cX5_takeIron 15 = .ok (.aload_n 0, 1) := by decide +kernel
theorem dX5_takeIron_16 : decode cX5_takeIron 16 = .ok (.getfield 22, 3) := by decide +kernel
theorem dX5_takeIron_19 : decode cX5_takeIron 19 = .ok (.iaload, 1) := by decide +kernel
theorem dX5_takeIron_20 : decode cX5_takeIron 20 = .ok (.bipush 105, 2) := by decide +kernel
theorem dX5_takeIron_22 : decode cX5_takeIron 22 = .ok (.if_icmp .eq 5, 3) := by decide +kernel
theorem dX5_takeIron_25 : decode cX5_takeIron 25 = .ok (.iconst 0, 1) := by decide +kernel
theorem dX5_takeIron_26 : decode cX5_takeIron 26 = .ok (.ireturn, 1) := by decide +kernel
theorem dX5_takeIron_27 : decode cX5_takeIron 27 = .ok (.aload_n 0, 1) := by decide +kernel
theorem dX5_takeIron_28 : decode cX5_takeIron 28 = .ok (.dup, 1) := by decide +kernel
theorem dX5_takeIron_29 : decode cX5_takeIron 29 = .ok (.getfield 22, 3) := by decide +kernel
theorem dX5_takeIron_32 : decode cX5_takeIron 32 = .ok (.iconst 1, 1) := by decide +kernel
theorem dX5_takeIron_33 : decode cX5_takeIron 33 = .ok (.iadd, 1) := by decide +kernel
theorem dX5_takeIron_34 : decode cX5_takeIron 34 = .ok (.putfield 22, 3) := by decide +kernel
theorem dX5_takeIron_37 : decode cX5_takeIron 37 = .ok (.aload_n 0, 1) := by decide +kernel
theorem dX5_takeIron_38 : decode cX5_takeIron 38 = .ok (.aload_n 1, 1) := by decide +kernel
theorem dX5_takeIron_39 : decode cX5_takeIron 39 = .ok (.iconst 1, 1) := by decide +kernel
theorem dX5_takeIron_40 : decode cX5_takeIron 40 = .ok (.iconst 3, 1) := by decide +kernel
theorem dX5_takeIron_41 : decode cX5_takeIron 41 = .ok (.invokevirtual 44, 3) := by decide +kernel
theorem dX5_takeIron_44 : decode cX5_takeIron 44 = .ok (.ifCond .eq 40, 3) := by decide +kernel
theorem dX5_takeIron_47 : decode cX5_takeIron 47 = .ok (.aload_n 0, 1) := by decide +kernel
theorem dX5_takeIron_48 : decode cX5_takeIron 48 = .ok (.aload_n 1, 1) := by decide +kernel
theorem dX5_takeIron_49 : decode cX5_takeIron 49 = .ok (.iconst 0, 1) := by decide +kernel
theorem dX5_takeIron_50 : decode cX5_takeIron 50 = .ok (.bipush 9, 2) := by decide +kernel
theorem dX5_takeIron_52 : decode cX5_takeIron 52 = .ok (.invokevirtual 44, 3) := by decide +kernel
theorem dX5_takeIron_55 : decode cX5_takeIron 55 = .ok (.ifCond .eq 29, 3) := by decide +kernel
theorem dX5_takeIron_58 : decode cX5_takeIron 58 = .ok (.aload_n 0, 1) := by decide +kernel
theorem dX5_takeIron_59 : decode cX5_takeIron 59 = .ok (.aload_n 1, 1) := by decide +kernel
theorem dX5_takeIron_60 : decode cX5_takeIron 60 = .ok (.iconst 0, 1) := by decide +kernel
theorem dX5_takeIron_61 : decode cX5_takeIron 61 = .ok (.bipush 9, 2) := by decide +kernel
theorem dX5_takeIron_63 : decode cX5_takeIron 63 = .ok (.invokevirtual 44, 3) := by decide +kernel
theorem dX5_takeIron_66 : decode cX5_takeIron 66 = .ok (.ifCond .eq 18, 3) := by decide +kernel
theorem dX5_takeIron_69 : decode cX5_takeIron 69 = .ok (.aload_n 0, 1) := by decide +kernel
theorem dX5_takeIron_70 : decode cX5_takeIron 70 = .ok (.aload_n 1, 1) := by decide +kernel
