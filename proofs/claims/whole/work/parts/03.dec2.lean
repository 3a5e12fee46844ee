theorem dX8_mean_71 : decode cX8_mean 71 = .ok (.iinc 4 1, 3) := by decide +kernel
theorem dX8_mean_74 : decode cX8_mean 74 = .ok (.goto (-30), 3) := by decide +kernel
theorem dX8_mean_77 : decode cX8_mean 77 = .ok (.aload_n 0, 1) := by decide +kernel
theorem dX8_mean_78 : decode cX8_mean 78 = .ok (.lload_n 2, 1) := by decide +kernel
theorem dX8_mean_79 : decode cX8_mean 79 = .ok (.aload_n 0, 1) := by decide +kernel
theorem dX8_mean_80 : decode cX8_mean 80 = .ok (.getfield 25, 3) := by decide +kernel
theorem dX8_mean_83 : decode cX8_mean 83 = .ok (.iload_n 1, 1) := by decide +kernel
theorem dX8_mean_84 : decode cX8_mean 84 = .ok (.iaload, 1) := by decide +kernel
theorem dX8_mean_85 : decode cX8_mean 85 = .ok (.i2l, 1) := by decide +kernel
theorem dX8_mean_86 : decode cX8_mean 86 = .ok (.ldiv, 1) := by decide +kernel
theorem dX8_mean_87 : decode cX8_mean 87 = .ok (.l2i, 1) := by decide +kernel
theorem dX8_mean_88 : decode cX8_mean 88 = .ok (.invokevirtual 96, 3) := by decide +kernel
theorem dX8_mean_91 : decode cX8_mean 91 = .ok (.ireturn, 1) := by decide +kernel
theorem dX8_text_0 : decode cX8_text 0 = .ok (.iload_n 1, 1) := by decide +kernel
theorem dX8_text_1 : decode cX8_text 1 = .ok (.invokestatic 103, 3) := by decide +kernel
theorem dX8_text_4 : decode cX8_text 4 = .ok (.ifCond .eq 9, 3) := by decide +kernel
theorem dX8_text_7 : decode cX8_text 7 = .ok (.iload_n 2, 1) := by decide +kernel
theorem dX8_text_8 : decode cX8_text 8 = .ok (.bipush 60, 2) := by decide +kernel
theorem dX8_text_10 : decode cX8_text 10 = .ok (.if_icmp .le 5, 3) := by decide +kernel
theorem dX8_text_13 : decode cX8_text 13 = .ok (.iconst (-1), 1) := by decide +kernel
theorem dX8_text_14 : decode cX8_text 14 = .ok (.ireturn, 1) := by decide +kernel
theorem dX8_text_15 : decode cX8_text 15 = .ok (.iload_n 2, 1) := by decide +kernel
theorem dX8_text_16 : decode cX8_text 16 = .ok (.ifCond .ge 9, 3) := by decide +kernel
theorem dX8_text_19 : decode cX8_text 19 = .ok (.aload_n 0, 1) := by decide +kernel
theorem dX8_text_20 : decode cX8_text 20 = .ok (.iconst 5, 1) := by decide +kernel
theorem dX8_text_21 : decode cX8_text 21 = .ok (.invokevirtual 84, 3) := by decide +kernel
theorem dX8_text_24 : decode cX8_text 24 = .ok (.ireturn, 1) := by decide +kernel
theorem dX8_text_25 : decode cX8_text 25 = .ok (.aload_n 0, 1) := by decide +kernel
theorem dX8_text_26 : decode cX8_text 26 = .ok (.getfield 31, 3) := by decide +kernel
theorem dX8_text_29 : decode cX8_text 29 = .ok (.iload_n 1, 1) := by decide +kernel
theorem dX8_text_30 : decode cX8_text 30 = .ok (.iload_n 2, 1) := by decide +kernel
theorem dX8_text_31 : decode cX8_text 31 = .ok (.iastore, 1) := by decide +kernel
theorem dX8_text_32 : decode cX8_text 32 = .ok (.iconst 0, 1) := by decide +kernel
theorem dX8_text_33 : decode cX8_text 33 = .ok (.istore_n 3, 1) := by decide +kernel
theorem dX8_text_34 : decode cX8_text 34 = .ok (.iload_n 3, 1) := by decide +kernel
theorem dX8_text_35 : decode cX8_text 35 = .ok (.bipush 60, 2) := by decide +kernel
theorem dX8_text_37 : decode cX8_text 37 = .ok (.if_icmp .ge 22, 3) := by decide +kernel
theorem dX8_text_40 : decode cX8_text 40 = .ok (.aload_n 0, 1) := by decide +kernel
theorem dX8_text_41 : decode cX8_text 41 = .ok (.getfield 34, 3) := by decide +kernel
theorem dX8_text_44 : decode cX8_text 44 = .ok (.bipush 60, 2) := by decide +kernel
theorem dX8_text_46 : decode cX8_text 46 = .ok (.iload_n 1, 1) := by decide +kernel
theorem dX8_text_47 : decode cX8_text 47 = .ok (.imul, 1) := by decide +kernel
theorem dX8_text_48 : decode cX8_text 48 = .ok (.iload_n 3, 1) := by decide +kernel
theorem dX8_text_49 : decode cX8_text 49 = .ok (.iadd, 1) := by decide +kernel
theorem dX8_text_50 : decode cX8_text 50 = .ok (.bipush 32, 2) := by decide +kernel
theorem dX8_text_52 : decode cX8_text 52 = .ok (.iastore, 1) := by decide +kernel
theorem dX8_text_53 : decode cX8_text 53 = .ok (.iinc 3 1, 3) := by decide +kernel
theorem dX8_text_56 : decode cX8_text 56 = .ok (.goto (-22), 3) := by decide +kernel
theorem dX8_text_59 : decode cX8_text 59 = .ok (.iload_n 2, 1) := by decide +kernel
theorem dX8_text_60 : decode cX8_text 60 = .ok (.ireturn, 1) := by decide +kernel
theorem dX8_put_0 : decode cX8_put 0 = .ok (.iload_n 1, 1) := by decide +kernel
theorem dX8_put_1 : decode cX8_put 1 = .ok (.invokestatic 103, 3) := by decide +kernel
theorem dX8_put_4 : decode cX8_put 4 = .ok (.ifCond .ne 5, 3) := by decide +kernel
theorem dX8_put_7 : decode cX8_put 7 = .ok (.iconst (-1), 1) := by decide +kernel
theorem dX8_put_8 : decode cX8_put 8 = .ok (.ireturn, 1) := by decide +kernel
theorem dX8_put_9 : decode cX8_put 9 = .ok (.aload_n 0, 1) := by decide +kernel
theorem dX8_put_10 : decode cX8_put 10 = .ok (.getfield 31, 3) := by decide +kernel
theorem dX8_put_13 : decode cX8_put 13 = .ok (.iload_n 1, 1) := by decide +kernel
theorem dX8_put_14 : decode cX8_put 14 = .ok (.iaload, 1) := by decide +kernel
theorem dX8_put_15 : decode cX8_put 15 = .ok (.ifCond .ge 9, 3) := by decide +kernel
theorem dX8_put_18 : decode cX8_put 18 = .ok (.aload_n 0, 1) := by decide +kernel
theorem dX8_put_19 : decode cX8_put 19 = .ok (.iconst 1, 1) := by decide +kernel
theorem dX8_put_20 : decode cX8_put 20 = .ok (.invokevirtual 84, 3) := by decide +kernel
theorem dX8_put_23 : decode cX8_put 23 = .ok (.ireturn, 1) := by decide +kernel
theorem dX8_put_24 : decode cX8_put 24 = .ok (.iload_n 2, 1) := by decide +kernel
theorem dX8_put_25 : decode cX8_put 25 = .ok (.i2l, 1) := by decide +kernel
theorem dX8_put_26 : decode cX8_put 26 = .ok (.lconst 0, 1) := by decide +kernel
theorem dX8_put_27 : decode cX8_put 27 = .ok (.aload_n 0, 1) := by decide +kernel
theorem dX8_put_28 : decode cX8_put 28 = .ok (.getfield 31, 3) := by decide +kernel
theorem dX8_put_31 : decode cX8_put 31 = .ok (.iload_n 1, 1) := by decide +kernel
theorem dX8_put_32 : decode cX8_put 32 = .ok (.iaload, 1) := by decide +kernel
theorem dX8_put_33 : decode cX8_put 33 = .ok (.iconst 1, 1) := by decide +kernel
theorem dX8_put_34 : decode cX8_put 34 = .ok (.isub, 1) := by decide +kernel
theorem dX8_put_35 : decode cX8_put 35 = .ok (.i2l, 1) := by decide +kernel
theorem dX8_put_36 : decode cX8_put 36 = .ok (.invokestatic 74, 3) := by decide +kernel
theorem dX8_put_39 : decode cX8_put 39 = .ok (.ifCond .ne 9, 3) := by decide +kernel
theorem dX8_put_42 : decode cX8_put 42 = .ok (.aload_n 0, 1) := by decide +kernel
theorem dX8_put_43 : decode cX8_put 43 = .ok (.iconst 2, 1) := by decide +kernel
theorem dX8_put_44 : decode cX8_put 44 = .ok (.invokevirtual 84, 3) := by decide +kernel
theorem dX8_put_47 : decode cX8_put 47 = .ok (.ireturn, 1) := by decide +kernel
theorem dX8_put_48 : decode cX8_put 48 = .ok (.aload_n 0, 1) := by decide +kernel
theorem dX8_put_49 : decode cX8_put 49 = .ok (.getfield 34, 3) := by decide +kernel
theorem dX8_put_52 : decode cX8_put 52 = .ok (.bipush 60, 2) := by decide +kernel
theorem dX8_put_54 : decode cX8_put 54 = .ok (.iload_n 1, 1) := by decide +kernel
theorem dX8_put_55 : decode cX8_put 55 = .ok (.imul, 1) := by decide +kernel
theorem dX8_put_56 : decode cX8_put 56 = .ok (.iload_n 2, 1) := by decide +kernel
theorem dX8_put_57 : decode cX8_put 57 = .ok (.iadd, 1) := by decide +kernel
theorem dX8_put_58 : decode cX8_put 58 = .ok (.iaload, 1) := by decide +kernel
theorem dX8_put_59 : decode cX8_put 59 = .ok (.istore 4, 2) := by decide +kernel
theorem dX8_put_61 : decode cX8_put 61 = .ok (.aload_n 0, 1) := by decide +kernel
theorem dX8_put_62 : decode cX8_put 62 = .ok (.getfield 34, 3) := by decide +kernel
theorem dX8_put_65 : decode cX8_put 65 = .ok (.bipush 60, 2) := by decide +kernel
theorem dX8_put_67 : decode cX8_put 67 = .ok (.iload_n 1, 1) := by decide +kernel
theorem dX8_put_68 : decode cX8_put 68 = .ok (.imul, 1) := by decide +kernel
theorem dX8_put_69 : decode cX8_put 69 = .ok (.iload_n 2, 1) := by decide +kernel
theorem dX8_put_70 : decode cX8_put 70 = .ok (.iadd, 1) := by decide +kernel
theorem dX8_put_71 : decode cX8_put 71 = .ok (.iload_n 3, 1) := by decide +kernel
theorem dX8_put_72 : decode cX8_put 72 = .ok (.i2b, 1) := by decide +kernel
theorem dX8_put_73 : decode cX8_put 73 = .ok (.iastore, 1) := by decide +kernel
theorem dX8_put_74 : decode cX8_put 74 = .ok (.iload 4, 2) := by decide +kernel
theorem dX8_put_76 : decode cX8_put 76 = .ok (.sipush 1000, 3) := by decide +kernel
theorem dX8_put_79 : decode cX8_put 79 = .ok (.iadd, 1) := by decide +kernel
theorem dX8_put_80 : decode cX8_put 80 = .ok (.ireturn, 1) := by decide +kernel
theorem dX8_here_0 : decode cX8_here 0 = .ok (.aload_n 0, 1) := by decide +kernel
theorem dX8_here_1 : decode cX8_here 1 = .ok (.getfield 34, 3) := by decide +kernel
theorem dX8_here_4 : decode cX8_here 4 = .ok (.aload_n 0, 1) := by decide +kernel
theorem dX8_here_5 : decode cX8_here 5 = .ok (.getfield 106, 3) := by decide +kernel
theorem dX8_here_8 : decode cX8_here 8 = .ok (.aload_n 0, 1) := by decide +kernel
theorem dX8_here_9 : decode cX8_here 9 = .ok (.getfield 109, 3) := by decide +kernel
theorem dX8_here_12 : decode cX8_here 12 = .ok (.iadd, 1) := by decide +kernel
theorem dX8_here_13 : decode cX8_here 13 = .ok (.iaload, 1) := by decide +kernel
theorem dX8_here_14 : decode cX8_here 14 = .ok (.ireturn, 1) := by decide +kernel
theorem dX8_skip_0 : decode cX8_skip 0 = .ok (.aload_n 0, 1) := by decide +kernel
theorem dX8_skip_1 : decode cX8_skip 1 = .ok (.getfield 109, 3) := by decide +kernel
theorem dX8_skip_4 : decode cX8_skip 4 = .ok (.aload_n 0, 1) := by decide +kernel
theorem dX8_skip_5 : decode cX8_skip 5 = .ok (.getfield 112, 3) := by decide +kernel
theorem dX8_skip_8 : decode cX8_skip 8 = .ok (.if_icmp .ge 25, 3) := by decide +kernel
theorem dX8_skip_11 : decode cX8_skip 11 = .ok (.aload_n 0, 1) := by decide +kernel
theorem dX8_skip_12 : decode cX8_skip 12 = .ok (.invokevirtual 115, 3) := by decide +kernel
theorem dX8_skip_15 : decode cX8_skip 15 = .ok (.bipush 32, 2) := by decide +kernel
theorem dX8_skip_17 : decode cX8_skip 17 = .ok (.if_icmp .ne 16, 3) := by decide +kernel
theorem dX8_skip_20 : decode cX8_skip 20 = .ok (.aload_n 0, 1) := by decide +kernel
theorem dX8_skip_21 : decode cX8_skip 21 = .ok (.dup, 1) := by decide +kernel
theorem dX8_skip_22 : decode cX8_skip 22 = .ok (.getfield 109, 3) := by decide +kernel
theorem dX8_skip_25 : decode cX8_skip 25 = .ok (.iconst 1, 1) := by decide +kernel
theorem dX8_skip_26 : decode cX8_skip 26 = .ok (.iadd, 1) := by decide +kernel
theorem dX8_skip_27 : decode cX8_skip 27 = .ok (.putfield 109, 3) := by decide +kernel
theorem dX8_skip_30 : decode cX8_skip 30 = .ok (.goto (-30), 3) := by decide +kernel
theorem dX8_skip_33 : decode cX8_skip 33 = .ok (.return_, 1) := by decide +kernel
theorem dX8_isFigure_0 : decode cX8_isFigure 0 = .ok (.aload_n 0, 1) := by decide +kernel
theorem dX8_isFigure_1 : decode cX8_isFigure 1 = .ok (.getfield 109, 3) := by decide +kernel
theorem dX8_isFigure_4 : decode cX8_isFigure 4 = .ok (.aload_n 0, 1) := by decide +kernel
theorem dX8_isFigure_5 : decode cX8_isFigure 5 = .ok (.getfield 112, 3) := by decide +kernel
theorem dX8_isFigure_8 : decode cX8_isFigure 8 = .ok (.if_icmp .ge 28, 3) := by decide +kernel
theorem dX8_isFigure_11 : decode cX8_isFigure 11 = .ok (.aload_n 0, 1) := by decide +kernel
theorem dX8_isFigure_12 : decode cX8_isFigure 12 = .ok (.invokevirtual 115, 3) := by decide +kernel
theorem dX8_isFigure_15 : decode cX8_isFigure 15 = .ok (.i2l, 1) := by decide +kernel
theorem dX8_isFigure_16 : decode cX8_isFigure 16 = .ok (.bipush 48, 2) := by decide +kernel
theorem dX8_isFigure_18 : decode cX8_isFigure 18 = .ok (.iload_n 1, 1) := by decide +kernel
theorem dX8_isFigure_19 : decode cX8_isFigure 19 = .ok (.iadd, 1) := by decide +kernel
theorem dX8_isFigure_20 : decode cX8_isFigure 20 = .ok (.i2l, 1) := by decide +kernel
theorem dX8_isFigure_21 : decode cX8_isFigure 21 = .ok (.bipush 48, 2) := by decide +kernel
theorem dX8_isFigure_23 : decode cX8_isFigure 23 = .ok (.iload_n 2, 1) := by decide +kernel
theorem dX8_isFigure_24 : decode cX8_isFigure 24 = .ok (.iadd, 1) := by decide +kernel
theorem dX8_isFigure_25 : decode cX8_isFigure 25 = .ok (.i2l, 1) := by decide +kernel
theorem dX8_isFigure_26 : decode cX8_isFigure 26 = .ok (.invokestatic 74, 3) := by decide +kernel
theorem dX8_isFigure_29 : decode cX8_isFigure 29 = .ok (.ifCond .eq 7, 3) := by decide +kernel
theorem dX8_isFigure_32 : decode cX8_isFigure 32 = .ok (.iconst 1, 1) := by decide +kernel
theorem dX8_isFigure_33 : decode cX8_isFigure 33 = .ok (.goto 4, 3) := by decide +kernel
theorem dX8_isFigure_36 : decode cX8_isFigure 36 = .ok (.iconst 0, 1) := by decide +kernel
theorem dX8_isFigure_37 : decode cX8_isFigure 37 = .ok (.ireturn, 1) := by decide +kernel
theorem dX8_figure_0 : decode cX8_figure 0 = .ok (.aload_n 0, 1) := by decide +kernel
theorem dX8_figure_1 : decode cX8_figure 1 = .ok (.iload_n 1, 1) := by decide +kernel
theorem dX8_figure_2 : decode cX8_figure 2 = .ok (.iload_n 2, 1) := by decide +kernel
theorem dX8_figure_3 : decode cX8_figure 3 = .ok (.invokevirtual 119, 3) := by decide +kernel
theorem dX8_figure_6 : decode cX8_figure 6 = .ok (.ifCond .ne 6, 3) := by decide +kernel
theorem dX8_figure_9 : decode cX8_figure 9 = .ok (.bipush (-9), 2) := by decide +kernel
theorem dX8_figure_11 : decode cX8_figure 11 = .ok (.ireturn, 1) := by decide +kernel
theorem dX8_figure_12 : decode cX8_figure 12 = .ok (.aload_n 0, 1) := by decide +kernel
theorem dX8_figure_13 : decode cX8_figure 13 = .ok (.dup, 1) := by decide +kernel
theorem dX8_figure_14 : decode cX8_figure 14 = .ok (.getfield 109, 3) := by decide +kernel
theorem dX8_figure_17 : decode cX8_figure 17 = .ok (.iconst 1, 1) := by decide +kernel
theorem dX8_figure_18 : decode cX8_figure 18 = .ok (.iadd, 1) := by decide +kernel
theorem dX8_figure_19 : decode cX8_figure 19 = .ok (.putfield 109, 3) := by decide +kernel
theorem dX8_figure_22 : decode cX8_figure 22 = .ok (.aload_n 0, 1) := by decide +kernel
theorem dX8_figure_23 : decode cX8_figure 23 = .ok (.getfield 34, 3) := by decide +kernel
theorem dX8_figure_26 : decode cX8_figure 26 = .ok (.aload_n 0, 1) := by decide +kernel
theorem dX8_figure_27 : decode cX8_figure 27 = .ok (.getfield 106, 3) := by decide +kernel
theorem dX8_figure_30 : decode cX8_figure 30 = .ok (.aload_n 0, 1) := by decide +kernel
theorem dX8_figure_31 : decode cX8_figure 31 = .ok (.getfield 109, 3) := by decide +kernel
theorem dX8_figure_34 : decode cX8_figure 34 = .ok (.iadd, 1) := by decide +kernel
theorem dX8_figure_35 : decode cX8_figure 35 = .ok (.iconst 1, 1) := by decide +kernel
theorem dX8_figure_36 : decode cX8_figure 36 = .ok (.isub, 1) := by decide +kernel
theorem dX8_figure_37 : decode cX8_figure 37 = .ok (.iaload, 1) := by decide +kernel
theorem dX8_figure_38 : decode cX8_figure 38 = .ok (.bipush 48, 2) := by decide +kernel
theorem dX8_figure_40 : decode cX8_figure 40 = .ok (.isub, 1) := by decide +kernel
theorem dX8_figure_41 : decode cX8_figure 41 = .ok (.ireturn, 1) := by decide +kernel
theorem dX8_readsIron_0 : decode cX8_readsIron 0 = .ok (.aload_n 0, 1) := by decide +kernel
theorem dX8_readsIron_1 : decode cX8_readsIron 1 = .ok (.invokevirtual 123, 3) := by decide +kernel
theorem dX8_readsIron_4 : decode cX8_readsIron 4 = .ok (.aload_n 0, 1) := by decide +kernel
theorem dX8_readsIron_5 : decode cX8_readsIron 5 = .ok (.getfield 109, 3) := by decide +kernel
theorem dX8_readsIron_8 : decode cX8_readsIron 8 = .ok (.aload_n 0, 1) := by decide +kernel
theorem dX8_readsIron_9 : decode cX8_readsIron 9 = .ok (.getfield 112, 3) := by decide +kernel
theorem dX8_readsIron_12 : decode cX8_readsIron 12 = .ok (.if_icmp .eq 12, 3) := by decide +kernel
theorem dX8_readsIron_15 : decode cX8_readsIron 15 = .ok (.aload_n 0, 1) := by decide +kernel
theorem dX8_readsIron_16 : decode cX8_readsIron 16 = .ok (.invokevirtual 115, 3) := by decide +kernel
theorem dX8_readsIron_19 : decode cX8_readsIron 19 = .ok (.bipush 105, 2) := by decide +kernel
theorem dX8_readsIron_21 : decode cX8_readsIron 21 = .ok (.if_icmp .eq 5, 3) := by decide +kernel
theorem dX8_readsIron_24 : decode cX8_readsIron 24 = .ok (.iconst 0, 1) := by decide +kernel
theorem dX8_readsIron_25 : decode cX8_readsIron 25 = .ok (.ireturn, 1) := by decide +kernel
theorem dX8_readsIron_26 : decode cX8_readsIron 26 = .ok (.aload_n 0, 1) := by decide +kernel
theorem dX8_readsIron_27 : decode cX8_readsIron 27 = .ok (.dup, 1) := by decide +kernel
theorem dX8_readsIron_28 : decode cX8_readsIron 28 = .ok (.getfield 109, 3) := by decide +kernel
theorem dX8_readsIron_31 : decode cX8_readsIron 31 = .ok (.iconst 1, 1) := by decide +kernel
theorem dX8_readsIron_32 : decode cX8_readsIron 32 = .ok (.iadd, 1) := by decide +kernel
theorem dX8_readsIron_33 : decode cX8_readsIron 33 = .ok (.putfield 109, 3) := by decide +kernel
theorem dX8_readsIron_36 : decode cX8_readsIron 36 = .ok (.iconst 1, 1) := by decide +kernel
theorem dX8_readsIron_37 : decode cX8_readsIron 37 = .ok (.istore_n 1, 1) := by decide +kernel
theorem dX8_readsIron_38 : decode cX8_readsIron 38 = .ok (.iconst 0, 1) := by decide +kernel
theorem dX8_readsIron_39 : decode cX8_readsIron 39 = .ok (.istore_n 2, 1) := by decide +kernel
theorem dX8_readsIron_40 : decode cX8_readsIron 40 = .ok (.iload_n 2, 1) := by decide +kernel
theorem dX8_readsIron_41 : decode cX8_readsIron 41 = .ok (.iconst 4, 1) := by decide +kernel
theorem dX8_readsIron_42 : decode cX8_readsIron 42 = .ok (.if_icmp .ge 71, 3) := by decide +kernel
theorem dX8_readsIron_45 : decode cX8_readsIron 45 = .ok (.iload_n 1, 1) := by decide +kernel
theorem dX8_readsIron_46 : decode cX8_readsIron 46 = .ok (.ifCond .eq 67, 3) := by decide +kernel
theorem dX8_readsIron_49 : decode cX8_readsIron 49 = .ok (.aload_n 0, 1) := by decide +kernel
theorem dX8_readsIron_50 : decode cX8_readsIron 50 = .ok (.getfield 44, 3) := by decide +kernel
theorem dX8_readsIron_53 : decode cX8_readsIron 53 = .ok (.iload_n 2, 1) := by decide +kernel
theorem dX8_readsIron_54 : decode cX8_readsIron 54 = .ok (.iload_n 2, 1) := by decide +kernel
theorem dX8_readsIron_55 : decode cX8_readsIron 55 = .ok (.ifCond .ne 12, 3) := by decide +kernel
theorem dX8_readsIron_58 : decode cX8_readsIron 58 = .ok (.aload_n 0, 1) := by decide +kernel
theorem dX8_readsIron_59 : decode cX8_readsIron 59 = .ok (.iconst 1, 1) := by decide +kernel
theorem dX8_readsIron_60 : decode cX8_readsIron 60 = .ok (.iconst 3, 1) := by decide +kernel
theorem dX8_readsIron_61 : decode cX8_readsIron 61 = .ok (.invokevirtual 126, 3) := by decide +kernel
theorem dX8_readsIron_64 : decode cX8_readsIron 64 = .ok (.goto 25, 3) := by decide +kernel
theorem dX8_readsIron_67 : decode cX8_readsIron 67 = .ok (.iload_n 2, 1) := by decide +kernel
theorem dX8_readsIron_68 : decode cX8_readsIron 68 = .ok (.iconst 3, 1) := by decide +kernel
theorem dX8_readsIron_69 : decode cX8_readsIron 69 = .ok (.if_icmp .ne 13, 3) := by decide +kernel
theorem dX8_readsIron_72 : decode cX8_readsIron 72 = .ok (.aload_n 0, 1) := by decide +kernel
theorem dX8_readsIron_73 : decode cX8_readsIron 73 = .ok (.iconst 1, 1) := by decide +kernel
theorem dX8_readsIron_74 : decode cX8_readsIron 74 = .ok (.bipush 6, 2) := by decide +kernel
theorem dX8_readsIron_76 : decode cX8_readsIron 76 = .ok (.invokevirtual 126, 3) := by decide +kernel
theorem dX8_readsIron_79 : decode cX8_readsIron 79 = .ok (.goto 10, 3) := by decide +kernel
theorem dX8_readsIron_82 : decode cX8_readsIron 82 = .ok (.aload_n 0, 1) := by decide +kernel
theorem dX8_readsIron_83 : decode cX8_readsIron 83 = .ok (.iconst 0, 1) := by decide +kernel
theorem dX8_readsIron_84 : decode cX8_readsIron 84 = .ok (.bipush 9, 2) := by decide +kernel
theorem dX8_readsIron_86 : decode cX8_readsIron 86 = .ok (.invokevirtual 126, 3) := by decide +kernel
theorem dX8_readsIron_89 : decode cX8_readsIron 89 = .ok (.iastore, 1) := by decide +kernel
theorem dX8_readsIron_90 : decode cX8_readsIron 90 = .ok (.aload_n 0, 1) := by decide +kernel
theorem dX8_readsIron_91 : decode cX8_readsIron 91 = .ok (.getfield 44, 3) := by decide +kernel
theorem dX8_readsIron_94 : decode cX8_readsIron 94 = .ok (.iload_n 2, 1) := by decide +kernel
theorem dX8_readsIron_95 : decode cX8_readsIron 95 = .ok (.iaload, 1) := by decide +kernel
theorem dX8_readsIron_96 : decode cX8_readsIron 96 = .ok (.bipush (-9), 2) := by decide +kernel
theorem dX8_readsIron_98 : decode cX8_readsIron 98 = .ok (.if_icmp .eq 7, 3) := by decide +kernel
theorem dX8_readsIron_101 : decode cX8_readsIron 101 = .ok (.iconst 1, 1) := by decide +kernel
theorem dX8_readsIron_102 : decode cX8_readsIron 102 = .ok (.goto 4, 3) := by decide +kernel
theorem dX8_readsIron_105 : decode cX8_readsIron 105 = .ok (.iconst 0, 1) := by decide +kernel
theorem dX8_readsIron_106 : decode cX8_readsIron 106 = .ok (.istore_n 1, 1) := by decide +kernel
theorem dX8_readsIron_107 : decode cX8_readsIron 107 = .ok (.iinc 2 1, 3) := by decide +kernel
theorem dX8_readsIron_110 : decode cX8_readsIron 110 = .ok (.goto (-70), 3) := by decide +kernel
theorem dX8_readsIron_113 : decode cX8_readsIron 113 = .ok (.iload_n 1, 1) := by decide +kernel
theorem dX8_readsIron_114 : decode cX8_readsIron 114 = .ok (.ireturn, 1) := by decide +kernel
theorem dX8_kindOfLetter_0 : decode cX8_kindOfLetter 0 = .ok (.iload_n 0, 1) := by decide +kernel
theorem dX8_kindOfLetter_1 : decode cX8_kindOfLetter 1 = .ok (.bipush 109, 2) := by decide +kernel
theorem dX8_kindOfLetter_3 : decode cX8_kindOfLetter 3 = .ok (.if_icmp .ne 7, 3) := by decide +kernel
theorem dX8_kindOfLetter_6 : decode cX8_kindOfLetter 6 = .ok (.iconst 0, 1) := by decide +kernel
theorem dX8_kindOfLetter_7 : decode cX8_kindOfLetter 7 = .ok (.goto 55, 3) := by decide +kernel
theorem dX8_kindOfLetter_10 : decode cX8_kindOfLetter 10 = .ok (.iload_n 0, 1) := by decide +kernel
theorem dX8_kindOfLetter_11 : decode cX8_kindOfLetter 11 = .ok (.bipush 112, 2) := by decide +kernel
theorem dX8_kindOfLetter_13 : decode cX8_kindOfLetter 13 = .ok (.if_icmp .ne 7, 3) := by decide +kernel
theorem dX8_kindOfLetter_16 : decode cX8_kindOfLetter 16 = .ok (.iconst 1, 1) := by decide +kernel
theorem dX8_kindOfLetter_17 : decode cX8_kindOfLetter 17 = .ok (.goto 45, 3) := by decide +kernel
theorem dX8_kindOfLetter_20 : decode cX8_kindOfLetter 20 = .ok (.iload_n 0, 1) := by decide +kernel
theorem dX8_kindOfLetter_21 : decode cX8_kindOfLetter 21 = .ok (.bipush 99, 2) := by decide +kernel
theorem dX8_kindOfLetter_23 : decode cX8_kindOfLetter 23 = .ok (.if_icmp .ne 7, 3) := by decide +kernel
theorem dX8_kindOfLetter_26 : decode cX8_kindOfLetter 26 = .ok (.iconst 2, 1) := by decide +kernel
theorem dX8_kindOfLetter_27 : decode cX8_kindOfLetter 27 = .ok (.goto 35, 3) := by decide +kernel
theorem dX8_kindOfLetter_30 : decode cX8_kindOfLetter 30 = .ok (.iload_n 0, 1) := by decide +kernel
theorem dX8_kindOfLetter_31 : decode cX8_kindOfLetter 31 = .ok (.bipush 119, 2) := by decide +kernel
theorem dX8_kindOfLetter_33 : decode cX8_kindOfLetter 33 = .ok (.if_icmp .ne 7, 3) := by decide +kernel
theorem dX8_kindOfLetter_36 : decode cX8_kindOfLetter 36 = .ok (.iconst 3, 1) := by decide +kernel
theorem dX8_kindOfLetter_37 : decode cX8_kindOfLetter 37 = .ok (.goto 25, 3) := by decide +kernel
theorem dX8_kindOfLetter_40 : decode cX8_kindOfLetter 40 = .ok (.iload_n 0, 1) := by decide +kernel
theorem dX8_kindOfLetter_41 : decode cX8_kindOfLetter 41 = .ok (.bipush 120, 2) := by decide +kernel
theorem dX8_kindOfLetter_43 : decode cX8_kindOfLetter 43 = .ok (.if_icmp .ne 7, 3) := by decide +kernel
theorem dX8_kindOfLetter_46 : decode cX8_kindOfLetter 46 = .ok (.iconst 4, 1) := by decide +kernel
theorem dX8_kindOfLetter_47 : decode cX8_kindOfLetter 47 = .ok (.goto 15, 3) := by decide +kernel
theorem dX8_kindOfLetter_50 : decode cX8_kindOfLetter 50 = .ok (.iload_n 0, 1) := by decide +kernel
theorem dX8_kindOfLetter_51 : decode cX8_kindOfLetter 51 = .ok (.bipush 110, 2) := by decide +kernel
theorem dX8_kindOfLetter_53 : decode cX8_kindOfLetter 53 = .ok (.if_icmp .ne 7, 3) := by decide +kernel
theorem dX8_kindOfLetter_56 : decode cX8_kindOfLetter 56 = .ok (.iconst 5, 1) := by decide +kernel
theorem dX8_kindOfLetter_57 : decode cX8_kindOfLetter 57 = .ok (.goto 5, 3) := by decide +kernel
theorem dX8_kindOfLetter_60 : decode cX8_kindOfLetter 60 = .ok (.bipush (-9), 2) := by decide +kernel
theorem dX8_kindOfLetter_62 : decode cX8_kindOfLetter 62 = .ok (.ireturn, 1) := by decide +kernel
theorem dX8_readsMan_0 : decode cX8_readsMan 0 = .ok (.iconst 4, 1) := by decide +kernel
theorem dX8_readsMan_1 : decode cX8_readsMan 1 = .ok (.aload_n 0, 1) := by decide +kernel
theorem dX8_readsMan_2 : decode cX8_readsMan 2 = .ok (.getfield 129, 3) := by decide +kernel
theorem dX8_readsMan_5 : decode cX8_readsMan 5 = .ok (.imul, 1) := by decide +kernel
theorem dX8_readsMan_6 : decode cX8_readsMan 6 = .ok (.istore_n 1, 1) := by decide +kernel
theorem dX8_readsMan_7 : decode cX8_readsMan 7 = .ok (.aload_n 0, 1) := by decide +kernel
theorem dX8_readsMan_8 : decode cX8_readsMan 8 = .ok (.invokevirtual 115, 3) := by decide +kernel
theorem dX8_readsMan_11 : decode cX8_readsMan 11 = .ok (.invokestatic 132, 3) := by decide +kernel
theorem dX8_readsMan_14 : decode cX8_readsMan 14 = .ok (.istore_n 2, 1) := by decide +kernel
theorem dX8_readsMan_15 : decode cX8_readsMan 15 = .ok (.iload_n 2, 1) := by decide +kernel
theorem dX8_readsMan_16 : decode cX8_readsMan 16 = .ok (.bipush (-9), 2) := by decide +kernel
theorem dX8_readsMan_18 : decode cX8_readsMan 18 = .ok (.if_icmp .eq 12, 3) := by decide +kernel
theorem dX8_readsMan_21 : decode cX8_readsMan 21 = .ok (.aload_n 0, 1) := by decide +kernel
theorem dX8_readsMan_22 : decode cX8_readsMan 22 = .ok (.getfield 129, 3) := by decide +kernel
theorem dX8_readsMan_25 : decode cX8_readsMan 25 = .ok (.bipush 6, 2) := by decide +kernel
theorem dX8_readsMan_27 : decode cX8_readsMan 27 = .ok (.if_icmp .ne 5, 3) := by decide +kernel
theorem dX8_readsMan_30 : decode cX8_readsMan 30 = .ok (.iconst 0, 1) := by decide +kernel
theorem dX8_readsMan_31 : decode cX8_readsMan 31 = .ok (.ireturn, 1) := by decide +kernel
theorem dX8_readsMan_32 : decode cX8_readsMan 32 = .ok (.aload_n 0, 1) := by decide +kernel
theorem dX8_readsMan_33 : decode cX8_readsMan 33 = .ok (.dup, 1) := by decide +kernel
theorem dX8_readsMan_34 : decode cX8_readsMan 34 = .ok (.getfield 109, 3) := by decide +kernel
theorem dX8_readsMan_37 : decode cX8_readsMan 37 = .ok (.iconst 1, 1) := by decide +kernel
theorem dX8_readsMan_38 : decode cX8_readsMan 38 = .ok (.iadd, 1) := by decide +kernel
theorem dX8_readsMan_39 : decode cX8_readsMan 39 = .ok (.putfield 109, 3) := by decide +kernel
theorem dX8_readsMan_42 : decode cX8_readsMan 42 = .ok (.aload_n 0, 1) := by decide +kernel
theorem dX8_readsMan_43 : decode cX8_readsMan 43 = .ok (.getfield 47, 3) := by decide +kernel
theorem dX8_readsMan_46 : decode cX8_readsMan 46 = .ok (.iload_n 1, 1) := by decide +kernel
theorem dX8_readsMan_47 : decode cX8_readsMan 47 = .ok (.iload_n 2, 1) := by decide +kernel
theorem dX8_readsMan_48 : decode cX8_readsMan 48 = .ok (.iastore, 1) := by decide +kernel
theorem dX8_readsMan_49 : decode cX8_readsMan 49 = .ok (.iconst 1, 1) := by decide +kernel
theorem dX8_readsMan_50 : decode cX8_readsMan 50 = .ok (.istore_n 3, 1) := by decide +kernel
theorem dX8_readsMan_51 : decode cX8_readsMan 51 = .ok (.iconst 1, 1) := by decide +kernel
theorem dX8_readsMan_52 : decode cX8_readsMan 52 = .ok (.istore 4, 2) := by decide +kernel
theorem dX8_readsMan_54 : decode cX8_readsMan 54 = .ok (.iload 4, 2) := by decide +kernel
theorem dX8_readsMan_56 : decode cX8_readsMan 56 = .ok (.iconst 4, 1) := by decide +kernel
theorem dX8_readsMan_57 : decode cX8_readsMan 57 = .ok (.if_icmp .ge 59, 3) := by decide +kernel
theorem dX8_readsMan_60 : decode cX8_readsMan 60 = .ok (.iload_n 3, 1) := by decide +kernel
theorem dX8_readsMan_61 : decode cX8_readsMan 61 = .ok (.ifCond .eq 55, 3) := by decide +kernel
theorem dX8_readsMan_64 : decode cX8_readsMan 64 = .ok (.aload_n 0, 1) := by decide +kernel
theorem dX8_readsMan_65 : decode cX8_readsMan 65 = .ok (.getfield 47, 3) := by decide +kernel
theorem dX8_readsMan_68 : decode cX8_readsMan 68 = .ok (.iload_n 1, 1) := by decide +kernel
theorem dX8_readsMan_69 : decode cX8_readsMan 69 = .ok (.iload 4, 2) := by decide +kernel
theorem dX8_readsMan_71 : decode cX8_readsMan 71 = .ok (.iadd, 1) := by decide +kernel
theorem dX8_readsMan_72 : decode cX8_readsMan 72 = .ok (.aload_n 0, 1) := by decide +kernel
theorem dX8_readsMan_73 : decode cX8_readsMan 73 = .ok (.iconst 0, 1) := by decide +kernel
theorem dX8_readsMan_74 : decode cX8_readsMan 74 = .ok (.iload 4, 2) := by decide +kernel
theorem dX8_readsMan_76 : decode cX8_readsMan 76 = .ok (.iconst 1, 1) := by decide +kernel
theorem dX8_readsMan_77 : decode cX8_readsMan 77 = .ok (.if_icmp .ne 7, 3) := by decide +kernel
theorem dX8_readsMan_80 : decode cX8_readsMan 80 = .ok (.iconst 1, 1) := by decide +kernel
theorem dX8_readsMan_81 : decode cX8_readsMan 81 = .ok (.goto 5, 3) := by decide +kernel
theorem dX8_readsMan_84 : decode cX8_readsMan 84 = .ok (.bipush 9, 2) := by decide +kernel
theorem dX8_readsMan_86 : decode cX8_readsMan 86 = .ok (.invokevirtual 126, 3) := by decide +kernel
theorem dX8_readsMan_89 : decode cX8_readsMan 89 = .ok (.iastore, 1) := by decide +kernel
theorem dX8_readsMan_90 : decode cX8_readsMan 90 = .ok (.aload_n 0, 1) := by decide +kernel
theorem dX8_readsMan_91 : decode cX8_readsMan 91 = .ok (.getfield 47, 3) := by decide +kernel
theorem dX8_readsMan_94 : decode cX8_readsMan 94 = .ok (.iload_n 1, 1) := by decide +kernel
theorem dX8_readsMan_95 : decode cX8_readsMan 95 = .ok (.iload 4, 2) := by decide +kernel
theorem dX8_readsMan_97 : decode cX8_readsMan 97 = .ok (.iadd, 1) := by decide +kernel
theorem dX8_readsMan_98 : decode cX8_readsMan 98 = .ok (.iaload, 1) := by decide +kernel
theorem dX8_readsMan_99 : decode cX8_readsMan 99 = .ok (.bipush (-9), 2) := by decide +kernel
theorem dX8_readsMan_101 : decode cX8_readsMan 101 = .ok (.if_icmp .eq 7, 3) := by decide +kernel
theorem dX8_readsMan_104 : decode cX8_readsMan 104 = .ok (.iconst 1, 1) := by decide +kernel
theorem dX8_readsMan_105 : decode cX8_readsMan 105 = .ok (.goto 4, 3) := by decide +kernel
theorem dX8_readsMan_108 : decode cX8_readsMan 108 = .ok (.iconst 0, 1) := by decide +kernel
theorem dX8_readsMan_109 : decode cX8_readsMan 109 = .ok (.istore_n 3, 1) := by decide +kernel
theorem dX8_readsMan_110 : decode cX8_readsMan 110 = .ok (.iinc 4 1, 3) := by decide +kernel
theorem dX8_readsMan_113 : decode cX8_readsMan 113 = .ok (.goto (-59), 3) := by decide +kernel
theorem dX8_readsMan_116 : decode cX8_readsMan 116 = .ok (.aload_n 0, 1) := by decide +kernel
theorem dX8_readsMan_117 : decode cX8_readsMan 117 = .ok (.dup, 1) := by decide +kernel
theorem dX8_readsMan_118 : decode cX8_readsMan 118 = .ok (.getfield 129, 3) := by decide +kernel
theorem dX8_readsMan_121 : decode cX8_readsMan 121 = .ok (.iload_n 3, 1) := by decide +kernel
theorem dX8_readsMan_122 : decode cX8_readsMan 122 = .ok (.ifCond .eq 7, 3) := by decide +kernel
theorem dX8_readsMan_125 : decode cX8_readsMan 125 = .ok (.iconst 1, 1) := by decide +kernel
theorem dX8_readsMan_126 : decode cX8_readsMan 126 = .ok (.goto 4, 3) := by decide +kernel
theorem dX8_readsMan_129 : decode cX8_readsMan 129 = .ok (.iconst 0, 1) := by decide +kernel
theorem dX8_readsMan_130 : decode cX8_readsMan 130 = .ok (.iadd, 1) := by decide +kernel
theorem dX8_readsMan_131 : decode cX8_readsMan 131 = .ok (.putfield 129, 3) := by decide +kernel
theorem dX8_readsMan_134 : decode cX8_readsMan 134 = .ok (.iload_n 3, 1) := by decide +kernel
theorem dX8_readsMan_135 : decode cX8_readsMan 135 = .ok (.ireturn, 1) := by decide +kernel
theorem dX8_faultOf_0 : decode cX8_faultOf 0 = .ok (.aload_n 0, 1) := by decide +kernel
theorem dX8_faultOf_1 : decode cX8_faultOf 1 = .ok (.bipush 60, 2) := by decide +kernel
theorem dX8_faultOf_3 : decode cX8_faultOf 3 = .ok (.iload_n 1, 1) := by decide +kernel
theorem dX8_faultOf_4 : decode cX8_faultOf 4 = .ok (.imul, 1) := by decide +kernel
theorem dX8_faultOf_5 : decode cX8_faultOf 5 = .ok (.putfield 106, 3) := by decide +kernel
theorem dX8_faultOf_8 : decode cX8_faultOf 8 = .ok (.aload_n 0, 1) := by decide +kernel
theorem dX8_faultOf_9 : decode cX8_faultOf 9 = .ok (.iconst 0, 1) := by decide +kernel
theorem dX8_faultOf_10 : decode cX8_faultOf 10 = .ok (.putfield 109, 3) := by decide +kernel
theorem dX8_faultOf_13 : decode cX8_faultOf 13 = .ok (.aload_n 0, 1) := by decide +kernel
theorem dX8_faultOf_14 : decode cX8_faultOf 14 = .ok (.aload_n 0, 1) := by decide +kernel
theorem dX8_faultOf_15 : decode cX8_faultOf 15 = .ok (.getfield 31, 3) := by decide +kernel
theorem dX8_faultOf_18 : decode cX8_faultOf 18 = .ok (.iload_n 1, 1) := by decide +kernel
theorem dX8_faultOf_19 : decode cX8_faultOf 19 = .ok (.iaload, 1) := by decide +kernel
theorem dX8_faultOf_20 : decode cX8_faultOf 20 = .ok (.putfield 112, 3) := by decide +kernel
theorem dX8_faultOf_23 : decode cX8_faultOf 23 = .ok (.aload_n 0, 1) := by decide +kernel
theorem dX8_faultOf_24 : decode cX8_faultOf 24 = .ok (.iconst 0, 1) := by decide +kernel
theorem dX8_faultOf_25 : decode cX8_faultOf 25 = .ok (.putfield 129, 3) := by decide +kernel
theorem dX8_faultOf_28 : decode cX8_faultOf 28 = .ok (.aload_n 0, 1) := by decide +kernel
theorem dX8_faultOf_29 : decode cX8_faultOf 29 = .ok (.invokevirtual 135, 3) := by decide +kernel
theorem dX8_faultOf_32 : decode cX8_faultOf 32 = .ok (.istore_n 2, 1) := by decide +kernel
theorem dX8_faultOf_33 : decode cX8_faultOf 33 = .ok (.iload_n 2, 1) := by decide +kernel
theorem dX8_faultOf_34 : decode cX8_faultOf 34 = .ok (.ifCond .eq 7, 3) := by decide +kernel
theorem dX8_faultOf_37 : decode cX8_faultOf 37 = .ok (.aload_n 0, 1) := by decide +kernel
theorem dX8_faultOf_38 : decode cX8_faultOf 38 = .ok (.invokevirtual 123, 3) := by decide +kernel
theorem dX8_faultOf_41 : decode cX8_faultOf 41 = .ok (.iload_n 2, 1) := by decide +kernel
theorem dX8_faultOf_42 : decode cX8_faultOf 42 = .ok (.ifCond .eq 30, 3) := by decide +kernel
theorem dX8_faultOf_45 : decode cX8_faultOf 45 = .ok (.aload_n 0, 1) := by decide +kernel
theorem dX8_faultOf_46 : decode cX8_faultOf 46 = .ok (.getfield 109, 3) := by decide +kernel
theorem dX8_faultOf_49 : decode cX8_faultOf 49 = .ok (.aload_n 0, 1) := by decide +kernel
theorem dX8_faultOf_50 : decode cX8_faultOf 50 = .ok (.getfield 112, 3) := by decide +kernel
theorem dX8_faultOf_53 : decode cX8_faultOf 53 = .ok (.if_icmp .ge 19, 3) := by decide +kernel
theorem dX8_faultOf_56 : decode cX8_faultOf 56 = .ok (.aload_n 0, 1) := by decide +kernel
theorem dX8_faultOf_57 : decode cX8_faultOf 57 = .ok (.invokevirtual 139, 3) := by decide +kernel
theorem dX8_faultOf_60 : decode cX8_faultOf 60 = .ok (.istore_n 2, 1) := by decide +kernel
theorem dX8_faultOf_61 : decode cX8_faultOf 61 = .ok (.iload_n 2, 1) := by decide +kernel
theorem dX8_faultOf_62 : decode cX8_faultOf 62 = .ok (.ifCond .eq (-21), 3) := by decide +kernel
theorem dX8_faultOf_65 : decode cX8_faultOf 65 = .ok (.aload_n 0, 1) := by decide +kernel
theorem dX8_faultOf_66 : decode cX8_faultOf 66 = .ok (.invokevirtual 123, 3) := by decide +kernel
theorem dX8_faultOf_69 : decode cX8_faultOf 69 = .ok (.goto (-28), 3) := by decide +kernel
theorem dX8_faultOf_72 : decode cX8_faultOf 72 = .ok (.iload_n 2, 1) := by decide +kernel
theorem dX8_faultOf_73 : decode cX8_faultOf 73 = .ok (.ifCond .eq 15, 3) := by decide +kernel
theorem dX8_faultOf_76 : decode cX8_faultOf 76 = .ok (.aload_n 0, 1) := by decide +kernel
theorem dX8_faultOf_77 : decode cX8_faultOf 77 = .ok (.getfield 129, 3) := by decide +kernel
theorem dX8_faultOf_80 : decode cX8_faultOf 80 = .ok (.ifCond .le 8, 3) := by decide +kernel
theorem dX8_faultOf_83 : decode cX8_faultOf 83 = .ok (.bipush (-9), 2) := by decide +kernel
theorem dX8_faultOf_85 : decode cX8_faultOf 85 = .ok (.goto 7, 3) := by decide +kernel
theorem dX8_faultOf_88 : decode cX8_faultOf 88 = .ok (.aload_n 0, 1) := by decide +kernel
theorem dX8_faultOf_89 : decode cX8_faultOf 89 = .ok (.getfield 109, 3) := by decide +kernel
theorem dX8_faultOf_92 : decode cX8_faultOf 92 = .ok (.ireturn, 1) := by decide +kernel
theorem dX8_fault_0 : decode cX8_fault 0 = .ok (.iload_n 1, 1) := by decide +kernel
theorem dX8_fault_1 : decode cX8_fault 1 = .ok (.invokestatic 103, 3) := by decide +kernel
theorem dX8_fault_4 : decode cX8_fault 4 = .ok (.ifCond .ne 5, 3) := by decide +kernel
theorem dX8_fault_7 : decode cX8_fault 7 = .ok (.iconst (-1), 1) := by decide +kernel
theorem dX8_fault_8 : decode cX8_fault 8 = .ok (.ireturn, 1) := by decide +kernel
theorem dX8_fault_9 : decode cX8_fault 9 = .ok (.aload_n 0, 1) := by decide +kernel
theorem dX8_fault_10 : decode cX8_fault 10 = .ok (.getfield 31, 3) := by decide +kernel
theorem dX8_fault_13 : decode cX8_fault 13 = .ok (.iload_n 1, 1) := by decide +kernel
theorem dX8_fault_14 : decode cX8_fault 14 = .ok (.iaload, 1) := by decide +kernel
theorem dX8_fault_15 : decode cX8_fault 15 = .ok (.ifCond .ge 11, 3) := by decide +kernel
theorem dX8_fault_18 : decode cX8_fault 18 = .ok (.aload_n 0, 1) := by decide +kernel
theorem dX8_fault_19 : decode cX8_fault 19 = .ok (.iconst 1, 1) := by decide +kernel
theorem dX8_fault_20 : decode cX8_fault 20 = .ok (.invokevirtual 84, 3) := by decide +kernel
theorem dX8_fault_23 : decode cX8_fault 23 = .ok (.goto 8, 3) := by decide +kernel
theorem dX8_fault_26 : decode cX8_fault 26 = .ok (.aload_n 0, 1) := by decide +kernel
theorem dX8_fault_27 : decode cX8_fault 27 = .ok (.iload_n 1, 1) := by decide +kernel
theorem dX8_fault_28 : decode cX8_fault 28 = .ok (.invokevirtual 142, 3) := by decide +kernel
theorem dX8_fault_31 : decode cX8_fault 31 = .ok (.ireturn, 1) := by decide +kernel
theorem dX8_court_0 : decode cX8_court 0 = .ok (.iload_n 1, 1) := by decide +kernel
theorem dX8_court_1 : decode cX8_court 1 = .ok (.invokestatic 103, 3) := by decide +kernel
theorem dX8_court_4 : decode cX8_court 4 = .ok (.ifCond .ne 5, 3) := by decide +kernel
theorem dX8_court_7 : decode cX8_court 7 = .ok (.iconst (-1), 1) := by decide +kernel
theorem dX8_court_8 : decode cX8_court 8 = .ok (.ireturn, 1) := by decide +kernel
theorem dX8_court_9 : decode cX8_court 9 = .ok (.aload_n 0, 1) := by decide +kernel
theorem dX8_court_10 : decode cX8_court 10 = .ok (.getfield 31, 3) := by decide +kernel
theorem dX8_court_13 : decode cX8_court 13 = .ok (.iload_n 1, 1) := by decide +kernel
theorem dX8_court_14 : decode cX8_court 14 = .ok (.iaload, 1) := by decide +kernel
theorem dX8_court_15 : decode cX8_court 15 = .ok (.ifCond .ge 9, 3) := by decide +kernel
theorem dX8_court_18 : decode cX8_court 18 = .ok (.aload_n 0, 1) := by decide +kernel
theorem dX8_court_19 : decode cX8_court 19 = .ok (.iconst 1, 1) := by decide +kernel
theorem dX8_court_20 : decode cX8_court 20 = .ok (.invokevirtual 84, 3) := by decide +kernel
theorem dX8_court_23 : decode cX8_court 23 = .ok (.ireturn, 1) := by decide +kernel
theorem dX8_court_24 : decode cX8_court 24 = .ok (.aload_n 0, 1) := by decide +kernel
theorem dX8_court_25 : decode cX8_court 25 = .ok (.iload_n 1, 1) := by decide +kernel
theorem dX8_court_26 : decode cX8_court 26 = .ok (.invokevirtual 142, 3) := by decide +kernel
theorem dX8_court_29 : decode cX8_court 29 = .ok (.bipush (-9), 2) := by decide +kernel
theorem dX8_court_31 : decode cX8_court 31 = .ok (.if_icmp .eq 6, 3) := by decide +kernel
theorem dX8_court_34 : decode cX8_court 34 = .ok (.bipush (-4), 2) := by decide +kernel
theorem dX8_court_36 : decode cX8_court 36 = .ok (.ireturn, 1) := by decide +kernel
theorem dX8_court_37 : decode cX8_court 37 = .ok (.aload_n 0, 1) := by decide +kernel
theorem dX8_court_38 : decode cX8_court 38 = .ok (.aload_n 0, 1) := by decide +kernel
theorem dX8_court_39 : decode cX8_court 39 = .ok (.getfield 44, 3) := by decide +kernel
theorem dX8_court_42 : decode cX8_court 42 = .ok (.iconst 0, 1) := by decide +kernel
theorem dX8_court_43 : decode cX8_court 43 = .ok (.iaload, 1) := by decide +kernel
theorem dX8_court_44 : decode cX8_court 44 = .ok (.putfield 145, 3) := by decide +kernel
theorem dX8_court_47 : decode cX8_court 47 = .ok (.aload_n 0, 1) := by decide +kernel
theorem dX8_court_48 : decode cX8_court 48 = .ok (.aload_n 0, 1) := by decide +kernel
theorem dX8_court_49 : decode cX8_court 49 = .ok (.getfield 44, 3) := by decide +kernel
theorem dX8_court_52 : decode cX8_court 52 = .ok (.iconst 1, 1) := by decide +kernel
theorem dX8_court_53 : decode cX8_court 53 = .ok (.iaload, 1) := by decide +kernel
theorem dX8_court_54 : decode cX8_court 54 = .ok (.putfield 148, 3) := by decide +kernel
theorem dX8_court_57 : decode cX8_court 57 = .ok (.aload_n 0, 1) := by decide +kernel
theorem dX8_court_58 : decode cX8_court 58 = .ok (.aload_n 0, 1) := by decide +kernel
theorem dX8_court_59 : decode cX8_court 59 = .ok (.getfield 44, 3) := by decide +kernel
theorem dX8_court_62 : decode cX8_court 62 = .ok (.iconst 2, 1) := by decide +kernel
theorem dX8_court_63 : decode cX8_court 63 = .ok (.iaload, 1) := by decide +kernel
theorem dX8_court_64 : decode cX8_court 64 = .ok (.putfield 151, 3) := by decide +kernel
theorem dX8_court_67 : decode cX8_court 67 = .ok (.aload_n 0, 1) := by decide +kernel
theorem dX8_court_68 : decode cX8_court 68 = .ok (.aload_n 0, 1) := by decide +kernel
theorem dX8_court_69 : decode cX8_court 69 = .ok (.getfield 44, 3) := by decide +kernel
theorem dX8_court_72 : decode cX8_court 72 = .ok (.iconst 3, 1) := by decide +kernel
theorem dX8_court_73 : decode cX8_court 73 = .ok (.iaload, 1) := by decide +kernel
theorem dX8_court_74 : decode cX8_court 74 = .ok (.putfield 154, 3) := by decide +kernel
theorem dX8_court_77 : decode cX8_court 77 = .ok (.aload_n 0, 1) := by decide +kernel
theorem dX8_court_78 : decode cX8_court 78 = .ok (.aload_n 0, 1) := by decide +kernel
theorem dX8_court_79 : decode cX8_court 79 = .ok (.getfield 129, 3) := by decide +kernel
theorem dX8_court_82 : decode cX8_court 82 = .ok (.putfield 157, 3) := by decide +kernel
theorem dX8_court_85 : decode cX8_court 85 = .ok (.iconst 0, 1) := by decide +kernel
theorem dX8_court_86 : decode cX8_court 86 = .ok (.istore_n 2, 1) := by decide +kernel
theorem dX8_court_87 : decode cX8_court 87 = .ok (.iload_n 2, 1) := by decide +kernel
theorem dX8_court_88 : decode cX8_court 88 = .ok (.aload_n 0, 1) := by decide +kernel
theorem dX8_court_89 : decode cX8_court 89 = .ok (.getfield 157, 3) := by decide +kernel
theorem dX8_court_92 : decode cX8_court 92 = .ok (.if_icmp .ge 71, 3) := by decide +kernel
theorem dX8_court_95 : decode cX8_court 95 = .ok (.aload_n 0, 1) := by decide +kernel
theorem dX8_court_96 : decode cX8_court 96 = .ok (.getfield 13, 3) := by decide +kernel
theorem dX8_court_99 : decode cX8_court 99 = .ok (.iload_n 2, 1) := by decide +kernel
theorem dX8_court_100 : decode cX8_court 100 = .ok (.aload_n 0, 1) := by decide +kernel
theorem dX8_court_101 : decode cX8_court 101 = .ok (.getfield 47, 3) := by decide +kernel
theorem dX8_court_104 : decode cX8_court 104 = .ok (.iconst 4, 1) := by decide +kernel
theorem dX8_court_105 : decode cX8_court 105 = .ok (.iload_n 2, 1) := by decide +kernel
theorem dX8_court_106 : decode cX8_court 106 = .ok (.imul, 1) := by decide +kernel
theorem dX8_court_107 : decode cX8_court 107 = .ok (.iaload, 1) := by decide +kernel
theorem dX8_court_108 : decode cX8_court 108 = .ok (.iastore, 1) := by decide +kernel
theorem dX8_court_109 : decode cX8_court 109 = .ok (.aload_n 0, 1) := by decide +kernel
theorem dX8_court_110 : decode cX8_court 110 = .ok (.getfield 16, 3) := by decide +kernel
theorem dX8_court_113 : decode cX8_court 113 = .ok (.iload_n 2, 1) := by decide +kernel
theorem dX8_court_114 : decode cX8_court 114 = .ok (.aload_n 0, 1) := by decide +kernel
theorem dX8_court_115 : decode cX8_court 115 = .ok (.getfield 47, 3) := by decide +kernel
theorem dX8_court_118 : decode cX8_court 118 = .ok (.iconst 4, 1) := by decide +kernel
theorem dX8_court_119 : decode cX8_court 119 = .ok (.iload_n 2, 1) := by decide +kernel
theorem dX8_court_120 : decode cX8_court 120 = .ok (.imul, 1) := by decide +kernel
theorem dX8_court_121 : decode cX8_court 121 = .ok (.iconst 1, 1) := by decide +kernel
theorem dX8_court_122 : decode cX8_court 122 = .ok (.iadd, 1) := by decide +kernel
theorem dX8_court_123 : decode cX8_court 123 = .ok (.iaload, 1) := by decide +kernel
theorem dX8_court_124 : decode cX8_court 124 = .ok (.iastore, 1) := by decide +kernel
theorem dX8_court_125 : decode cX8_court 125 = .ok (.aload_n 0, 1) := by decide +kernel
theorem dX8_court_126 : decode cX8_court 126 = .ok (.getfield 19, 3) := by decide +kernel
theorem dX8_court_129 : decode cX8_court 129 = .ok (.iload_n 2, 1) := by decide +kernel
theorem dX8_court_130 : decode cX8_court 130 = .ok (.aload_n 0, 1) := by decide +kernel
theorem dX8_court_131 : decode cX8_court 131 = .ok (.getfield 47, 3) := by decide +kernel
theorem dX8_court_134 : decode cX8_court 134 = .ok (.iconst 4, 1) := by decide +kernel
theorem dX8_court_135 : decode cX8_court 135 = .ok (.iload_n 2, 1) := by decide +kernel
theorem dX8_court_136 : decode cX8_court 136 = .ok (.imul, 1) := by decide +kernel
theorem dX8_court_137 : decode cX8_court 137 = .ok (.iconst 2, 1) := by decide +kernel
theorem dX8_court_138 : decode cX8_court 138 = .ok (.iadd, 1) := by decide +kernel
theorem dX8_court_139 : decode cX8_court 139 = .ok (.iaload, 1) := by decide +kernel
theorem dX8_court_140 : decode cX8_court 140 = .ok (.iastore, 1) := by decide +kernel
theorem dX8_court_141 : decode cX8_court 141 = .ok (.aload_n 0, 1) := by decide +kernel
theorem dX8_court_142 : decode cX8_court 142 = .ok (.getfield 22, 3) := by decide +kernel
theorem dX8_court_145 : decode cX8_court 145 = .ok (.iload_n 2, 1) := by decide +kernel
theorem dX8_court_146 : decode cX8_court 146 = .ok (.aload_n 0, 1) := by decide +kernel
theorem dX8_court_147 : decode cX8_court 147 = .ok (.getfield 47, 3) := by decide +kernel
theorem dX8_court_150 : decode cX8_court 150 = .ok (.iconst 4, 1) := by decide +kernel
theorem dX8_court_151 : decode cX8_court 151 = .ok (.iload_n 2, 1) := by decide +kernel
theorem dX8_court_152 : decode cX8_court 152 = .ok (.imul, 1) := by decide +kernel
theorem dX8_court_153 : decode cX8_court 153 = .ok (.iconst 3, 1) := by decide +kernel
theorem dX8_court_154 : decode cX8_court 154 = .ok (.iadd, 1) := by decide +kernel
theorem dX8_court_155 : decode cX8_court 155 = .ok (.iaload, 1) := by decide +kernel
theorem dX8_court_156 : decode cX8_court 156 = .ok (.iastore, 1) := by decide +kernel
theorem dX8_court_157 : decode cX8_court 157 = .ok (.iinc 2 1, 3) := by decide +kernel
theorem dX8_court_160 : decode cX8_court 160 = .ok (.goto (-73), 3) := by decide +kernel
theorem dX8_court_163 : decode cX8_court 163 = .ok (.aload_n 0, 1) := by decide +kernel
theorem dX8_court_164 : decode cX8_court 164 = .ok (.invokevirtual 62, 3) := by decide +kernel
theorem dX8_court_167 : decode cX8_court 167 = .ok (.aload_n 0, 1) := by decide +kernel
theorem dX8_court_168 : decode cX8_court 168 = .ok (.getfield 157, 3) := by decide +kernel
theorem dX8_court_171 : decode cX8_court 171 = .ok (.ireturn, 1) := by decide +kernel
theorem dX8_isMan_0 : decode cX8_isMan 0 = .ok (.iload_n 1, 1) := by decide +kernel
theorem dX8_isMan_1 : decode cX8_isMan 1 = .ok (.i2l, 1) := by decide +kernel
theorem dX8_isMan_2 : decode cX8_isMan 2 = .ok (.lconst 0, 1) := by decide +kernel
theorem dX8_isMan_3 : decode cX8_isMan 3 = .ok (.aload_n 0, 1) := by decide +kernel
theorem dX8_isMan_4 : decode cX8_isMan 4 = .ok (.getfield 157, 3) := by decide +kernel
theorem dX8_isMan_7 : decode cX8_isMan 7 = .ok (.iconst 1, 1) := by decide +kernel
theorem dX8_isMan_8 : decode cX8_isMan 8 = .ok (.isub, 1) := by decide +kernel
theorem dX8_isMan_9 : decode cX8_isMan 9 = .ok (.i2l, 1) := by decide +kernel
theorem dX8_isMan_10 : decode cX8_isMan 10 = .ok (.invokestatic 74, 3) := by decide +kernel
theorem dX8_isMan_13 : decode cX8_isMan 13 = .ok (.ireturn, 1) := by decide +kernel
theorem dX8_isClerk_0 : decode cX8_isClerk 0 = .ok (.iload_n 0, 1) := by decide +kernel
theorem dX8_isClerk_1 : decode cX8_isClerk 1 = .ok (.iconst 2, 1) := by decide +kernel
theorem dX8_isClerk_2 : decode cX8_isClerk 2 = .ok (.if_icmp .eq 8, 3) := by decide +kernel
theorem dX8_isClerk_5 : decode cX8_isClerk 5 = .ok (.iload_n 0, 1) := by decide +kernel
theorem dX8_isClerk_6 : decode cX8_isClerk 6 = .ok (.iconst 5, 1) := by decide +kernel
theorem dX8_isClerk_7 : decode cX8_isClerk 7 = .ok (.if_icmp .ne 7, 3) := by decide +kernel
theorem dX8_isClerk_10 : decode cX8_isClerk 10 = .ok (.iconst 1, 1) := by decide +kernel
theorem dX8_isClerk_11 : decode cX8_isClerk 11 = .ok (.goto 4, 3) := by decide +kernel
theorem dX8_isClerk_14 : decode cX8_isClerk 14 = .ok (.iconst 0, 1) := by decide +kernel
theorem dX8_isClerk_15 : decode cX8_isClerk 15 = .ok (.ireturn, 1) := by decide +kernel
theorem dX8_hardBy_0 : decode cX8_hardBy 0 = .ok (.iload_n 0, 1) := by decide +kernel
theorem dX8_hardBy_1 : decode cX8_hardBy 1 = .ok (.iconst 1, 1) := by decide +kernel
theorem dX8_hardBy_2 : decode cX8_hardBy 2 = .ok (.if_icmp .ne 9, 3) := by decide +kernel
theorem dX8_hardBy_5 : decode cX8_hardBy 5 = .ok (.iload_n 1, 1) := by decide +kernel
theorem dX8_hardBy_6 : decode cX8_hardBy 6 = .ok (.iconst 3, 1) := by decide +kernel
theorem dX8_hardBy_7 : decode cX8_hardBy 7 = .ok (.iadd, 1) := by decide +kernel
theorem dX8_hardBy_8 : decode cX8_hardBy 8 = .ok (.goto 28, 3) := by decide +kernel
theorem dX8_hardBy_11 : decode cX8_hardBy 11 = .ok (.iload_n 0, 1) := by decide +kernel
theorem dX8_hardBy_12 : decode cX8_hardBy 12 = .ok (.iconst 4, 1) := by decide +kernel
theorem dX8_hardBy_13 : decode cX8_hardBy 13 = .ok (.if_icmp .ne 9, 3) := by decide +kernel
theorem dX8_hardBy_16 : decode cX8_hardBy 16 = .ok (.iload_n 1, 1) := by decide +kernel
theorem dX8_hardBy_17 : decode cX8_hardBy 17 = .ok (.iconst 5, 1) := by decide +kernel
theorem dX8_hardBy_18 : decode cX8_hardBy 18 = .ok (.iadd, 1) := by decide +kernel
theorem dX8_hardBy_19 : decode cX8_hardBy 19 = .ok (.goto 17, 3) := by decide +kernel
theorem dX8_hardBy_22 : decode cX8_hardBy 22 = .ok (.iload_n 0, 1) := by decide +kernel
theorem dX8_hardBy_23 : decode cX8_hardBy 23 = .ok (.invokestatic 160, 3) := by decide +kernel
theorem dX8_hardBy_26 : decode cX8_hardBy 26 = .ok (.ifCond .eq 9, 3) := by decide +kernel
theorem dX8_hardBy_29 : decode cX8_hardBy 29 = .ok (.iload_n 1, 1) := by decide +kernel
theorem dX8_hardBy_30 : decode cX8_hardBy 30 = .ok (.iconst 2, 1) := by decide +kernel
theorem dX8_hardBy_31 : decode cX8_hardBy 31 = .ok (.idiv, 1) := by decide +kernel
theorem dX8_hardBy_32 : decode cX8_hardBy 32 = .ok (.goto 4, 3) := by decide +kernel
theorem dX8_hardBy_35 : decode cX8_hardBy 35 = .ok (.iload_n 1, 1) := by decide +kernel
theorem dX8_hardBy_36 : decode cX8_hardBy 36 = .ok (.ireturn, 1) := by decide +kernel
theorem dX8_plainFeels_0 : decode cX8_plainFeels 0 = .ok (.iload_n 2, 1) := by decide +kernel
theorem dX8_plainFeels_1 : decode cX8_plainFeels 1 = .ok (.aload_n 0, 1) := by decide +kernel
theorem dX8_plainFeels_2 : decode cX8_plainFeels 2 = .ok (.getfield 19, 3) := by decide +kernel
theorem dX8_plainFeels_5 : decode cX8_plainFeels 5 = .ok (.iload_n 1, 1) := by decide +kernel
theorem dX8_plainFeels_6 : decode cX8_plainFeels 6 = .ok (.iaload, 1) := by decide +kernel
theorem dX8_plainFeels_7 : decode cX8_plainFeels 7 = .ok (.iconst 4, 1) := by decide +kernel
theorem dX8_plainFeels_8 : decode cX8_plainFeels 8 = .ok (.if_icmp .le 10, 3) := by decide +kernel
theorem dX8_plainFeels_11 : decode cX8_plainFeels 11 = .ok (.aload_n 0, 1) := by decide +kernel
theorem dX8_plainFeels_12 : decode cX8_plainFeels 12 = .ok (.getfield 148, 3) := by decide +kernel
theorem dX8_plainFeels_15 : decode cX8_plainFeels 15 = .ok (.goto 4, 3) := by decide +kernel
theorem dX8_plainFeels_18 : decode cX8_plainFeels 18 = .ok (.iconst 0, 1) := by decide +kernel
theorem dX8_plainFeels_19 : decode cX8_plainFeels 19 = .ok (.isub, 1) := by decide +kernel
theorem dX8_plainFeels_20 : decode cX8_plainFeels 20 = .ok (.invokestatic 163, 3) := by decide +kernel
theorem dX8_plainFeels_23 : decode cX8_plainFeels 23 = .ok (.ireturn, 1) := by decide +kernel
theorem dX8_burnsBy_0 : decode cX8_burnsBy 0 = .ok (.iload_n 2, 1) := by decide +kernel
theorem dX8_burnsBy_1 : decode cX8_burnsBy 1 = .ok (.iconst 5, 1) := by decide +kernel
theorem dX8_burnsBy_2 : decode cX8_burnsBy 2 = .ok (.if_icmp .ne 15, 3) := by decide +kernel
theorem dX8_burnsBy_5 : decode cX8_burnsBy 5 = .ok (.aload_n 0, 1) := by decide +kernel
theorem dX8_burnsBy_6 : decode cX8_burnsBy 6 = .ok (.iload_n 1, 1) := by decide +kernel
theorem dX8_burnsBy_7 : decode cX8_burnsBy 7 = .ok (.iload 4, 2) := by decide +kernel
theorem dX8_burnsBy_9 : decode cX8_burnsBy 9 = .ok (.invokevirtual 166, 3) := by decide +kernel
theorem dX8_burnsBy_12 : decode cX8_burnsBy 12 = .ok (.iconst 2, 1) := by decide +kernel
theorem dX8_burnsBy_13 : decode cX8_burnsBy 13 = .ok (.idiv, 1) := by decide +kernel
theorem dX8_burnsBy_14 : decode cX8_burnsBy 14 = .ok (.goto 10, 3) := by decide +kernel
theorem dX8_burnsBy_17 : decode cX8_burnsBy 17 = .ok (.aload_n 0, 1) := by decide +kernel
theorem dX8_burnsBy_18 : decode cX8_burnsBy 18 = .ok (.iload_n 1, 1) := by decide +kernel
theorem dX8_burnsBy_19 : decode cX8_burnsBy 19 = .ok (.iload 4, 2) := by decide +kernel
theorem dX8_burnsBy_21 : decode cX8_burnsBy 21 = .ok (.invokevirtual 166, 3) := by decide +kernel
theorem dX8_burnsBy_24 : decode cX8_burnsBy 24 = .ok (.istore 5, 2) := by decide +kernel
theorem dX8_burnsBy_26 : decode cX8_burnsBy 26 = .ok (.aload_n 0, 1) := by decide +kernel
theorem dX8_burnsBy_27 : decode cX8_burnsBy 27 = .ok (.getfield 145, 3) := by decide +kernel
theorem dX8_burnsBy_30 : decode cX8_burnsBy 30 = .ok (.iload 5, 2) := by decide +kernel
theorem dX8_burnsBy_32 : decode cX8_burnsBy 32 = .ok (.imul, 1) := by decide +kernel
theorem dX8_burnsBy_33 : decode cX8_burnsBy 33 = .ok (.iload_n 2, 1) := by decide +kernel
theorem dX8_burnsBy_34 : decode cX8_burnsBy 34 = .ok (.iload_n 3, 1) := by decide +kernel
theorem dX8_burnsBy_35 : decode cX8_burnsBy 35 = .ok (.invokestatic 169, 3) := by decide +kernel
theorem dX8_burnsBy_38 : decode cX8_burnsBy 38 = .ok (.isub, 1) := by decide +kernel
theorem dX8_burnsBy_39 : decode cX8_burnsBy 39 = .ok (.invokestatic 163, 3) := by decide +kernel
theorem dX8_burnsBy_42 : decode cX8_burnsBy 42 = .ok (.ireturn, 1) := by decide +kernel
theorem dX8_burns_0 : decode cX8_burns 0 = .ok (.aload_n 0, 1) := by decide +kernel
theorem dX8_burns_1 : decode cX8_burns 1 = .ok (.iload_n 1, 1) := by decide +kernel
theorem dX8_burns_2 : decode cX8_burns 2 = .ok (.aload_n 0, 1) := by decide +kernel
theorem dX8_burns_3 : decode cX8_burns 3 = .ok (.getfield 13, 3) := by decide +kernel
theorem dX8_burns_6 : decode cX8_burns 6 = .ok (.iload_n 1, 1) := by decide +kernel
theorem dX8_burns_7 : decode cX8_burns 7 = .ok (.iaload, 1) := by decide +kernel
theorem dX8_burns_8 : decode cX8_burns 8 = .ok (.aload_n 0, 1) := by decide +kernel
theorem dX8_burns_9 : decode cX8_burns 9 = .ok (.getfield 22, 3) := by decide +kernel
theorem dX8_burns_12 : decode cX8_burns 12 = .ok (.iload_n 1, 1) := by decide +kernel
theorem dX8_burns_13 : decode cX8_burns 13 = .ok (.iaload, 1) := by decide +kernel
theorem dX8_burns_14 : decode cX8_burns 14 = .ok (.iload_n 2, 1) := by decide +kernel
theorem dX8_burns_15 : decode cX8_burns 15 = .ok (.invokevirtual 172, 3) := by decide +kernel
theorem dX8_burns_18 : decode cX8_burns 18 = .ok (.ireturn, 1) := by decide +kernel
theorem dX8_comesBy_0 : decode cX8_comesBy 0 = .ok (.aload_n 0, 1) := by decide +kernel
theorem dX8_comesBy_1 : decode cX8_comesBy 1 = .ok (.getfield 16, 3) := by decide +kernel
theorem dX8_comesBy_4 : decode cX8_comesBy 4 = .ok (.iload_n 1, 1) := by decide +kernel
theorem dX8_comesBy_5 : decode cX8_comesBy 5 = .ok (.iaload, 1) := by decide +kernel
theorem dX8_comesBy_6 : decode cX8_comesBy 6 = .ok (.ifCond .eq 13, 3) := by decide +kernel
theorem dX8_comesBy_9 : decode cX8_comesBy 9 = .ok (.aload_n 0, 1) := by decide +kernel
theorem dX8_comesBy_10 : decode cX8_comesBy 10 = .ok (.getfield 19, 3) := by decide +kernel
theorem dX8_comesBy_13 : decode cX8_comesBy 13 = .ok (.iload_n 1, 1) := by decide +kernel
theorem dX8_comesBy_14 : decode cX8_comesBy 14 = .ok (.iaload, 1) := by decide +kernel
theorem dX8_comesBy_15 : decode cX8_comesBy 15 = .ok (.iconst 3, 1) := by decide +kernel
theorem dX8_comesBy_16 : decode cX8_comesBy 16 = .ok (.if_icmp .ge 7, 3) := by decide +kernel
theorem dX8_comesBy_19 : decode cX8_comesBy 19 = .ok (.iconst 1, 1) := by decide +kernel
theorem dX8_comesBy_20 : decode cX8_comesBy 20 = .ok (.goto 4, 3) := by decide +kernel
theorem dX8_comesBy_23 : decode cX8_comesBy 23 = .ok (.iconst 0, 1) := by decide +kernel
theorem dX8_comesBy_24 : decode cX8_comesBy 24 = .ok (.istore 4, 2) := by decide +kernel
theorem dX8_comesBy_26 : decode cX8_comesBy 26 = .ok (.iload_n 2, 1) := by decide +kernel
theorem dX8_comesBy_27 : decode cX8_comesBy 27 = .ok (.iconst 4, 1) := by decide +kernel
theorem dX8_comesBy_28 : decode cX8_comesBy 28 = .ok (.if_icmp .eq 32, 3) := by decide +kernel
theorem dX8_comesBy_31 : decode cX8_comesBy 31 = .ok (.iload 4, 2) := by decide +kernel
theorem dX8_comesBy_33 : decode cX8_comesBy 33 = .ok (.ifCond .eq 31, 3) := by decide +kernel
theorem dX8_comesBy_36 : decode cX8_comesBy 36 = .ok (.iload_n 2, 1) := by decide +kernel
theorem dX8_comesBy_37 : decode cX8_comesBy 37 = .ok (.invokestatic 160, 3) := by decide +kernel
theorem dX8_comesBy_40 : decode cX8_comesBy 40 = .ok (.ifCond .eq 9, 3) := by decide +kernel
theorem dX8_comesBy_43 : decode cX8_comesBy 43 = .ok (.iload_n 3, 1) := by decide +kernel
theorem dX8_comesBy_44 : decode cX8_comesBy 44 = .ok (.bipush 20, 2) := by decide +kernel
theorem dX8_comesBy_46 : decode cX8_comesBy 46 = .ok (.if_icmp .gt 18, 3) := by decide +kernel
theorem dX8_comesBy_49 : decode cX8_comesBy 49 = .ok (.iload_n 2, 1) := by decide +kernel
theorem dX8_comesBy_50 : decode cX8_comesBy 50 = .ok (.iconst 3, 1) := by decide +kernel
theorem dX8_comesBy_51 : decode cX8_comesBy 51 = .ok (.if_icmp .ne 9, 3) := by decide +kernel
theorem dX8_comesBy_54 : decode cX8_comesBy 54 = .ok (.iload_n 3, 1) := by decide +kernel
theorem dX8_comesBy_55 : decode cX8_comesBy 55 = .ok (.bipush 10, 2) := by decide +kernel
theorem dX8_comesBy_57 : decode cX8_comesBy 57 = .ok (.if_icmp .gt 7, 3) := by decide +kernel
theorem dX8_comesBy_60 : decode cX8_comesBy 60 = .ok (.iconst 1, 1) := by decide +kernel
theorem dX8_comesBy_61 : decode cX8_comesBy 61 = .ok (.goto 4, 3) := by decide +kernel
theorem dX8_comesBy_64 : decode cX8_comesBy 64 = .ok (.iconst 0, 1) := by decide +kernel
theorem dX8_comesBy_65 : decode cX8_comesBy 65 = .ok (.ireturn, 1) := by decide +kernel
theorem dX8_doesCome_0 : decode cX8_doesCome 0 = .ok (.aload_n 0, 1) := by decide +kernel
theorem dX8_doesCome_1 : decode cX8_doesCome 1 = .ok (.iload_n 1, 1) := by decide +kernel
theorem dX8_doesCome_2 : decode cX8_doesCome 2 = .ok (.aload_n 0, 1) := by decide +kernel
theorem dX8_doesCome_3 : decode cX8_doesCome 3 = .ok (.getfield 13, 3) := by decide +kernel
theorem dX8_doesCome_6 : decode cX8_doesCome 6 = .ok (.iload_n 1, 1) := by decide +kernel
theorem dX8_doesCome_7 : decode cX8_doesCome 7 = .ok (.iaload, 1) := by decide +kernel
theorem dX8_doesCome_8 : decode cX8_doesCome 8 = .ok (.iload_n 2, 1) := by decide +kernel
theorem dX8_doesCome_9 : decode cX8_doesCome 9 = .ok (.invokevirtual 176, 3) := by decide +kernel
theorem dX8_doesCome_12 : decode cX8_doesCome 12 = .ok (.ireturn, 1) := by decide +kernel
theorem dX8_bearable_0 : decode cX8_bearable 0 = .ok (.aload_n 0, 1) := by decide +kernel
theorem dX8_bearable_1 : decode cX8_bearable 1 = .ok (.getfield 151, 3) := by decide +kernel
theorem dX8_bearable_4 : decode cX8_bearable 4 = .ok (.iconst 2, 1) := by decide +kernel
theorem dX8_bearable_5 : decode cX8_bearable 5 = .ok (.aload_n 0, 1) := by decide +kernel
theorem dX8_bearable_6 : decode cX8_bearable 6 = .ok (.getfield 7, 3) := by decide +kernel
theorem dX8_bearable_9 : decode cX8_bearable 9 = .ok (.iload_n 1, 1) := by decide +kernel
theorem dX8_bearable_10 : decode cX8_bearable 10 = .ok (.iconst 5, 1) := by decide +kernel
theorem dX8_bearable_11 : decode cX8_bearable 11 = .ok (.iadd, 1) := by decide +kernel
theorem dX8_bearable_12 : decode cX8_bearable 12 = .ok (.iload_n 2, 1) := by decide +kernel
theorem dX8_bearable_13 : decode cX8_bearable 13 = .ok (.iadd, 1) := by decide +kernel
theorem dX8_bearable_14 : decode cX8_bearable 14 = .ok (.iaload, 1) := by decide +kernel
theorem dX8_bearable_15 : decode cX8_bearable 15 = .ok (.imul, 1) := by decide +kernel
theorem dX8_bearable_16 : decode cX8_bearable 16 = .ok (.iadd, 1) := by decide +kernel
theorem dX8_bearable_17 : decode cX8_bearable 17 = .ok (.ireturn, 1) := by decide +kernel
theorem dX8_isClean_0 : decode cX8_isClean 0 = .ok (.aload_n 0, 1) := by decide +kernel
theorem dX8_isClean_1 : decode cX8_isClean 1 = .ok (.iload_n 2, 1) := by decide +kernel
theorem dX8_isClean_2 : decode cX8_isClean 2 = .ok (.iload_n 3, 1) := by decide +kernel
theorem dX8_isClean_3 : decode cX8_isClean 3 = .ok (.invokevirtual 179, 3) := by decide +kernel
theorem dX8_isClean_6 : decode cX8_isClean 6 = .ok (.aload_n 0, 1) := by decide +kernel
theorem dX8_isClean_7 : decode cX8_isClean 7 = .ok (.iload_n 1, 1) := by decide +kernel
theorem dX8_isClean_8 : decode cX8_isClean 8 = .ok (.iload_n 2, 1) := by decide +kernel
theorem dX8_isClean_9 : decode cX8_isClean 9 = .ok (.invokevirtual 182, 3) := by decide +kernel
theorem dX8_isClean_12 : decode cX8_isClean 12 = .ok (.if_icmp .gt 7, 3) := by decide +kernel
theorem dX8_isClean_15 : decode cX8_isClean 15 = .ok (.iconst 1, 1) := by decide +kernel
theorem dX8_isClean_16 : decode cX8_isClean 16 = .ok (.goto 4, 3) := by decide +kernel
theorem dX8_isClean_19 : decode cX8_isClean 19 = .ok (.iconst 0, 1) := by decide +kernel
theorem dX8_isClean_20 : decode cX8_isClean 20 = .ok (.ireturn, 1) := by decide +kernel
theorem dX8_tellsBy_0 : decode cX8_tellsBy 0 = .ok (.aload_n 0, 1) := by decide +kernel
theorem dX8_tellsBy_1 : decode cX8_tellsBy 1 = .ok (.iload_n 1, 1) := by decide +kernel
theorem dX8_tellsBy_2 : decode cX8_tellsBy 2 = .ok (.iload_n 2, 1) := by decide +kernel
theorem dX8_tellsBy_3 : decode cX8_tellsBy 3 = .ok (.iload 4, 2) := by decide +kernel
theorem dX8_tellsBy_5 : decode cX8_tellsBy 5 = .ok (.invokevirtual 176, 3) := by decide +kernel
theorem dX8_tellsBy_8 : decode cX8_tellsBy 8 = .ok (.ifCond .ne 7, 3) := by decide +kernel
theorem dX8_tellsBy_11 : decode cX8_tellsBy 11 = .ok (.iconst 2, 1) := by decide +kernel
theorem dX8_tellsBy_12 : decode cX8_tellsBy 12 = .ok (.goto 26, 3) := by decide +kernel
theorem dX8_tellsBy_15 : decode cX8_tellsBy 15 = .ok (.aload_n 0, 1) := by decide +kernel
theorem dX8_tellsBy_16 : decode cX8_tellsBy 16 = .ok (.iload_n 1, 1) := by decide +kernel
theorem dX8_tellsBy_17 : decode cX8_tellsBy 17 = .ok (.iload_n 2, 1) := by decide +kernel
theorem dX8_tellsBy_18 : decode cX8_tellsBy 18 = .ok (.iload_n 3, 1) := by decide +kernel
theorem dX8_tellsBy_19 : decode cX8_tellsBy 19 = .ok (.iload 4, 2) := by decide +kernel
theorem dX8_tellsBy_21 : decode cX8_tellsBy 21 = .ok (.invokevirtual 172, 3) := by decide +kernel
theorem dX8_tellsBy_24 : decode cX8_tellsBy 24 = .ok (.aload_n 0, 1) := by decide +kernel
theorem dX8_tellsBy_25 : decode cX8_tellsBy 25 = .ok (.iconst 0, 1) := by decide +kernel
theorem dX8_tellsBy_26 : decode cX8_tellsBy 26 = .ok (.iload_n 1, 1) := by decide +kernel
theorem dX8_tellsBy_27 : decode cX8_tellsBy 27 = .ok (.invokevirtual 182, 3) := by decide +kernel
theorem dX8_tellsBy_30 : decode cX8_tellsBy 30 = .ok (.if_icmp .gt 7, 3) := by decide +kernel
theorem dX8_tellsBy_33 : decode cX8_tellsBy 33 = .ok (.iconst 1, 1) := by decide +kernel
theorem dX8_tellsBy_34 : decode cX8_tellsBy 34 = .ok (.goto 4, 3) := by decide +kernel
theorem dX8_tellsBy_37 : decode cX8_tellsBy 37 = .ok (.iconst 0, 1) := by decide +kernel
theorem dX8_tellsBy_38 : decode cX8_tellsBy 38 = .ok (.ireturn, 1) := by decide +kernel
theorem dX8_tellsAt_0 : decode cX8_tellsAt 0 = .ok (.aload_n 0, 1) := by decide +kernel
theorem dX8_tellsAt_1 : decode cX8_tellsAt 1 = .ok (.iload_n 2, 1) := by decide +kernel
theorem dX8_tellsAt_2 : decode cX8_tellsAt 2 = .ok (.iload_n 3, 1) := by decide +kernel
theorem dX8_tellsAt_3 : decode cX8_tellsAt 3 = .ok (.invokevirtual 185, 3) := by decide +kernel
theorem dX8_tellsAt_6 : decode cX8_tellsAt 6 = .ok (.ifCond .ne 7, 3) := by decide +kernel
theorem dX8_tellsAt_9 : decode cX8_tellsAt 9 = .ok (.iconst 2, 1) := by decide +kernel
theorem dX8_tellsAt_10 : decode cX8_tellsAt 10 = .ok (.goto 18, 3) := by decide +kernel
theorem dX8_tellsAt_13 : decode cX8_tellsAt 13 = .ok (.aload_n 0, 1) := by decide +kernel
theorem dX8_tellsAt_14 : decode cX8_tellsAt 14 = .ok (.iload_n 1, 1) := by decide +kernel
theorem dX8_tellsAt_15 : decode cX8_tellsAt 15 = .ok (.iload_n 2, 1) := by decide +kernel
theorem dX8_tellsAt_16 : decode cX8_tellsAt 16 = .ok (.iload_n 3, 1) := by decide +kernel
theorem dX8_tellsAt_17 : decode cX8_tellsAt 17 = .ok (.invokevirtual 188, 3) := by decide +kernel
theorem dX8_tellsAt_20 : decode cX8_tellsAt 20 = .ok (.ifCond .eq 7, 3) := by decide +kernel
theorem dX8_tellsAt_23 : decode cX8_tellsAt 23 = .ok (.iconst 1, 1) := by decide +kernel
theorem dX8_tellsAt_24 : decode cX8_tellsAt 24 = .ok (.goto 4, 3) := by decide +kernel
theorem dX8_tellsAt_27 : decode cX8_tellsAt 27 = .ok (.iconst 0, 1) := by decide +kernel
theorem dX8_tellsAt_28 : decode cX8_tellsAt 28 = .ok (.ireturn, 1) := by decide +kernel
theorem dX8_isWrong_0 : decode cX8_isWrong 0 = .ok (.aload_n 0, 1) := by decide +kernel
theorem dX8_isWrong_1 : decode cX8_isWrong 1 = .ok (.getfield 16, 3) := by decide +kernel
theorem dX8_isWrong_4 : decode cX8_isWrong 4 = .ok (.iload_n 1, 1) := by decide +kernel
theorem dX8_isWrong_5 : decode cX8_isWrong 5 = .ok (.iaload, 1) := by decide +kernel
theorem dX8_isWrong_6 : decode cX8_isWrong 6 = .ok (.iconst 1, 1) := by decide +kernel
theorem dX8_isWrong_7 : decode cX8_isWrong 7 = .ok (.if_icmp .ne 16, 3) := by decide +kernel
theorem dX8_isWrong_10 : decode cX8_isWrong 10 = .ok (.iload_n 2, 1) := by decide +kernel
theorem dX8_isWrong_11 : decode cX8_isWrong 11 = .ok (.iconst 1, 1) := by decide +kernel
theorem dX8_isWrong_12 : decode cX8_isWrong 12 = .ok (.if_icmp .ne 7, 3) := by decide +kernel
theorem dX8_isWrong_15 : decode cX8_isWrong 15 = .ok (.iconst 1, 1) := by decide +kernel
theorem dX8_isWrong_16 : decode cX8_isWrong 16 = .ok (.goto 17, 3) := by decide +kernel
theorem dX8_isWrong_19 : decode cX8_isWrong 19 = .ok (.iconst 0, 1) := by decide +kernel
theorem dX8_isWrong_20 : decode cX8_isWrong 20 = .ok (.goto 13, 3) := by decide +kernel
theorem dX8_isWrong_23 : decode cX8_isWrong 23 = .ok (.iload_n 2, 1) := by decide +kernel
theorem dX8_isWrong_24 : decode cX8_isWrong 24 = .ok (.iconst 1, 1) := by decide +kernel
theorem dX8_isWrong_25 : decode cX8_isWrong 25 = .ok (.if_icmp .eq 7, 3) := by decide +kernel
theorem dX8_isWrong_28 : decode cX8_isWrong 28 = .ok (.iconst 1, 1) := by decide +kernel
theorem dX8_isWrong_29 : decode cX8_isWrong 29 = .ok (.goto 4, 3) := by decide +kernel
theorem dX8_isWrong_32 : decode cX8_isWrong 32 = .ok (.iconst 0, 1) := by decide +kernel
theorem dX8_isWrong_33 : decode cX8_isWrong 33 = .ok (.ireturn, 1) := by decide +kernel
theorem dX8_toldOf_0 : decode cX8_toldOf 0 = .ok (.iload_n 2, 1) := by decide +kernel
theorem dX8_toldOf_1 : decode cX8_toldOf 1 = .ok (.tableswitch 146 0 7 #[47, 54, 61, 68, 84, 96, 116, 137], 47) := by decide +kernel
theorem dX8_toldOf_48 : decode cX8_toldOf 48 = .ok (.aload_n 0, 1) := by decide +kernel
theorem dX8_toldOf_49 : decode cX8_toldOf 49 = .ok (.getfield 13, 3) := by decide +kernel
theorem dX8_toldOf_52 : decode cX8_toldOf 52 = .ok (.iload_n 1, 1) := by decide +kernel
theorem dX8_toldOf_53 : decode cX8_toldOf 53 = .ok (.iaload, 1) := by decide +kernel
theorem dX8_toldOf_54 : decode cX8_toldOf 54 = .ok (.ireturn, 1) := by decide +kernel
theorem dX8_toldOf_55 : decode cX8_toldOf 55 = .ok (.aload_n 0, 1) := by decide +kernel
theorem dX8_toldOf_56 : decode cX8_toldOf 56 = .ok (.getfield 16, 3) := by decide +kernel
theorem dX8_toldOf_59 : decode cX8_toldOf 59 = .ok (.iload_n 1, 1) := by decide +kernel
theorem dX8_toldOf_60 : decode cX8_toldOf 60 = .ok (.iaload, 1) := by decide +kernel
theorem dX8_toldOf_61 : decode cX8_toldOf 61 = .ok (.ireturn, 1) := by decide +kernel
theorem dX8_toldOf_62 : decode cX8_toldOf 62 = .ok (.aload_n 0, 1) := by decide +kernel
theorem dX8_toldOf_63 : decode cX8_toldOf 63 = .ok (.getfield 19, 3) := by decide +kernel
theorem dX8_toldOf_66 : decode cX8_toldOf 66 = .ok (.iload_n 1, 1) := by decide +kernel
theorem dX8_toldOf_67 : decode cX8_toldOf 67 = .ok (.iaload, 1) := by decide +kernel
theorem dX8_toldOf_68 : decode cX8_toldOf 68 = .ok (.ireturn, 1) := by decide +kernel
theorem dX8_toldOf_69 : decode cX8_toldOf 69 = .ok (.aload_n 0, 1) := by decide +kernel
theorem dX8_toldOf_70 : decode cX8_toldOf 70 = .ok (.getfield 13, 3) := by decide +kernel
theorem dX8_toldOf_73 : decode cX8_toldOf 73 = .ok (.iload_n 1, 1) := by decide +kernel
theorem dX8_toldOf_74 : decode cX8_toldOf 74 = .ok (.iaload, 1) := by decide +kernel
theorem dX8_toldOf_75 : decode cX8_toldOf 75 = .ok (.aload_n 0, 1) := by decide +kernel
theorem dX8_toldOf_76 : decode cX8_toldOf 76 = .ok (.getfield 22, 3) := by decide +kernel
theorem dX8_toldOf_79 : decode cX8_toldOf 79 = .ok (.iload_n 1, 1) := by decide +kernel
theorem dX8_toldOf_80 : decode cX8_toldOf 80 = .ok (.iaload, 1) := by decide +kernel
theorem dX8_toldOf_81 : decode cX8_toldOf 81 = .ok (.invokestatic 169, 3) := by decide +kernel
theorem dX8_toldOf_84 : decode cX8_toldOf 84 = .ok (.ireturn, 1) := by decide +kernel
theorem dX8_toldOf_85 : decode cX8_toldOf 85 = .ok (.aload_n 0, 1) := by decide +kernel
theorem dX8_toldOf_86 : decode cX8_toldOf 86 = .ok (.iload_n 1, 1) := by decide +kernel
theorem dX8_toldOf_87 : decode cX8_toldOf 87 = .ok (.aload_n 0, 1) := by decide +kernel
theorem dX8_toldOf_88 : decode cX8_toldOf 88 = .ok (.getfield 7, 3) := by decide +kernel
theorem dX8_toldOf_91 : decode cX8_toldOf 91 = .ok (.iconst 1, 1) := by decide +kernel
theorem dX8_toldOf_92 : decode cX8_toldOf 92 = .ok (.iaload, 1) := by decide +kernel
theorem dX8_toldOf_93 : decode cX8_toldOf 93 = .ok (.invokevirtual 179, 3) := by decide +kernel
theorem dX8_toldOf_96 : decode cX8_toldOf 96 = .ok (.ireturn, 1) := by decide +kernel
theorem dX8_toldOf_97 : decode cX8_toldOf 97 = .ok (.aload_n 0, 1) := by decide +kernel
theorem dX8_toldOf_98 : decode cX8_toldOf 98 = .ok (.iload_n 1, 1) := by decide +kernel
theorem dX8_toldOf_99 : decode cX8_toldOf 99 = .ok (.aload_n 0, 1) := by decide +kernel
theorem dX8_toldOf_100 : decode cX8_toldOf 100 = .ok (.getfield 7, 3) := by decide +kernel
theorem dX8_toldOf_103 : decode cX8_toldOf 103 = .ok (.iconst 1, 1) := by decide +kernel
theorem dX8_toldOf_104 : decode cX8_toldOf 104 = .ok (.iaload, 1) := by decide +kernel
theorem dX8_toldOf_105 : decode cX8_toldOf 105 = .ok (.invokevirtual 185, 3) := by decide +kernel
theorem dX8_toldOf_108 : decode cX8_toldOf 108 = .ok (.ifCond .eq 7, 3) := by decide +kernel
theorem dX8_toldOf_111 : decode cX8_toldOf 111 = .ok (.iconst 1, 1) := by decide +kernel
theorem dX8_toldOf_112 : decode cX8_toldOf 112 = .ok (.goto 4, 3) := by decide +kernel
theorem dX8_toldOf_115 : decode cX8_toldOf 115 = .ok (.iconst 0, 1) := by decide +kernel
theorem dX8_toldOf_116 : decode cX8_toldOf 116 = .ok (.ireturn, 1) := by decide +kernel
theorem dX8_toldOf_117 : decode cX8_toldOf 117 = .ok (.aload_n 0, 1) := by decide +kernel
theorem dX8_toldOf_118 : decode cX8_toldOf 118 = .ok (.iconst 0, 1) := by decide +kernel
theorem dX8_toldOf_119 : decode cX8_toldOf 119 = .ok (.iload_n 1, 1) := by decide +kernel
theorem dX8_toldOf_120 : decode cX8_toldOf 120 = .ok (.aload_n 0, 1) := by decide +kernel
theorem dX8_toldOf_121 : decode cX8_toldOf 121 = .ok (.getfield 7, 3) := by decide +kernel
theorem dX8_toldOf_124 : decode cX8_toldOf 124 = .ok (.iconst 1, 1) := by decide +kernel
theorem dX8_toldOf_125 : decode cX8_toldOf 125 = .ok (.iaload, 1) := by decide +kernel
theorem dX8_toldOf_126 : decode cX8_toldOf 126 = .ok (.invokevirtual 188, 3) := by decide +kernel
theorem dX8_toldOf_129 : decode cX8_toldOf 129 = .ok (.ifCond .eq 7, 3) := by decide +kernel
theorem dX8_toldOf_132 : decode cX8_toldOf 132 = .ok (.iconst 1, 1) := by decide +kernel
theorem dX8_toldOf_133 : decode cX8_toldOf 133 = .ok (.goto 4, 3) := by decide +kernel
theorem dX8_toldOf_136 : decode cX8_toldOf 136 = .ok (.iconst 0, 1) := by decide +kernel
theorem dX8_toldOf_137 : decode cX8_toldOf 137 = .ok (.ireturn, 1) := by decide +kernel
theorem dX8_toldOf_138 : decode cX8_toldOf 138 = .ok (.aload_n 0, 1) := by decide +kernel
theorem dX8_toldOf_139 : decode cX8_toldOf 139 = .ok (.getfield 7, 3) := by decide +kernel
theorem dX8_toldOf_142 : decode cX8_toldOf 142 = .ok (.iconst 5, 1) := by decide +kernel
theorem dX8_toldOf_143 : decode cX8_toldOf 143 = .ok (.iload_n 1, 1) := by decide +kernel
theorem dX8_toldOf_144 : decode cX8_toldOf 144 = .ok (.iadd, 1) := by decide +kernel
theorem dX8_toldOf_145 : decode cX8_toldOf 145 = .ok (.iaload, 1) := by decide +kernel
theorem dX8_toldOf_146 : decode cX8_toldOf 146 = .ok (.ireturn, 1) := by decide +kernel
theorem dX8_toldOf_147 : decode cX8_toldOf 147 = .ok (.aload_n 0, 1) := by decide +kernel
theorem dX8_toldOf_148 : decode cX8_toldOf 148 = .ok (.getfield 7, 3) := by decide +kernel
theorem dX8_toldOf_151 : decode cX8_toldOf 151 = .ok (.bipush 11, 2) := by decide +kernel
theorem dX8_toldOf_153 : decode cX8_toldOf 153 = .ok (.iload_n 1, 1) := by decide +kernel
theorem dX8_toldOf_154 : decode cX8_toldOf 154 = .ok (.iadd, 1) := by decide +kernel
theorem dX8_toldOf_155 : decode cX8_toldOf 155 = .ok (.iaload, 1) := by decide +kernel
theorem dX8_toldOf_156 : decode cX8_toldOf 156 = .ok (.ireturn, 1) := by decide +kernel
theorem dX8_man_0 : decode cX8_man 0 = .ok (.aload_n 0, 1) := by decide +kernel
theorem dX8_man_1 : decode cX8_man 1 = .ok (.iload_n 1, 1) := by decide +kernel
theorem dX8_man_2 : decode cX8_man 2 = .ok (.invokevirtual 191, 3) := by decide +kernel
theorem dX8_man_5 : decode cX8_man 5 = .ok (.ifCond .eq 28, 3) := by decide +kernel
theorem dX8_man_8 : decode cX8_man 8 = .ok (.iload_n 2, 1) := by decide +kernel
theorem dX8_man_9 : decode cX8_man 9 = .ok (.i2l, 1) := by decide +kernel
theorem dX8_man_10 : decode cX8_man 10 = .ok (.lconst 0, 1) := by decide +kernel
theorem dX8_man_11 : decode cX8_man 11 = .ok (.ldc2_w 194, 3) := by decide +kernel
theorem dX8_man_14 : decode cX8_man 14 = .ok (.invokestatic 74, 3) := by decide +kernel
theorem dX8_man_17 : decode cX8_man 17 = .ok (.ifCond .eq 16, 3) := by decide +kernel
theorem dX8_man_20 : decode cX8_man 20 = .ok (.aload_n 0, 1) := by decide +kernel
theorem dX8_man_21 : decode cX8_man 21 = .ok (.aload_n 0, 1) := by decide +kernel
theorem dX8_man_22 : decode cX8_man 22 = .ok (.iload_n 1, 1) := by decide +kernel
theorem dX8_man_23 : decode cX8_man 23 = .ok (.iload_n 2, 1) := by decide +kernel
theorem dX8_man_24 : decode cX8_man 24 = .ok (.invokevirtual 196, 3) := by decide +kernel
theorem dX8_man_27 : decode cX8_man 27 = .ok (.invokevirtual 96, 3) := by decide +kernel
theorem dX8_man_30 : decode cX8_man 30 = .ok (.goto 4, 3) := by decide +kernel
theorem dX8_man_33 : decode cX8_man 33 = .ok (.iconst (-1), 1) := by decide +kernel
theorem dX8_man_34 : decode cX8_man 34 = .ok (.ireturn, 1) := by decide +kernel
theorem dX8_isOf_0 : decode cX8_isOf 0 = .ok (.aload_n 0, 1) := by decide +kernel
theorem dX8_isOf_1 : decode cX8_isOf 1 = .ok (.getfield 13, 3) := by decide +kernel
theorem dX8_isOf_4 : decode cX8_isOf 4 = .ok (.iload_n 1, 1) := by decide +kernel
theorem dX8_isOf_5 : decode cX8_isOf 5 = .ok (.iaload, 1) := by decide +kernel
theorem dX8_isOf_6 : decode cX8_isOf 6 = .ok (.istore_n 3, 1) := by decide +kernel
theorem dX8_isOf_7 : decode cX8_isOf 7 = .ok (.iload_n 3, 1) := by decide +kernel
theorem dX8_isOf_8 : decode cX8_isOf 8 = .ok (.iload_n 2, 1) := by decide +kernel
theorem dX8_isOf_9 : decode cX8_isOf 9 = .ok (.if_icmp .eq 23, 3) := by decide +kernel
theorem dX8_isOf_12 : decode cX8_isOf 12 = .ok (.iload_n 2, 1) := by decide +kernel
theorem dX8_isOf_13 : decode cX8_isOf 13 = .ok (.iconst 1, 1) := by decide +kernel
theorem dX8_isOf_14 : decode cX8_isOf 14 = .ok (.if_icmp .ne 8, 3) := by decide +kernel
theorem dX8_isOf_17 : decode cX8_isOf 17 = .ok (.iload_n 3, 1) := by decide +kernel
theorem dX8_isOf_18 : decode cX8_isOf 18 = .ok (.iconst 4, 1) := by decide +kernel
theorem dX8_isOf_19 : decode cX8_isOf 19 = .ok (.if_icmp .eq 13, 3) := by decide +kernel
theorem dX8_isOf_22 : decode cX8_isOf 22 = .ok (.iload_n 2, 1) := by decide +kernel
theorem dX8_isOf_23 : decode cX8_isOf 23 = .ok (.iconst 2, 1) := by decide +kernel
theorem dX8_isOf_24 : decode cX8_isOf 24 = .ok (.if_icmp .ne 12, 3) := by decide +kernel
theorem dX8_isOf_27 : decode cX8_isOf 27 = .ok (.iload_n 3, 1) := by decide +kernel
theorem dX8_isOf_28 : decode cX8_isOf 28 = .ok (.iconst 5, 1) := by decide +kernel
theorem dX8_isOf_29 : decode cX8_isOf 29 = .ok (.if_icmp .ne 7, 3) := by decide +kernel
theorem dX8_isOf_32 : decode cX8_isOf 32 = .ok (.iconst 1, 1) := by decide +kernel
theorem dX8_isOf_33 : decode cX8_isOf 33 = .ok (.goto 4, 3) := by decide +kernel
theorem dX8_isOf_36 : decode cX8_isOf 36 = .ok (.iconst 0, 1) := by decide +kernel
theorem dX8_isOf_37 : decode cX8_isOf 37 = .ok (.ireturn, 1) := by decide +kernel
theorem dX8_moreHeat_0 : decode cX8_moreHeat 0 = .ok (.aload_n 0, 1) := by decide +kernel
theorem dX8_moreHeat_1 : decode cX8_moreHeat 1 = .ok (.getfield 7, 3) := by decide +kernel
theorem dX8_moreHeat_4 : decode cX8_moreHeat 4 = .ok (.iconst 1, 1) := by decide +kernel
theorem dX8_moreHeat_5 : decode cX8_moreHeat 5 = .ok (.iaload, 1) := by decide +kernel
theorem dX8_moreHeat_6 : decode cX8_moreHeat 6 = .ok (.istore_n 2, 1) := by decide +kernel
theorem dX8_moreHeat_7 : decode cX8_moreHeat 7 = .ok (.iload_n 2, 1) := by decide +kernel
theorem dX8_moreHeat_8 : decode cX8_moreHeat 8 = .ok (.bipush 30, 2) := by decide +kernel
theorem dX8_moreHeat_10 : decode cX8_moreHeat 10 = .ok (.if_icmp .ge 21, 3) := by decide +kernel
theorem dX8_moreHeat_13 : decode cX8_moreHeat 13 = .ok (.aload_n 0, 1) := by decide +kernel
theorem dX8_moreHeat_14 : decode cX8_moreHeat 14 = .ok (.iconst 0, 1) := by decide +kernel
theorem dX8_moreHeat_15 : decode cX8_moreHeat 15 = .ok (.iload_n 1, 1) := by decide +kernel
theorem dX8_moreHeat_16 : decode cX8_moreHeat 16 = .ok (.iload_n 2, 1) := by decide +kernel
theorem dX8_moreHeat_17 : decode cX8_moreHeat 17 = .ok (.iconst 1, 1) := by decide +kernel
theorem dX8_moreHeat_18 : decode cX8_moreHeat 18 = .ok (.iadd, 1) := by decide +kernel
theorem dX8_moreHeat_19 : decode cX8_moreHeat 19 = .ok (.invokevirtual 188, 3) := by decide +kernel
theorem dX8_moreHeat_22 : decode cX8_moreHeat 22 = .ok (.ifCond .eq 9, 3) := by decide +kernel
theorem dX8_moreHeat_25 : decode cX8_moreHeat 25 = .ok (.iinc 2 1, 3) := by decide +kernel
theorem dX8_moreHeat_28 : decode cX8_moreHeat 28 = .ok (.goto (-21), 3) := by decide +kernel
theorem dX8_moreHeat_31 : decode cX8_moreHeat 31 = .ok (.aload_n 0, 1) := by decide +kernel
theorem dX8_moreHeat_32 : decode cX8_moreHeat 32 = .ok (.iconst 0, 1) := by decide +kernel
theorem dX8_moreHeat_33 : decode cX8_moreHeat 33 = .ok (.iload_n 1, 1) := by decide +kernel
theorem dX8_moreHeat_34 : decode cX8_moreHeat 34 = .ok (.aload_n 0, 1) := by decide +kernel
theorem dX8_moreHeat_35 : decode cX8_moreHeat 35 = .ok (.getfield 7, 3) := by decide +kernel
theorem dX8_moreHeat_38 : decode cX8_moreHeat 38 = .ok (.iconst 1, 1) := by decide +kernel
theorem dX8_moreHeat_39 : decode cX8_moreHeat 39 = .ok (.iaload, 1) := by decide +kernel
theorem dX8_moreHeat_40 : decode cX8_moreHeat 40 = .ok (.invokevirtual 188, 3) := by decide +kernel
theorem dX8_moreHeat_43 : decode cX8_moreHeat 43 = .ok (.ifCond .eq 14, 3) := by decide +kernel
theorem dX8_moreHeat_46 : decode cX8_moreHeat 46 = .ok (.iload_n 2, 1) := by decide +kernel
theorem dX8_moreHeat_47 : decode cX8_moreHeat 47 = .ok (.aload_n 0, 1) := by decide +kernel
theorem dX8_moreHeat_48 : decode cX8_moreHeat 48 = .ok (.getfield 7, 3) := by decide +kernel
theorem dX8_moreHeat_51 : decode cX8_moreHeat 51 = .ok (.iconst 1, 1) := by decide +kernel
theorem dX8_moreHeat_52 : decode cX8_moreHeat 52 = .ok (.iaload, 1) := by decide +kernel
theorem dX8_moreHeat_53 : decode cX8_moreHeat 53 = .ok (.isub, 1) := by decide +kernel
theorem dX8_moreHeat_54 : decode cX8_moreHeat 54 = .ok (.goto 4, 3) := by decide +kernel
theorem dX8_moreHeat_57 : decode cX8_moreHeat 57 = .ok (.iconst 0, 1) := by decide +kernel
theorem dX8_moreHeat_58 : decode cX8_moreHeat 58 = .ok (.ireturn, 1) := by decide +kernel
theorem dX8_awayBut_0 : decode cX8_awayBut 0 = .ok (.iconst 0, 1) := by decide +kernel
theorem dX8_awayBut_1 : decode cX8_awayBut 1 = .ok (.istore_n 2, 1) := by decide +kernel
theorem dX8_awayBut_2 : decode cX8_awayBut 2 = .ok (.iconst 0, 1) := by decide +kernel
theorem dX8_awayBut_3 : decode cX8_awayBut 3 = .ok (.istore_n 3, 1) := by decide +kernel
theorem dX8_awayBut_4 : decode cX8_awayBut 4 = .ok (.iload_n 3, 1) := by decide +kernel
theorem dX8_awayBut_5 : decode cX8_awayBut 5 = .ok (.aload_n 0, 1) := by decide +kernel
theorem dX8_awayBut_6 : decode cX8_awayBut 6 = .ok (.getfield 157, 3) := by decide +kernel
theorem dX8_awayBut_9 : decode cX8_awayBut 9 = .ok (.if_icmp .ge 36, 3) := by decide +kernel
theorem dX8_awayBut_12 : decode cX8_awayBut 12 = .ok (.iload_n 2, 1) := by decide +kernel
theorem dX8_awayBut_13 : decode cX8_awayBut 13 = .ok (.iload_n 3, 1) := by decide +kernel
theorem dX8_awayBut_14 : decode cX8_awayBut 14 = .ok (.iload_n 1, 1) := by decide +kernel
theorem dX8_awayBut_15 : decode cX8_awayBut 15 = .ok (.if_icmp .eq 21, 3) := by decide +kernel
theorem dX8_awayBut_18 : decode cX8_awayBut 18 = .ok (.aload_n 0, 1) := by decide +kernel
theorem dX8_awayBut_19 : decode cX8_awayBut 19 = .ok (.iload_n 3, 1) := by decide +kernel
theorem dX8_awayBut_20 : decode cX8_awayBut 20 = .ok (.aload_n 0, 1) := by decide +kernel
theorem dX8_awayBut_21 : decode cX8_awayBut 21 = .ok (.getfield 7, 3) := by decide +kernel
theorem dX8_awayBut_24 : decode cX8_awayBut 24 = .ok (.iconst 1, 1) := by decide +kernel
theorem dX8_awayBut_25 : decode cX8_awayBut 25 = .ok (.iaload, 1) := by decide +kernel
theorem dX8_awayBut_26 : decode cX8_awayBut 26 = .ok (.invokevirtual 185, 3) := by decide +kernel
theorem dX8_awayBut_29 : decode cX8_awayBut 29 = .ok (.ifCond .ne 7, 3) := by decide +kernel
theorem dX8_awayBut_32 : decode cX8_awayBut 32 = .ok (.iconst 1, 1) := by decide +kernel
theorem dX8_awayBut_33 : decode cX8_awayBut 33 = .ok (.goto 4, 3) := by decide +kernel
theorem dX8_awayBut_36 : decode cX8_awayBut 36 = .ok (.iconst 0, 1) := by decide +kernel
theorem dX8_awayBut_37 : decode cX8_awayBut 37 = .ok (.iadd, 1) := by decide +kernel
theorem dX8_awayBut_38 : decode cX8_awayBut 38 = .ok (.istore_n 2, 1) := by decide +kernel
theorem dX8_awayBut_39 : decode cX8_awayBut 39 = .ok (.iinc 3 1, 3) := by decide +kernel
theorem dX8_awayBut_42 : decode cX8_awayBut 42 = .ok (.goto (-38), 3) := by decide +kernel
theorem dX8_awayBut_45 : decode cX8_awayBut 45 = .ok (.iload_n 2, 1) := by decide +kernel
theorem dX8_awayBut_46 : decode cX8_awayBut 46 = .ok (.ireturn, 1) := by decide +kernel
theorem dX8_mark_0 : decode cX8_mark 0 = .ok (.aload_n 0, 1) := by decide +kernel
theorem dX8_mark_1 : decode cX8_mark 1 = .ok (.iload_n 1, 1) := by decide +kernel
theorem dX8_mark_2 : decode cX8_mark 2 = .ok (.invokevirtual 191, 3) := by decide +kernel
theorem dX8_mark_5 : decode cX8_mark 5 = .ok (.ifCond .eq 15, 3) := by decide +kernel
theorem dX8_mark_8 : decode cX8_mark 8 = .ok (.iload_n 2, 1) := by decide +kernel
theorem dX8_mark_9 : decode cX8_mark 9 = .ok (.i2l, 1) := by decide +kernel
theorem dX8_mark_10 : decode cX8_mark 10 = .ok (.lconst 1, 1) := by decide +kernel
theorem dX8_mark_11 : decode cX8_mark 11 = .ok (.ldc2_w 72, 3) := by decide +kernel
theorem dX8_mark_14 : decode cX8_mark 14 = .ok (.invokestatic 74, 3) := by decide +kernel
theorem dX8_mark_17 : decode cX8_mark 17 = .ok (.ifCond .ne 5, 3) := by decide +kernel
theorem dX8_mark_20 : decode cX8_mark 20 = .ok (.iconst (-1), 1) := by decide +kernel
theorem dX8_mark_21 : decode cX8_mark 21 = .ok (.ireturn, 1) := by decide +kernel
theorem dX8_mark_22 : decode cX8_mark 22 = .ok (.aload_n 0, 1) := by decide +kernel
theorem dX8_mark_23 : decode cX8_mark 23 = .ok (.iload_n 1, 1) := by decide +kernel
theorem dX8_mark_24 : decode cX8_mark 24 = .ok (.iload_n 2, 1) := by decide +kernel
theorem dX8_mark_25 : decode cX8_mark 25 = .ok (.invokevirtual 199, 3) := by decide +kernel
theorem dX8_mark_28 : decode cX8_mark 28 = .ok (.ifCond .ne 9, 3) := by decide +kernel
theorem dX8_mark_31 : decode cX8_mark 31 = .ok (.aload_n 0, 1) := by decide +kernel
theorem dX8_mark_32 : decode cX8_mark 32 = .ok (.iconst 3, 1) := by decide +kernel
theorem dX8_mark_33 : decode cX8_mark 33 = .ok (.invokevirtual 84, 3) := by decide +kernel
theorem dX8_mark_36 : decode cX8_mark 36 = .ok (.ireturn, 1) := by decide +kernel
theorem dX8_mark_37 : decode cX8_mark 37 = .ok (.iload_n 2, 1) := by decide +kernel
theorem dX8_mark_38 : decode cX8_mark 38 = .ok (.tableswitch 71 1 4 #[30, 36, 52, 65], 30) := by decide +kernel
theorem dX8_mark_68 : decode cX8_mark 68 = .ok (.aload_n 0, 1) := by decide +kernel
theorem dX8_mark_69 : decode cX8_mark 69 = .ok (.iload_n 1, 1) := by decide +kernel
theorem dX8_mark_70 : decode cX8_mark 70 = .ok (.invokevirtual 202, 3) := by decide +kernel
theorem dX8_mark_73 : decode cX8_mark 73 = .ok (.ireturn, 1) := by decide +kernel
theorem dX8_mark_74 : decode cX8_mark 74 = .ok (.aload_n 0, 1) := by decide +kernel
theorem dX8_mark_75 : decode cX8_mark 75 = .ok (.getfield 22, 3) := by decide +kernel
theorem dX8_mark_78 : decode cX8_mark 78 = .ok (.iload_n 1, 1) := by decide +kernel
theorem dX8_mark_79 : decode cX8_mark 79 = .ok (.iaload, 1) := by decide +kernel
theorem dX8_mark_80 : decode cX8_mark 80 = .ok (.aload_n 0, 1) := by decide +kernel
theorem dX8_mark_81 : decode cX8_mark 81 = .ok (.getfield 22, 3) := by decide +kernel
theorem dX8_mark_84 : decode cX8_mark 84 = .ok (.iload_n 1, 1) := by decide +kernel
theorem dX8_mark_85 : decode cX8_mark 85 = .ok (.iaload, 1) := by decide +kernel
theorem dX8_mark_86 : decode cX8_mark 86 = .ok (.iconst 2, 1) := by decide +kernel
theorem dX8_mark_87 : decode cX8_mark 87 = .ok (.idiv, 1) := by decide +kernel
theorem dX8_mark_88 : decode cX8_mark 88 = .ok (.isub, 1) := by decide +kernel
theorem dX8_mark_89 : decode cX8_mark 89 = .ok (.ireturn, 1) := by decide +kernel
theorem dX8_mark_90 : decode cX8_mark 90 = .ok (.aload_n 0, 1) := by decide +kernel
theorem dX8_mark_91 : decode cX8_mark 91 = .ok (.getfield 7, 3) := by decide +kernel
theorem dX8_mark_94 : decode cX8_mark 94 = .ok (.iconst 1, 1) := by decide +kernel
theorem dX8_mark_95 : decode cX8_mark 95 = .ok (.iaload, 1) := by decide +kernel
theorem dX8_mark_96 : decode cX8_mark 96 = .ok (.bipush 10, 2) := by decide +kernel
theorem dX8_mark_98 : decode cX8_mark 98 = .ok (.isub, 1) := by decide +kernel
theorem dX8_mark_99 : decode cX8_mark 99 = .ok (.invokestatic 163, 3) := by decide +kernel
theorem dX8_mark_102 : decode cX8_mark 102 = .ok (.ireturn, 1) := by decide +kernel
theorem dX8_mark_103 : decode cX8_mark 103 = .ok (.aload_n 0, 1) := by decide +kernel
theorem dX8_mark_104 : decode cX8_mark 104 = .ok (.iload_n 1, 1) := by decide +kernel
theorem dX8_mark_105 : decode cX8_mark 105 = .ok (.invokevirtual 205, 3) := by decide +kernel
theorem dX8_mark_108 : decode cX8_mark 108 = .ok (.ireturn, 1) := by decide +kernel
theorem dX8_mark_109 : decode cX8_mark 109 = .ok (.aload_n 0, 1) := by decide +kernel
theorem dX8_mark_110 : decode cX8_mark 110 = .ok (.iload_n 1, 1) := by decide +kernel
theorem dX8_mark_111 : decode cX8_mark 111 = .ok (.aload_n 0, 1) := by decide +kernel
theorem dX8_mark_112 : decode cX8_mark 112 = .ok (.getfield 7, 3) := by decide +kernel
theorem dX8_mark_115 : decode cX8_mark 115 = .ok (.iconst 1, 1) := by decide +kernel
theorem dX8_mark_116 : decode cX8_mark 116 = .ok (.iaload, 1) := by decide +kernel
theorem dX8_mark_117 : decode cX8_mark 117 = .ok (.invokevirtual 166, 3) := by decide +kernel
theorem dX8_mark_120 : decode cX8_mark 120 = .ok (.aload_n 0, 1) := by decide +kernel
theorem dX8_mark_121 : decode cX8_mark 121 = .ok (.iload_n 1, 1) := by decide +kernel
theorem dX8_mark_122 : decode cX8_mark 122 = .ok (.aload_n 0, 1) := by decide +kernel
theorem dX8_mark_123 : decode cX8_mark 123 = .ok (.getfield 7, 3) := by decide +kernel
theorem dX8_mark_126 : decode cX8_mark 126 = .ok (.iconst 1, 1) := by decide +kernel
theorem dX8_mark_127 : decode cX8_mark 127 = .ok (.iaload, 1) := by decide +kernel
theorem dX8_mark_128 : decode cX8_mark 128 = .ok (.invokevirtual 166, 3) := by decide +kernel
theorem dX8_mark_131 : decode cX8_mark 131 = .ok (.iconst 2, 1) := by decide +kernel
theorem dX8_mark_132 : decode cX8_mark 132 = .ok (.idiv, 1) := by decide +kernel
theorem dX8_mark_133 : decode cX8_mark 133 = .ok (.isub, 1) := by decide +kernel
theorem dX8_mark_134 : decode cX8_mark 134 = .ok (.ireturn, 1) := by decide +kernel
theorem dX8_keepPast_0 : decode cX8_keepPast 0 = .ok (.iconst 0, 1) := by decide +kernel
theorem dX8_keepPast_1 : decode cX8_keepPast 1 = .ok (.istore_n 1, 1) := by decide +kernel
theorem dX8_keepPast_2 : decode cX8_keepPast 2 = .ok (.iload_n 1, 1) := by decide +kernel
theorem dX8_keepPast_3 : decode cX8_keepPast 3 = .ok (.bipush 16, 2) := by decide +kernel
theorem dX8_keepPast_5 : decode cX8_keepPast 5 = .ok (.if_icmp .ge 36, 3) := by decide +kernel
theorem dX8_keepPast_8 : decode cX8_keepPast 8 = .ok (.aload_n 0, 1) := by decide +kernel
theorem dX8_keepPast_9 : decode cX8_keepPast 9 = .ok (.getfield 7, 3) := by decide +kernel
theorem dX8_keepPast_12 : decode cX8_keepPast 12 = .ok (.bipush 17, 2) := by decide +kernel
theorem dX8_keepPast_14 : decode cX8_keepPast 14 = .ok (.bipush 16, 2) := by decide +kernel
theorem dX8_keepPast_16 : decode cX8_keepPast 16 = .ok (.aload_n 0, 1) := by decide +kernel
theorem dX8_keepPast_17 : decode cX8_keepPast 17 = .ok (.getfield 7, 3) := by decide +kernel
theorem dX8_keepPast_20 : decode cX8_keepPast 20 = .ok (.iconst 0, 1) := by decide +kernel
theorem dX8_keepPast_21 : decode cX8_keepPast 21 = .ok (.iaload, 1) := by decide +kernel
theorem dX8_keepPast_22 : decode cX8_keepPast 22 = .ok (.imul, 1) := by decide +kernel
theorem dX8_keepPast_23 : decode cX8_keepPast 23 = .ok (.iadd, 1) := by decide +kernel
theorem dX8_keepPast_24 : decode cX8_keepPast 24 = .ok (.iload_n 1, 1) := by decide +kernel
theorem dX8_keepPast_25 : decode cX8_keepPast 25 = .ok (.iadd, 1) := by decide +kernel
theorem dX8_keepPast_26 : decode cX8_keepPast 26 = .ok (.aload_n 0, 1) := by decide +kernel
theorem dX8_keepPast_27 : decode cX8_keepPast 27 = .ok (.getfield 7, 3) := by decide +kernel
theorem dX8_keepPast_30 : decode cX8_keepPast 30 = .ok (.iconst 1, 1) := by decide +kernel
theorem dX8_keepPast_31 : decode cX8_keepPast 31 = .ok (.iload_n 1, 1) := by decide +kernel
theorem dX8_keepPast_32 : decode cX8_keepPast 32 = .ok (.iadd, 1) := by decide +kernel
theorem dX8_keepPast_33 : decode cX8_keepPast 33 = .ok (.iaload, 1) := by decide +kernel
theorem dX8_keepPast_34 : decode cX8_keepPast 34 = .ok (.iastore, 1) := by decide +kernel
theorem dX8_keepPast_35 : decode cX8_keepPast 35 = .ok (.iinc 1 1, 3) := by decide +kernel
theorem dX8_keepPast_38 : decode cX8_keepPast 38 = .ok (.goto (-36), 3) := by decide +kernel
theorem dX8_keepPast_41 : decode cX8_keepPast 41 = .ok (.aload_n 0, 1) := by decide +kernel
theorem dX8_keepPast_42 : decode cX8_keepPast 42 = .ok (.getfield 7, 3) := by decide +kernel
theorem dX8_keepPast_45 : decode cX8_keepPast 45 = .ok (.iconst 0, 1) := by decide +kernel
theorem dX8_keepPast_46 : decode cX8_keepPast 46 = .ok (.dup2, 1) := by decide +kernel
theorem dX8_keepPast_47 : decode cX8_keepPast 47 = .ok (.iaload, 1) := by decide +kernel
theorem dX8_keepPast_48 : decode cX8_keepPast 48 = .ok (.iconst 1, 1) := by decide +kernel
theorem dX8_keepPast_49 : decode cX8_keepPast 49 = .ok (.iadd, 1) := by decide +kernel
theorem dX8_keepPast_50 : decode cX8_keepPast 50 = .ok (.iastore, 1) := by decide +kernel
theorem dX8_keepPast_51 : decode cX8_keepPast 51 = .ok (.return_, 1) := by decide +kernel
theorem dX8_heatOf_0 : decode cX8_heatOf 0 = .ok (.iload_n 0, 1) := by decide +kernel
theorem dX8_heatOf_1 : decode cX8_heatOf 1 = .ok (.ifCond .ge 7, 3) := by decide +kernel
theorem dX8_heatOf_4 : decode cX8_heatOf 4 = .ok (.iconst 0, 1) := by decide +kernel
theorem dX8_heatOf_5 : decode cX8_heatOf 5 = .ok (.goto 15, 3) := by decide +kernel
theorem dX8_heatOf_8 : decode cX8_heatOf 8 = .ok (.iload_n 0, 1) := by decide +kernel
theorem dX8_heatOf_9 : decode cX8_heatOf 9 = .ok (.bipush 30, 2) := by decide +kernel
theorem dX8_heatOf_11 : decode cX8_heatOf 11 = .ok (.if_icmp .le 8, 3) := by decide +kernel
theorem dX8_heatOf_14 : decode cX8_heatOf 14 = .ok (.bipush 30, 2) := by decide +kernel
theorem dX8_heatOf_16 : decode cX8_heatOf 16 = .ok (.goto 4, 3) := by decide +kernel
theorem dX8_heatOf_19 : decode cX8_heatOf 19 = .ok (.iload_n 0, 1) := by decide +kernel
theorem dX8_heatOf_20 : decode cX8_heatOf 20 = .ok (.ireturn, 1) := by decide +kernel
theorem dX8_heat_0 : decode cX8_heat 0 = .ok (.iload_n 1, 1) := by decide +kernel
theorem dX8_heat_1 : decode cX8_heat 1 = .ok (.i2l, 1) := by decide +kernel
theorem dX8_heat_2 : decode cX8_heat 2 = .ok (.ldc2_w 208, 3) := by decide +kernel
theorem dX8_heat_5 : decode cX8_heat 5 = .ok (.ldc2_w 72, 3) := by decide +kernel
theorem dX8_heat_8 : decode cX8_heat 8 = .ok (.invokestatic 74, 3) := by decide +kernel
theorem dX8_heat_11 : decode cX8_heat 11 = .ok (.ifCond .eq 7, 3) := by decide +kernel
theorem dX8_heat_14 : decode cX8_heat 14 = .ok (.iload_n 1, 1) := by decide +kernel
theorem dX8_heat_15 : decode cX8_heat 15 = .ok (.ifCond .ne 5, 3) := by decide +kernel
theorem dX8_heat_18 : decode cX8_heat 18 = .ok (.iconst (-1), 1) := by decide +kernel
theorem dX8_heat_19 : decode cX8_heat 19 = .ok (.ireturn, 1) := by decide +kernel
theorem dX8_heat_20 : decode cX8_heat 20 = .ok (.aload_n 0, 1) := by decide +kernel
theorem dX8_heat_21 : decode cX8_heat 21 = .ok (.getfield 157, 3) := by decide +kernel
theorem dX8_heat_24 : decode cX8_heat 24 = .ok (.ifCond .ne 6, 3) := by decide +kernel
theorem dX8_heat_27 : decode cX8_heat 27 = .ok (.bipush (-4), 2) := by decide +kernel
theorem dX8_heat_29 : decode cX8_heat 29 = .ok (.ireturn, 1) := by decide +kernel
theorem dX8_heat_30 : decode cX8_heat 30 = .ok (.aload_n 0, 1) := by decide +kernel
theorem dX8_heat_31 : decode cX8_heat 31 = .ok (.getfield 7, 3) := by decide +kernel
theorem dX8_heat_34 : decode cX8_heat 34 = .ok (.iconst 0, 1) := by decide +kernel
theorem dX8_heat_35 : decode cX8_heat 35 = .ok (.iaload, 1) := by decide +kernel
theorem dX8_heat_36 : decode cX8_heat 36 = .ok (.bipush 40, 2) := by decide +kernel
theorem dX8_heat_38 : decode cX8_heat 38 = .ok (.if_icmp .ne 6, 3) := by decide +kernel
theorem dX8_heat_41 : decode cX8_heat 41 = .ok (.bipush (-2), 2) := by decide +kernel
theorem dX8_heat_43 : decode cX8_heat 43 = .ok (.ireturn, 1) := by decide +kernel
theorem dX8_heat_44 : decode cX8_heat 44 = .ok (.aload_n 0, 1) := by decide +kernel
theorem dX8_heat_45 : decode cX8_heat 45 = .ok (.invokevirtual 210, 3) := by decide +kernel
theorem dX8_heat_48 : decode cX8_heat 48 = .ok (.aload_n 0, 1) := by decide +kernel
theorem dX8_heat_49 : decode cX8_heat 49 = .ok (.getfield 7, 3) := by decide +kernel
theorem dX8_heat_52 : decode cX8_heat 52 = .ok (.iconst 1, 1) := by decide +kernel
theorem dX8_heat_53 : decode cX8_heat 53 = .ok (.aload_n 0, 1) := by decide +kernel
theorem dX8_heat_54 : decode cX8_heat 54 = .ok (.getfield 7, 3) := by decide +kernel
theorem dX8_heat_57 : decode cX8_heat 57 = .ok (.iconst 1, 1) := by decide +kernel
theorem dX8_heat_58 : decode cX8_heat 58 = .ok (.iaload, 1) := by decide +kernel
theorem dX8_heat_59 : decode cX8_heat 59 = .ok (.iload_n 1, 1) := by decide +kernel
theorem dX8_heat_60 : decode cX8_heat 60 = .ok (.iadd, 1) := by decide +kernel
theorem dX8_heat_61 : decode cX8_heat 61 = .ok (.invokestatic 213, 3) := by decide +kernel
theorem dX8_heat_64 : decode cX8_heat 64 = .ok (.iastore, 1) := by decide +kernel
theorem dX8_heat_65 : decode cX8_heat 65 = .ok (.aload_n 0, 1) := by decide +kernel
theorem dX8_heat_66 : decode cX8_heat 66 = .ok (.getfield 7, 3) := by decide +kernel
theorem dX8_heat_69 : decode cX8_heat 69 = .ok (.iconst 1, 1) := by decide +kernel
theorem dX8_heat_70 : decode cX8_heat 70 = .ok (.iaload, 1) := by decide +kernel
theorem dX8_heat_71 : decode cX8_heat 71 = .ok (.ireturn, 1) := by decide +kernel
theorem dX8_isDone_0 : decode cX8_isDone 0 = .ok (.aload_n 0, 1) := by decide +kernel
theorem dX8_isDone_1 : decode cX8_isDone 1 = .ok (.getfield 7, 3) := by decide +kernel
theorem dX8_isDone_4 : decode cX8_isDone 4 = .ok (.iconst 2, 1) := by decide +kernel
theorem dX8_isDone_5 : decode cX8_isDone 5 = .ok (.iaload, 1) := by decide +kernel
theorem dX8_isDone_6 : decode cX8_isDone 6 = .ok (.iload_n 1, 1) := by decide +kernel
theorem dX8_isDone_7 : decode cX8_isDone 7 = .ok (.invokestatic 216, 3) := by decide +kernel
theorem dX8_isDone_10 : decode cX8_isDone 10 = .ok (.ireturn, 1) := by decide +kernel
theorem dX8_salve_0 : decode cX8_salve 0 = .ok (.aload_n 0, 1) := by decide +kernel
theorem dX8_salve_1 : decode cX8_salve 1 = .ok (.iload_n 1, 1) := by decide +kernel
theorem dX8_salve_2 : decode cX8_salve 2 = .ok (.invokevirtual 191, 3) := by decide +kernel
theorem dX8_salve_5 : decode cX8_salve 5 = .ok (.ifCond .ne 5, 3) := by decide +kernel
theorem dX8_salve_8 : decode cX8_salve 8 = .ok (.iconst (-1), 1) := by decide +kernel
theorem dX8_salve_9 : decode cX8_salve 9 = .ok (.ireturn, 1) := by decide +kernel
theorem dX8_salve_10 : decode cX8_salve 10 = .ok (.aload_n 0, 1) := by decide +kernel
theorem dX8_salve_11 : decode cX8_salve 11 = .ok (.getfield 7, 3) := by decide +kernel
theorem dX8_salve_14 : decode cX8_salve 14 = .ok (.iconst 5, 1) := by decide +kernel
theorem dX8_salve_15 : decode cX8_salve 15 = .ok (.iload_n 1, 1) := by decide +kernel
theorem dX8_salve_16 : decode cX8_salve 16 = .ok (.iadd, 1) := by decide +kernel
theorem dX8_salve_17 : decode cX8_salve 17 = .ok (.iaload, 1) := by decide +kernel
theorem dX8_salve_18 : decode cX8_salve 18 = .ok (.iconst 3, 1) := by decide +kernel
theorem dX8_salve_19 : decode cX8_salve 19 = .ok (.if_icmp .eq 11, 3) := by decide +kernel
theorem dX8_salve_22 : decode cX8_salve 22 = .ok (.aload_n 0, 1) := by decide +kernel
theorem dX8_salve_23 : decode cX8_salve 23 = .ok (.iload_n 1, 1) := by decide +kernel
theorem dX8_salve_24 : decode cX8_salve 24 = .ok (.invokevirtual 219, 3) := by decide +kernel
theorem dX8_salve_27 : decode cX8_salve 27 = .ok (.ifCond .eq 6, 3) := by decide +kernel
theorem dX8_salve_30 : decode cX8_salve 30 = .ok (.bipush (-4), 2) := by decide +kernel
theorem dX8_salve_32 : decode cX8_salve 32 = .ok (.ireturn, 1) := by decide +kernel
theorem dX8_salve_33 : decode cX8_salve 33 = .ok (.aload_n 0, 1) := by decide +kernel
theorem dX8_salve_34 : decode cX8_salve 34 = .ok (.getfield 7, 3) := by decide +kernel
theorem dX8_salve_37 : decode cX8_salve 37 = .ok (.iconst 0, 1) := by decide +kernel
theorem dX8_salve_38 : decode cX8_salve 38 = .ok (.iaload, 1) := by decide +kernel
theorem dX8_salve_39 : decode cX8_salve 39 = .ok (.bipush 40, 2) := by decide +kernel
theorem dX8_salve_41 : decode cX8_salve 41 = .ok (.if_icmp .ne 6, 3) := by decide +kernel
theorem dX8_salve_44 : decode cX8_salve 44 = .ok (.bipush (-2), 2) := by decide +kernel
theorem dX8_salve_46 : decode cX8_salve 46 = .ok (.ireturn, 1) := by decide +kernel
theorem dX8_salve_47 : decode cX8_salve 47 = .ok (.aload_n 0, 1) := by decide +kernel
theorem dX8_salve_48 : decode cX8_salve 48 = .ok (.invokevirtual 210, 3) := by decide +kernel
theorem dX8_salve_51 : decode cX8_salve 51 = .ok (.aload_n 0, 1) := by decide +kernel
theorem dX8_salve_52 : decode cX8_salve 52 = .ok (.getfield 7, 3) := by decide +kernel
theorem dX8_salve_55 : decode cX8_salve 55 = .ok (.iconst 5, 1) := by decide +kernel
theorem dX8_salve_56 : decode cX8_salve 56 = .ok (.iload_n 1, 1) := by decide +kernel
theorem dX8_salve_57 : decode cX8_salve 57 = .ok (.iadd, 1) := by decide +kernel
theorem dX8_salve_58 : decode cX8_salve 58 = .ok (.dup2, 1) := by decide +kernel
theorem dX8_salve_59 : decode cX8_salve 59 = .ok (.iaload, 1) := by decide +kernel
theorem dX8_salve_60 : decode cX8_salve 60 = .ok (.iconst 1, 1) := by decide +kernel
theorem dX8_salve_61 : decode cX8_salve 61 = .ok (.iadd, 1) := by decide +kernel
theorem dX8_salve_62 : decode cX8_salve 62 = .ok (.iastore, 1) := by decide +kernel
theorem dX8_salve_63 : decode cX8_salve 63 = .ok (.aload_n 0, 1) := by decide +kernel
theorem dX8_salve_64 : decode cX8_salve 64 = .ok (.getfield 7, 3) := by decide +kernel
theorem dX8_salve_67 : decode cX8_salve 67 = .ok (.iconst 5, 1) := by decide +kernel
theorem dX8_salve_68 : decode cX8_salve 68 = .ok (.iload_n 1, 1) := by decide +kernel
theorem dX8_salve_69 : decode cX8_salve 69 = .ok (.iadd, 1) := by decide +kernel
theorem dX8_salve_70 : decode cX8_salve 70 = .ok (.iaload, 1) := by decide +kernel
theorem dX8_salve_71 : decode cX8_salve 71 = .ok (.ireturn, 1) := by decide +kernel
theorem dX8_tryAt_0 : decode cX8_tryAt 0 = .ok (.aload_n 0, 1) := by decide +kernel
theorem dX8_tryAt_1 : decode cX8_tryAt 1 = .ok (.iload_n 1, 1) := by decide +kernel
theorem dX8_tryAt_2 : decode cX8_tryAt 2 = .ok (.iload_n 2, 1) := by decide +kernel
theorem dX8_tryAt_3 : decode cX8_tryAt 3 = .ok (.aload_n 0, 1) := by decide +kernel
theorem dX8_tryAt_4 : decode cX8_tryAt 4 = .ok (.getfield 7, 3) := by decide +kernel
theorem dX8_tryAt_7 : decode cX8_tryAt 7 = .ok (.iload_n 1, 1) := by decide +kernel
theorem dX8_tryAt_8 : decode cX8_tryAt 8 = .ok (.iconst 1, 1) := by decide +kernel
theorem dX8_tryAt_9 : decode cX8_tryAt 9 = .ok (.iadd, 1) := by decide +kernel
theorem dX8_tryAt_10 : decode cX8_tryAt 10 = .ok (.iaload, 1) := by decide +kernel
theorem dX8_tryAt_11 : decode cX8_tryAt 11 = .ok (.invokevirtual 222, 3) := by decide +kernel
theorem dX8_tryAt_14 : decode cX8_tryAt 14 = .ok (.istore_n 3, 1) := by decide +kernel
theorem dX8_tryAt_15 : decode cX8_tryAt 15 = .ok (.aload_n 0, 1) := by decide +kernel
theorem dX8_tryAt_16 : decode cX8_tryAt 16 = .ok (.getfield 7, 3) := by decide +kernel
theorem dX8_tryAt_19 : decode cX8_tryAt 19 = .ok (.iload_n 1, 1) := by decide +kernel
theorem dX8_tryAt_20 : decode cX8_tryAt 20 = .ok (.iconst 2, 1) := by decide +kernel
theorem dX8_tryAt_21 : decode cX8_tryAt 21 = .ok (.iadd, 1) := by decide +kernel
theorem dX8_tryAt_22 : decode cX8_tryAt 22 = .ok (.dup2, 1) := by decide +kernel
theorem dX8_tryAt_23 : decode cX8_tryAt 23 = .ok (.iaload, 1) := by decide +kernel
theorem dX8_tryAt_24 : decode cX8_tryAt 24 = .ok (.iconst 1, 1) := by decide +kernel
theorem dX8_tryAt_25 : decode cX8_tryAt 25 = .ok (.iload_n 2, 1) := by decide +kernel
theorem dX8_tryAt_26 : decode cX8_tryAt 26 = .ok (.ishl, 1) := by decide +kernel
theorem dX8_tryAt_27 : decode cX8_tryAt 27 = .ok (.ior, 1) := by decide +kernel
theorem dX8_tryAt_28 : decode cX8_tryAt 28 = .ok (.iastore, 1) := by decide +kernel
theorem dX8_tryAt_29 : decode cX8_tryAt 29 = .ok (.aload_n 0, 1) := by decide +kernel
theorem dX8_tryAt_30 : decode cX8_tryAt 30 = .ok (.getfield 7, 3) := by decide +kernel
theorem dX8_tryAt_33 : decode cX8_tryAt 33 = .ok (.iload_n 1, 1) := by decide +kernel
theorem dX8_tryAt_34 : decode cX8_tryAt 34 = .ok (.bipush 11, 2) := by decide +kernel
theorem dX8_tryAt_36 : decode cX8_tryAt 36 = .ok (.iadd, 1) := by decide +kernel
theorem dX8_tryAt_37 : decode cX8_tryAt 37 = .ok (.iload_n 2, 1) := by decide +kernel
theorem dX8_tryAt_38 : decode cX8_tryAt 38 = .ok (.iadd, 1) := by decide +kernel
theorem dX8_tryAt_39 : decode cX8_tryAt 39 = .ok (.iload_n 3, 1) := by decide +kernel
theorem dX8_tryAt_40 : decode cX8_tryAt 40 = .ok (.iastore, 1) := by decide +kernel
theorem dX8_tryAt_41 : decode cX8_tryAt 41 = .ok (.aload_n 0, 1) := by decide +kernel
theorem dX8_tryAt_42 : decode cX8_tryAt 42 = .ok (.getfield 7, 3) := by decide +kernel
theorem dX8_tryAt_45 : decode cX8_tryAt 45 = .ok (.iload_n 1, 1) := by decide +kernel
theorem dX8_tryAt_46 : decode cX8_tryAt 46 = .ok (.iconst 4, 1) := by decide +kernel
theorem dX8_tryAt_47 : decode cX8_tryAt 47 = .ok (.iadd, 1) := by decide +kernel
theorem dX8_tryAt_48 : decode cX8_tryAt 48 = .ok (.dup2, 1) := by decide +kernel
theorem dX8_tryAt_49 : decode cX8_tryAt 49 = .ok (.iaload, 1) := by decide +kernel
theorem dX8_tryAt_50 : decode cX8_tryAt 50 = .ok (.aload_n 0, 1) := by decide +kernel
theorem dX8_tryAt_51 : decode cX8_tryAt 51 = .ok (.iload_n 2, 1) := by decide +kernel
theorem dX8_tryAt_52 : decode cX8_tryAt 52 = .ok (.iload_n 3, 1) := by decide +kernel
theorem dX8_tryAt_53 : decode cX8_tryAt 53 = .ok (.invokevirtual 226, 3) := by decide +kernel
theorem dX8_tryAt_56 : decode cX8_tryAt 56 = .ok (.ifCond .eq 7, 3) := by decide +kernel
theorem dX8_tryAt_59 : decode cX8_tryAt 59 = .ok (.iconst 1, 1) := by decide +kernel
theorem dX8_tryAt_60 : decode cX8_tryAt 60 = .ok (.goto 4, 3) := by decide +kernel
theorem dX8_tryAt_63 : decode cX8_tryAt 63 = .ok (.iconst 0, 1) := by decide +kernel
theorem dX8_tryAt_64 : decode cX8_tryAt 64 = .ok (.iadd, 1) := by decide +kernel
theorem dX8_tryAt_65 : decode cX8_tryAt 65 = .ok (.iastore, 1) := by decide +kernel
theorem dX8_tryAt_66 : decode cX8_tryAt 66 = .ok (.iload_n 3, 1) := by decide +kernel
theorem dX8_tryAt_67 : decode cX8_tryAt 67 = .ok (.iconst 1, 1) := by decide +kernel
theorem dX8_tryAt_68 : decode cX8_tryAt 68 = .ok (.if_icmp .ne 55, 3) := by decide +kernel
theorem dX8_tryAt_71 : decode cX8_tryAt 71 = .ok (.aload_n 0, 1) := by decide +kernel
theorem dX8_tryAt_72 : decode cX8_tryAt 72 = .ok (.getfield 7, 3) := by decide +kernel
theorem dX8_tryAt_75 : decode cX8_tryAt 75 = .ok (.iload_n 1, 1) := by decide +kernel
theorem dX8_tryAt_76 : decode cX8_tryAt 76 = .ok (.iconst 3, 1) := by decide +kernel
theorem dX8_tryAt_77 : decode cX8_tryAt 77 = .ok (.iadd, 1) := by decide +kernel
theorem dX8_tryAt_78 : decode cX8_tryAt 78 = .ok (.dup2, 1) := by decide +kernel
theorem dX8_tryAt_79 : decode cX8_tryAt 79 = .ok (.iaload, 1) := by decide +kernel
theorem dX8_tryAt_80 : decode cX8_tryAt 80 = .ok (.iconst 1, 1) := by decide +kernel
theorem dX8_tryAt_81 : decode cX8_tryAt 81 = .ok (.iadd, 1) := by decide +kernel
theorem dX8_tryAt_82 : decode cX8_tryAt 82 = .ok (.iastore, 1) := by decide +kernel
theorem dX8_tryAt_83 : decode cX8_tryAt 83 = .ok (.aload_n 0, 1) := by decide +kernel
theorem dX8_tryAt_84 : decode cX8_tryAt 84 = .ok (.getfield 7, 3) := by decide +kernel
theorem dX8_tryAt_87 : decode cX8_tryAt 87 = .ok (.iload_n 1, 1) := by decide +kernel
theorem dX8_tryAt_88 : decode cX8_tryAt 88 = .ok (.iconst 1, 1) := by decide +kernel
theorem dX8_tryAt_89 : decode cX8_tryAt 89 = .ok (.iadd, 1) := by decide +kernel
theorem dX8_tryAt_90 : decode cX8_tryAt 90 = .ok (.aload_n 0, 1) := by decide +kernel
theorem dX8_tryAt_91 : decode cX8_tryAt 91 = .ok (.getfield 7, 3) := by decide +kernel
theorem dX8_tryAt_94 : decode cX8_tryAt 94 = .ok (.iload_n 1, 1) := by decide +kernel
theorem dX8_tryAt_95 : decode cX8_tryAt 95 = .ok (.iconst 1, 1) := by decide +kernel
theorem dX8_tryAt_96 : decode cX8_tryAt 96 = .ok (.iadd, 1) := by decide +kernel
theorem dX8_tryAt_97 : decode cX8_tryAt 97 = .ok (.iaload, 1) := by decide +kernel
theorem dX8_tryAt_98 : decode cX8_tryAt 98 = .ok (.aload_n 0, 1) := by decide +kernel
theorem dX8_tryAt_99 : decode cX8_tryAt 99 = .ok (.getfield 7, 3) := by decide +kernel
theorem dX8_tryAt_102 : decode cX8_tryAt 102 = .ok (.iload_n 1, 1) := by decide +kernel
theorem dX8_tryAt_103 : decode cX8_tryAt 103 = .ok (.iconst 3, 1) := by decide +kernel
theorem dX8_tryAt_104 : decode cX8_tryAt 104 = .ok (.iadd, 1) := by decide +kernel
theorem dX8_tryAt_105 : decode cX8_tryAt 105 = .ok (.iaload, 1) := by decide +kernel
theorem dX8_tryAt_106 : decode cX8_tryAt 106 = .ok (.aload_n 0, 1) := by decide +kernel
theorem dX8_tryAt_107 : decode cX8_tryAt 107 = .ok (.getfield 154, 3) := by decide +kernel
theorem dX8_tryAt_110 : decode cX8_tryAt 110 = .ok (.if_icmp .lt 7, 3) := by decide +kernel
theorem dX8_tryAt_113 : decode cX8_tryAt 113 = .ok (.iconst 5, 1) := by decide +kernel
theorem dX8_tryAt_114 : decode cX8_tryAt 114 = .ok (.goto 4, 3) := by decide +kernel
theorem dX8_tryAt_117 : decode cX8_tryAt 117 = .ok (.iconst 0, 1) := by decide +kernel
theorem dX8_tryAt_118 : decode cX8_tryAt 118 = .ok (.iadd, 1) := by decide +kernel
theorem dX8_tryAt_119 : decode cX8_tryAt 119 = .ok (.invokestatic 213, 3) := by decide +kernel
theorem dX8_tryAt_122 : decode cX8_tryAt 122 = .ok (.iastore, 1) := by decide +kernel
theorem dX8_tryAt_123 : decode cX8_tryAt 123 = .ok (.iload_n 3, 1) := by decide +kernel
theorem dX8_tryAt_124 : decode cX8_tryAt 124 = .ok (.ireturn, 1) := by decide +kernel
theorem dX8_trial_0 : decode cX8_trial 0 = .ok (.aload_n 0, 1) := by decide +kernel
theorem dX8_trial_1 : decode cX8_trial 1 = .ok (.iload_n 1, 1) := by decide +kernel
theorem dX8_trial_2 : decode cX8_trial 2 = .ok (.invokevirtual 191, 3) := by decide +kernel
theorem dX8_trial_5 : decode cX8_trial 5 = .ok (.ifCond .ne 5, 3) := by decide +kernel
theorem dX8_trial_8 : decode cX8_trial 8 = .ok (.iconst (-1), 1) := by decide +kernel
theorem dX8_trial_9 : decode cX8_trial 9 = .ok (.ireturn, 1) := by decide +kernel
theorem dX8_trial_10 : decode cX8_trial 10 = .ok (.aload_n 0, 1) := by decide +kernel
theorem dX8_trial_11 : decode cX8_trial 11 = .ok (.iload_n 1, 1) := by decide +kernel
theorem dX8_trial_12 : decode cX8_trial 12 = .ok (.invokevirtual 219, 3) := by decide +kernel
theorem dX8_trial_15 : decode cX8_trial 15 = .ok (.ifCond .eq 6, 3) := by decide +kernel
theorem dX8_trial_18 : decode cX8_trial 18 = .ok (.bipush (-4), 2) := by decide +kernel
theorem dX8_trial_20 : decode cX8_trial 20 = .ok (.ireturn, 1) := by decide +kernel
theorem dX8_trial_21 : decode cX8_trial 21 = .ok (.aload_n 0, 1) := by decide +kernel
theorem dX8_trial_22 : decode cX8_trial 22 = .ok (.getfield 7, 3) := by decide +kernel
theorem dX8_trial_25 : decode cX8_trial 25 = .ok (.iconst 0, 1) := by decide +kernel
theorem dX8_trial_26 : decode cX8_trial 26 = .ok (.iaload, 1) := by decide +kernel
theorem dX8_trial_27 : decode cX8_trial 27 = .ok (.bipush 40, 2) := by decide +kernel
theorem dX8_trial_29 : decode cX8_trial 29 = .ok (.if_icmp .ne 6, 3) := by decide +kernel
theorem dX8_trial_32 : decode cX8_trial 32 = .ok (.bipush (-2), 2) := by decide +kernel
theorem dX8_trial_34 : decode cX8_trial 34 = .ok (.ireturn, 1) := by decide +kernel
theorem dX8_trial_35 : decode cX8_trial 35 = .ok (.aload_n 0, 1) := by decide +kernel
theorem dX8_trial_36 : decode cX8_trial 36 = .ok (.invokevirtual 210, 3) := by decide +kernel
theorem dX8_trial_39 : decode cX8_trial 39 = .ok (.aload_n 0, 1) := by decide +kernel
theorem dX8_trial_40 : decode cX8_trial 40 = .ok (.iconst 0, 1) := by decide +kernel
theorem dX8_trial_41 : decode cX8_trial 41 = .ok (.iload_n 1, 1) := by decide +kernel
theorem dX8_trial_42 : decode cX8_trial 42 = .ok (.invokevirtual 229, 3) := by decide +kernel
theorem dX8_trial_45 : decode cX8_trial 45 = .ok (.istore_n 2, 1) := by decide +kernel
theorem dX8_trial_46 : decode cX8_trial 46 = .ok (.aload_n 0, 1) := by decide +kernel
theorem dX8_trial_47 : decode cX8_trial 47 = .ok (.aload_n 0, 1) := by decide +kernel
theorem dX8_trial_48 : decode cX8_trial 48 = .ok (.iload_n 1, 1) := by decide +kernel
theorem dX8_trial_49 : decode cX8_trial 49 = .ok (.iload_n 2, 1) := by decide +kernel
theorem dX8_trial_50 : decode cX8_trial 50 = .ok (.invokevirtual 226, 3) := by decide +kernel
theorem dX8_trial_53 : decode cX8_trial 53 = .ok (.ifCond .eq 7, 3) := by decide +kernel
theorem dX8_trial_56 : decode cX8_trial 56 = .ok (.iconst 1, 1) := by decide +kernel
theorem dX8_trial_57 : decode cX8_trial 57 = .ok (.goto 4, 3) := by decide +kernel
theorem dX8_trial_60 : decode cX8_trial 60 = .ok (.iconst 0, 1) := by decide +kernel
theorem dX8_trial_61 : decode cX8_trial 61 = .ok (.putfield 69, 3) := by decide +kernel
theorem dX8_trial_64 : decode cX8_trial 64 = .ok (.iload_n 2, 1) := by decide +kernel
theorem dX8_trial_65 : decode cX8_trial 65 = .ok (.ireturn, 1) := by decide +kernel
theorem dX8_undo_0 : decode cX8_undo 0 = .ok (.iload_n 1, 1) := by decide +kernel
theorem dX8_undo_1 : decode cX8_undo 1 = .ok (.i2l, 1) := by decide +kernel
theorem dX8_undo_2 : decode cX8_undo 2 = .ok (.lconst 0, 1) := by decide +kernel
theorem dX8_undo_3 : decode cX8_undo 3 = .ok (.aload_n 0, 1) := by decide +kernel
theorem dX8_undo_4 : decode cX8_undo 4 = .ok (.getfield 7, 3) := by decide +kernel
theorem dX8_undo_7 : decode cX8_undo 7 = .ok (.iconst 0, 1) := by decide +kernel
theorem dX8_undo_8 : decode cX8_undo 8 = .ok (.iaload, 1) := by decide +kernel
theorem dX8_undo_9 : decode cX8_undo 9 = .ok (.i2l, 1) := by decide +kernel
theorem dX8_undo_10 : decode cX8_undo 10 = .ok (.invokestatic 74, 3) := by decide +kernel
theorem dX8_undo_13 : decode cX8_undo 13 = .ok (.ifCond .ne 5, 3) := by decide +kernel
theorem dX8_undo_16 : decode cX8_undo 16 = .ok (.iconst (-1), 1) := by decide +kernel
theorem dX8_undo_17 : decode cX8_undo 17 = .ok (.ireturn, 1) := by decide +kernel
theorem dX8_undo_18 : decode cX8_undo 18 = .ok (.aload_n 0, 1) := by decide +kernel
theorem dX8_undo_19 : decode cX8_undo 19 = .ok (.getfield 7, 3) := by decide +kernel
theorem dX8_undo_22 : decode cX8_undo 22 = .ok (.iconst 0, 1) := by decide +kernel
theorem dX8_undo_23 : decode cX8_undo 23 = .ok (.iaload, 1) := by decide +kernel
theorem dX8_undo_24 : decode cX8_undo 24 = .ok (.iload_n 1, 1) := by decide +kernel
theorem dX8_undo_25 : decode cX8_undo 25 = .ok (.isub, 1) := by decide +kernel
theorem dX8_undo_26 : decode cX8_undo 26 = .ok (.istore_n 2, 1) := by decide +kernel
theorem dX8_undo_27 : decode cX8_undo 27 = .ok (.iconst 0, 1) := by decide +kernel
theorem dX8_undo_28 : decode cX8_undo 28 = .ok (.istore_n 3, 1) := by decide +kernel
theorem dX8_undo_29 : decode cX8_undo 29 = .ok (.iload_n 3, 1) := by decide +kernel
theorem dX8_undo_30 : decode cX8_undo 30 = .ok (.bipush 16, 2) := by decide +kernel
theorem dX8_undo_32 : decode cX8_undo 32 = .ok (.if_icmp .ge 35, 3) := by decide +kernel
theorem dX8_undo_35 : decode cX8_undo 35 = .ok (.iload_n 2, 1) := by decide +kernel
theorem dX8_undo_36 : decode cX8_undo 36 = .ok (.ifCond .le 31, 3) := by decide +kernel
theorem dX8_undo_39 : decode cX8_undo 39 = .ok (.aload_n 0, 1) := by decide +kernel
theorem dX8_undo_40 : decode cX8_undo 40 = .ok (.getfield 7, 3) := by decide +kernel
theorem dX8_undo_43 : decode cX8_undo 43 = .ok (.iconst 1, 1) := by decide +kernel
theorem dX8_undo_44 : decode cX8_undo 44 = .ok (.iload_n 3, 1) := by decide +kernel
theorem dX8_undo_45 : decode cX8_undo 45 = .ok (.iadd, 1) := by decide +kernel
theorem dX8_undo_46 : decode cX8_undo 46 = .ok (.aload_n 0, 1) := by decide +kernel
theorem dX8_undo_47 : decode cX8_undo 47 = .ok (.getfield 7, 3) := by decide +kernel
theorem dX8_undo_50 : decode cX8_undo 50 = .ok (.bipush 17, 2) := by decide +kernel
theorem dX8_undo_52 : decode cX8_undo 52 = .ok (.bipush 16, 2) := by decide +kernel
theorem dX8_undo_54 : decode cX8_undo 54 = .ok (.iload_n 1, 1) := by decide +kernel
theorem dX8_undo_55 : decode cX8_undo 55 = .ok (.imul, 1) := by decide +kernel
theorem dX8_undo_56 : decode cX8_undo 56 = .ok (.iadd, 1) := by decide +kernel
theorem dX8_undo_57 : decode cX8_undo 57 = .ok (.iload_n 3, 1) := by decide +kernel
theorem dX8_undo_58 : decode cX8_undo 58 = .ok (.iadd, 1) := by decide +kernel
theorem dX8_undo_59 : decode cX8_undo 59 = .ok (.iaload, 1) := by decide +kernel
theorem dX8_undo_60 : decode cX8_undo 60 = .ok (.iastore, 1) := by decide +kernel
theorem dX8_undo_61 : decode cX8_undo 61 = .ok (.iinc 3 1, 3) := by decide +kernel
theorem dX8_undo_64 : decode cX8_undo 64 = .ok (.goto (-35), 3) := by decide +kernel
theorem dX8_undo_67 : decode cX8_undo 67 = .ok (.aload_n 0, 1) := by decide +kernel
theorem dX8_undo_68 : decode cX8_undo 68 = .ok (.getfield 7, 3) := by decide +kernel
theorem dX8_undo_71 : decode cX8_undo 71 = .ok (.iconst 0, 1) := by decide +kernel
theorem dX8_undo_72 : decode cX8_undo 72 = .ok (.iload_n 1, 1) := by decide +kernel
theorem dX8_undo_73 : decode cX8_undo 73 = .ok (.iastore, 1) := by decide +kernel
theorem dX8_undo_74 : decode cX8_undo 74 = .ok (.iload_n 2, 1) := by decide +kernel
theorem dX8_undo_75 : decode cX8_undo 75 = .ok (.ireturn, 1) := by decide +kernel
theorem dX8_copyCourt_0 : decode cX8_copyCourt 0 = .ok (.iconst 0, 1) := by decide +kernel
theorem dX8_copyCourt_1 : decode cX8_copyCourt 1 = .ok (.istore_n 3, 1) := by decide +kernel
theorem dX8_copyCourt_2 : decode cX8_copyCourt 2 = .ok (.iload_n 3, 1) := by decide +kernel
theorem dX8_copyCourt_3 : decode cX8_copyCourt 3 = .ok (.sipush 657, 3) := by decide +kernel
theorem dX8_copyCourt_6 : decode cX8_copyCourt 6 = .ok (.if_icmp .ge 25, 3) := by decide +kernel
theorem dX8_copyCourt_9 : decode cX8_copyCourt 9 = .ok (.aload_n 0, 1) := by decide +kernel
theorem dX8_copyCourt_10 : decode cX8_copyCourt 10 = .ok (.getfield 7, 3) := by decide +kernel
theorem dX8_copyCourt_13 : decode cX8_copyCourt 13 = .ok (.iload_n 2, 1) := by decide +kernel
theorem dX8_copyCourt_14 : decode cX8_copyCourt 14 = .ok (.iload_n 3, 1) := by decide +kernel
theorem dX8_copyCourt_15 : decode cX8_copyCourt 15 = .ok (.iadd, 1) := by decide +kernel
theorem dX8_copyCourt_16 : decode cX8_copyCourt 16 = .ok (.aload_n 0, 1) := by decide +kernel
theorem dX8_copyCourt_17 : decode cX8_copyCourt 17 = .ok (.getfield 7, 3) := by decide +kernel
theorem dX8_copyCourt_20 : decode cX8_copyCourt 20 = .ok (.iload_n 1, 1) := by decide +kernel
theorem dX8_copyCourt_21 : decode cX8_copyCourt 21 = .ok (.iload_n 3, 1) := by decide +kernel
theorem dX8_copyCourt_22 : decode cX8_copyCourt 22 = .ok (.iadd, 1) := by decide +kernel
theorem dX8_copyCourt_23 : decode cX8_copyCourt 23 = .ok (.iaload, 1) := by decide +kernel
theorem dX8_copyCourt_24 : decode cX8_copyCourt 24 = .ok (.iastore, 1) := by decide +kernel
theorem dX8_copyCourt_25 : decode cX8_copyCourt 25 = .ok (.iinc 3 1, 3) := by decide +kernel
theorem dX8_copyCourt_28 : decode cX8_copyCourt 28 = .ok (.goto (-26), 3) := by decide +kernel
theorem dX8_copyCourt_31 : decode cX8_copyCourt 31 = .ok (.return_, 1) := by decide +kernel
theorem dX8_keep_0 : decode cX8_keep 0 = .ok (.iload_n 1, 1) := by decide +kernel
theorem dX8_keep_1 : decode cX8_keep 1 = .ok (.i2l, 1) := by decide +kernel
theorem dX8_keep_2 : decode cX8_keep 2 = .ok (.lconst 0, 1) := by decide +kernel
theorem dX8_keep_3 : decode cX8_keep 3 = .ok (.ldc2_w 232, 3) := by decide +kernel
theorem dX8_keep_6 : decode cX8_keep 6 = .ok (.invokestatic 74, 3) := by decide +kernel
theorem dX8_keep_9 : decode cX8_keep 9 = .ok (.ifCond .ne 5, 3) := by decide +kernel
theorem dX8_keep_12 : decode cX8_keep 12 = .ok (.iconst (-1), 1) := by decide +kernel
theorem dX8_keep_13 : decode cX8_keep 13 = .ok (.ireturn, 1) := by decide +kernel
theorem dX8_keep_14 : decode cX8_keep 14 = .ok (.aload_n 0, 1) := by decide +kernel
theorem dX8_keep_15 : decode cX8_keep 15 = .ok (.getfield 157, 3) := by decide +kernel
theorem dX8_keep_18 : decode cX8_keep 18 = .ok (.ifCond .ne 6, 3) := by decide +kernel
theorem dX8_keep_21 : decode cX8_keep 21 = .ok (.bipush (-4), 2) := by decide +kernel
theorem dX8_keep_23 : decode cX8_keep 23 = .ok (.ireturn, 1) := by decide +kernel
theorem dX8_keep_24 : decode cX8_keep 24 = .ok (.aload_n 0, 1) := by decide +kernel
theorem dX8_keep_25 : decode cX8_keep 25 = .ok (.iconst 0, 1) := by decide +kernel
theorem dX8_keep_26 : decode cX8_keep 26 = .ok (.sipush 657, 3) := by decide +kernel
theorem dX8_keep_29 : decode cX8_keep 29 = .ok (.iconst 1, 1) := by decide +kernel
theorem dX8_keep_30 : decode cX8_keep 30 = .ok (.iload_n 1, 1) := by decide +kernel
theorem dX8_keep_31 : decode cX8_keep 31 = .ok (.iadd, 1) := by decide +kernel
theorem dX8_keep_32 : decode cX8_keep 32 = .ok (.imul, 1) := by decide +kernel
theorem dX8_keep_33 : decode cX8_keep 33 = .ok (.invokevirtual 234, 3) := by decide +kernel
theorem dX8_keep_36 : decode cX8_keep 36 = .ok (.aload_n 0, 1) := by decide +kernel
theorem dX8_keep_37 : decode cX8_keep 37 = .ok (.getfield 7, 3) := by decide +kernel
theorem dX8_keep_40 : decode cX8_keep 40 = .ok (.iconst 0, 1) := by decide +kernel
theorem dX8_keep_41 : decode cX8_keep 41 = .ok (.iaload, 1) := by decide +kernel
theorem dX8_keep_42 : decode cX8_keep 42 = .ok (.ireturn, 1) := by decide +kernel
theorem dX8_on_0 : decode cX8_on 0 = .ok (.iload_n 1, 1) := by decide +kernel
theorem dX8_on_1 : decode cX8_on 1 = .ok (.i2l, 1) := by decide +kernel
theorem dX8_on_2 : decode cX8_on 2 = .ok (.lconst 0, 1) := by decide +kernel
theorem dX8_on_3 : decode cX8_on 3 = .ok (.ldc2_w 232, 3) := by decide +kernel
theorem dX8_on_6 : decode cX8_on 6 = .ok (.invokestatic 74, 3) := by decide +kernel
theorem dX8_on_9 : decode cX8_on 9 = .ok (.ifCond .ne 5, 3) := by decide +kernel
theorem dX8_on_12 : decode cX8_on 12 = .ok (.iconst (-1), 1) := by decide +kernel
theorem dX8_on_13 : decode cX8_on 13 = .ok (.ireturn, 1) := by decide +kernel
theorem dX8_on_14 : decode cX8_on 14 = .ok (.aload_n 0, 1) := by decide +kernel
theorem dX8_on_15 : decode cX8_on 15 = .ok (.getfield 7, 3) := by decide +kernel
theorem dX8_on_18 : decode cX8_on 18 = .ok (.sipush 657, 3) := by decide +kernel
theorem dX8_on_21 : decode cX8_on 21 = .ok (.iconst 1, 1) := by decide +kernel
theorem dX8_on_22 : decode cX8_on 22 = .ok (.iload_n 1, 1) := by decide +kernel
theorem dX8_on_23 : decode cX8_on 23 = .ok (.iadd, 1) := by decide +kernel
theorem dX8_on_24 : decode cX8_on 24 = .ok (.imul, 1) := by decide +kernel
theorem dX8_on_25 : decode cX8_on 25 = .ok (.iconst 0, 1) := by decide +kernel
theorem dX8_on_26 : decode cX8_on 26 = .ok (.iadd, 1) := by decide +kernel
theorem dX8_on_27 : decode cX8_on 27 = .ok (.iaload, 1) := by decide +kernel
theorem dX8_on_28 : decode cX8_on 28 = .ok (.ifCond .ge 9, 3) := by decide +kernel
theorem dX8_on_31 : decode cX8_on 31 = .ok (.aload_n 0, 1) := by decide +kernel
theorem dX8_on_32 : decode cX8_on 32 = .ok (.iconst 1, 1) := by decide +kernel
theorem dX8_on_33 : decode cX8_on 33 = .ok (.invokevirtual 84, 3) := by decide +kernel
theorem dX8_on_36 : decode cX8_on 36 = .ok (.ireturn, 1) := by decide +kernel
theorem dX8_on_37 : decode cX8_on 37 = .ok (.aload_n 0, 1) := by decide +kernel
theorem dX8_on_38 : decode cX8_on 38 = .ok (.sipush 657, 3) := by decide +kernel
theorem dX8_on_41 : decode cX8_on 41 = .ok (.iconst 1, 1) := by decide +kernel
theorem dX8_on_42 : decode cX8_on 42 = .ok (.iload_n 1, 1) := by decide +kernel
theorem dX8_on_43 : decode cX8_on 43 = .ok (.iadd, 1) := by decide +kernel
theorem dX8_on_44 : decode cX8_on 44 = .ok (.imul, 1) := by decide +kernel
theorem dX8_on_45 : decode cX8_on 45 = .ok (.iconst 0, 1) := by decide +kernel
theorem dX8_on_46 : decode cX8_on 46 = .ok (.invokevirtual 234, 3) := by decide +kernel
theorem dX8_on_49 : decode cX8_on 49 = .ok (.aload_n 0, 1) := by decide +kernel
theorem dX8_on_50 : decode cX8_on 50 = .ok (.getfield 7, 3) := by decide +kernel
theorem dX8_on_53 : decode cX8_on 53 = .ok (.iconst 0, 1) := by decide +kernel
theorem dX8_on_54 : decode cX8_on 54 = .ok (.iaload, 1) := by decide +kernel
theorem dX8_on_55 : decode cX8_on 55 = .ok (.ireturn, 1) := by decide +kernel
theorem dX8_comes_0 : decode cX8_comes 0 = .ok (.aload_n 0, 1) := by decide +kernel
theorem dX8_comes_1 : decode cX8_comes 1 = .ok (.getfield 157, 3) := by decide +kernel
theorem dX8_comes_4 : decode cX8_comes 4 = .ok (.ifCond .ne 6, 3) := by decide +kernel
theorem dX8_comes_7 : decode cX8_comes 7 = .ok (.bipush (-4), 2) := by decide +kernel
theorem dX8_comes_9 : decode cX8_comes 9 = .ok (.ireturn, 1) := by decide +kernel
theorem dX8_comes_10 : decode cX8_comes 10 = .ok (.iconst 0, 1) := by decide +kernel
theorem dX8_comes_11 : decode cX8_comes 11 = .ok (.istore_n 1, 1) := by decide +kernel
theorem dX8_comes_12 : decode cX8_comes 12 = .ok (.aload_n 0, 1) := by decide +kernel
theorem dX8_comes_13 : decode cX8_comes 13 = .ok (.iconst 0, 1) := by decide +kernel
theorem dX8_comes_14 : decode cX8_comes 14 = .ok (.putfield 69, 3) := by decide +kernel
theorem dX8_comes_17 : decode cX8_comes 17 = .ok (.iconst 0, 1) := by decide +kernel
theorem dX8_comes_18 : decode cX8_comes 18 = .ok (.istore_n 2, 1) := by decide +kernel
theorem dX8_comes_19 : decode cX8_comes 19 = .ok (.iload_n 2, 1) := by decide +kernel
theorem dX8_comes_20 : decode cX8_comes 20 = .ok (.aload_n 0, 1) := by decide +kernel
theorem dX8_comes_21 : decode cX8_comes 21 = .ok (.getfield 157, 3) := by decide +kernel
theorem dX8_comes_24 : decode cX8_comes 24 = .ok (.if_icmp .ge 86, 3) := by decide +kernel
theorem dX8_comes_27 : decode cX8_comes 27 = .ok (.aload_n 0, 1) := by decide +kernel
theorem dX8_comes_28 : decode cX8_comes 28 = .ok (.iload_n 2, 1) := by decide +kernel
theorem dX8_comes_29 : decode cX8_comes 29 = .ok (.invokevirtual 219, 3) := by decide +kernel
theorem dX8_comes_32 : decode cX8_comes 32 = .ok (.ifCond .ne 21, 3) := by decide +kernel
theorem dX8_comes_35 : decode cX8_comes 35 = .ok (.aload_n 0, 1) := by decide +kernel
theorem dX8_comes_36 : decode cX8_comes 36 = .ok (.iload_n 2, 1) := by decide +kernel
theorem dX8_comes_37 : decode cX8_comes 37 = .ok (.aload_n 0, 1) := by decide +kernel
theorem dX8_comes_38 : decode cX8_comes 38 = .ok (.getfield 7, 3) := by decide +kernel
theorem dX8_comes_41 : decode cX8_comes 41 = .ok (.iconst 1, 1) := by decide +kernel
theorem dX8_comes_42 : decode cX8_comes 42 = .ok (.iaload, 1) := by decide +kernel
theorem dX8_comes_43 : decode cX8_comes 43 = .ok (.invokevirtual 185, 3) := by decide +kernel
theorem dX8_comes_46 : decode cX8_comes 46 = .ok (.ifCond .eq 7, 3) := by decide +kernel
theorem dX8_comes_49 : decode cX8_comes 49 = .ok (.iconst 1, 1) := by decide +kernel
theorem dX8_comes_50 : decode cX8_comes 50 = .ok (.goto 4, 3) := by decide +kernel
theorem dX8_comes_53 : decode cX8_comes 53 = .ok (.iconst 0, 1) := by decide +kernel
theorem dX8_comes_54 : decode cX8_comes 54 = .ok (.istore_n 3, 1) := by decide +kernel
theorem dX8_comes_55 : decode cX8_comes 55 = .ok (.iload_n 1, 1) := by decide +kernel
theorem dX8_comes_56 : decode cX8_comes 56 = .ok (.iload_n 3, 1) := by decide +kernel
theorem dX8_comes_57 : decode cX8_comes 57 = .ok (.ifCond .eq 9, 3) := by decide +kernel
theorem dX8_comes_60 : decode cX8_comes 60 = .ok (.iconst 1, 1) := by decide +kernel
theorem dX8_comes_61 : decode cX8_comes 61 = .ok (.iload_n 2, 1) := by decide +kernel
theorem dX8_comes_62 : decode cX8_comes 62 = .ok (.ishl, 1) := by decide +kernel
theorem dX8_comes_63 : decode cX8_comes 63 = .ok (.goto 4, 3) := by decide +kernel
theorem dX8_comes_66 : decode cX8_comes 66 = .ok (.iconst 0, 1) := by decide +kernel
theorem dX8_comes_67 : decode cX8_comes 67 = .ok (.ior, 1) := by decide +kernel
theorem dX8_comes_68 : decode cX8_comes 68 = .ok (.istore_n 1, 1) := by decide +kernel
theorem dX8_comes_69 : decode cX8_comes 69 = .ok (.aload_n 0, 1) := by decide +kernel
theorem dX8_comes_70 : decode cX8_comes 70 = .ok (.dup, 1) := by decide +kernel
theorem dX8_comes_71 : decode cX8_comes 71 = .ok (.getfield 69, 3) := by decide +kernel
theorem dX8_comes_74 : decode cX8_comes 74 = .ok (.iload_n 3, 1) := by decide +kernel
theorem dX8_comes_75 : decode cX8_comes 75 = .ok (.ifCond .eq 24, 3) := by decide +kernel
theorem dX8_comes_78 : decode cX8_comes 78 = .ok (.aload_n 0, 1) := by decide +kernel
theorem dX8_comes_79 : decode cX8_comes 79 = .ok (.iconst 0, 1) := by decide +kernel
theorem dX8_comes_80 : decode cX8_comes 80 = .ok (.iload_n 2, 1) := by decide +kernel
theorem dX8_comes_81 : decode cX8_comes 81 = .ok (.aload_n 0, 1) := by decide +kernel
theorem dX8_comes_82 : decode cX8_comes 82 = .ok (.getfield 7, 3) := by decide +kernel
theorem dX8_comes_85 : decode cX8_comes 85 = .ok (.iconst 1, 1) := by decide +kernel
theorem dX8_comes_86 : decode cX8_comes 86 = .ok (.iaload, 1) := by decide +kernel
theorem dX8_comes_87 : decode cX8_comes 87 = .ok (.invokevirtual 188, 3) := by decide +kernel
theorem dX8_comes_90 : decode cX8_comes 90 = .ok (.ifCond .eq 9, 3) := by decide +kernel
theorem dX8_comes_93 : decode cX8_comes 93 = .ok (.iconst 1, 1) := by decide +kernel
theorem dX8_comes_94 : decode cX8_comes 94 = .ok (.iload_n 2, 1) := by decide +kernel
theorem dX8_comes_95 : decode cX8_comes 95 = .ok (.ishl, 1) := by decide +kernel
theorem dX8_comes_96 : decode cX8_comes 96 = .ok (.goto 4, 3) := by decide +kernel
theorem dX8_comes_99 : decode cX8_comes 99 = .ok (.iconst 0, 1) := by decide +kernel
theorem dX8_comes_100 : decode cX8_comes 100 = .ok (.ior, 1) := by decide +kernel
theorem dX8_comes_101 : decode cX8_comes 101 = .ok (.putfield 69, 3) := by decide +kernel
theorem dX8_comes_104 : decode cX8_comes 104 = .ok (.iinc 2 1, 3) := by decide +kernel
theorem dX8_comes_107 : decode cX8_comes 107 = .ok (.goto (-88), 3) := by decide +kernel
theorem dX8_comes_110 : decode cX8_comes 110 = .ok (.iload_n 1, 1) := by decide +kernel
theorem dX8_comes_111 : decode cX8_comes 111 = .ok (.ireturn, 1) := by decide +kernel
theorem dX8_wrongBy_0 : decode cX8_wrongBy 0 = .ok (.iconst 0, 1) := by decide +kernel
theorem dX8_wrongBy_1 : decode cX8_wrongBy 1 = .ok (.istore_n 3, 1) := by decide +kernel
theorem dX8_wrongBy_2 : decode cX8_wrongBy 2 = .ok (.iconst 0, 1) := by decide +kernel
theorem dX8_wrongBy_3 : decode cX8_wrongBy 3 = .ok (.istore 4, 2) := by decide +kernel
theorem dX8_wrongBy_5 : decode cX8_wrongBy 5 = .ok (.iload 4, 2) := by decide +kernel
theorem dX8_wrongBy_7 : decode cX8_wrongBy 7 = .ok (.aload_n 0, 1) := by decide +kernel
theorem dX8_wrongBy_8 : decode cX8_wrongBy 8 = .ok (.getfield 157, 3) := by decide +kernel
theorem dX8_wrongBy_11 : decode cX8_wrongBy 11 = .ok (.if_icmp .ge 70, 3) := by decide +kernel
theorem dX8_wrongBy_14 : decode cX8_wrongBy 14 = .ok (.aload_n 0, 1) := by decide +kernel
theorem dX8_wrongBy_15 : decode cX8_wrongBy 15 = .ok (.iload 4, 2) := by decide +kernel
theorem dX8_wrongBy_17 : decode cX8_wrongBy 17 = .ok (.invokevirtual 219, 3) := by decide +kernel
theorem dX8_wrongBy_20 : decode cX8_wrongBy 20 = .ok (.ifCond .ne 24, 3) := by decide +kernel
theorem dX8_wrongBy_23 : decode cX8_wrongBy 23 = .ok (.aload_n 0, 1) := by decide +kernel
theorem dX8_wrongBy_24 : decode cX8_wrongBy 24 = .ok (.iload 4, 2) := by decide +kernel
theorem dX8_wrongBy_26 : decode cX8_wrongBy 26 = .ok (.aload_n 0, 1) := by decide +kernel
theorem dX8_wrongBy_27 : decode cX8_wrongBy 27 = .ok (.iconst 0, 1) := by decide +kernel
theorem dX8_wrongBy_28 : decode cX8_wrongBy 28 = .ok (.iload 4, 2) := by decide +kernel
theorem dX8_wrongBy_30 : decode cX8_wrongBy 30 = .ok (.iload_n 1, 1) := by decide +kernel
theorem dX8_wrongBy_31 : decode cX8_wrongBy 31 = .ok (.invokevirtual 222, 3) := by decide +kernel
theorem dX8_wrongBy_34 : decode cX8_wrongBy 34 = .ok (.invokevirtual 226, 3) := by decide +kernel
theorem dX8_wrongBy_37 : decode cX8_wrongBy 37 = .ok (.ifCond .eq 7, 3) := by decide +kernel
theorem dX8_wrongBy_40 : decode cX8_wrongBy 40 = .ok (.iconst 1, 1) := by decide +kernel
theorem dX8_wrongBy_41 : decode cX8_wrongBy 41 = .ok (.goto 4, 3) := by decide +kernel
theorem dX8_wrongBy_44 : decode cX8_wrongBy 44 = .ok (.iconst 0, 1) := by decide +kernel
theorem dX8_wrongBy_45 : decode cX8_wrongBy 45 = .ok (.istore 5, 2) := by decide +kernel
theorem dX8_wrongBy_47 : decode cX8_wrongBy 47 = .ok (.iload_n 3, 1) := by decide +kernel
theorem dX8_wrongBy_48 : decode cX8_wrongBy 48 = .ok (.iload 5, 2) := by decide +kernel
theorem dX8_wrongBy_50 : decode cX8_wrongBy 50 = .ok (.ifCond .eq 22, 3) := by decide +kernel
theorem dX8_wrongBy_53 : decode cX8_wrongBy 53 = .ok (.iload_n 2, 1) := by decide +kernel
theorem dX8_wrongBy_54 : decode cX8_wrongBy 54 = .ok (.ifCond .eq 14, 3) := by decide +kernel
theorem dX8_wrongBy_57 : decode cX8_wrongBy 57 = .ok (.aload_n 0, 1) := by decide +kernel
theorem dX8_wrongBy_58 : decode cX8_wrongBy 58 = .ok (.getfield 16, 3) := by decide +kernel
theorem dX8_wrongBy_61 : decode cX8_wrongBy 61 = .ok (.iload 4, 2) := by decide +kernel
theorem dX8_wrongBy_63 : decode cX8_wrongBy 63 = .ok (.iaload, 1) := by decide +kernel
theorem dX8_wrongBy_64 : decode cX8_wrongBy 64 = .ok (.iconst 1, 1) := by decide +kernel
theorem dX8_wrongBy_65 : decode cX8_wrongBy 65 = .ok (.if_icmp .ne 7, 3) := by decide +kernel
theorem dX8_wrongBy_68 : decode cX8_wrongBy 68 = .ok (.iconst 1, 1) := by decide +kernel
theorem dX8_wrongBy_69 : decode cX8_wrongBy 69 = .ok (.goto 4, 3) := by decide +kernel
theorem dX8_wrongBy_72 : decode cX8_wrongBy 72 = .ok (.iconst 0, 1) := by decide +kernel
theorem dX8_wrongBy_73 : decode cX8_wrongBy 73 = .ok (.iadd, 1) := by decide +kernel
theorem dX8_wrongBy_74 : decode cX8_wrongBy 74 = .ok (.istore_n 3, 1) := by decide +kernel
theorem dX8_wrongBy_75 : decode cX8_wrongBy 75 = .ok (.iinc 4 1, 3) := by decide +kernel
theorem dX8_wrongBy_78 : decode cX8_wrongBy 78 = .ok (.goto (-73), 3) := by decide +kernel
theorem dX8_wrongBy_81 : decode cX8_wrongBy 81 = .ok (.iload_n 3, 1) := by decide +kernel
theorem dX8_wrongBy_82 : decode cX8_wrongBy 82 = .ok (.ireturn, 1) := by decide +kernel
theorem dX8_wrong_0 : decode cX8_wrong 0 = .ok (.iload_n 1, 1) := by decide +kernel
theorem dX8_wrong_1 : decode cX8_wrong 1 = .ok (.i2l, 1) := by decide +kernel
theorem dX8_wrong_2 : decode cX8_wrong 2 = .ok (.lconst 0, 1) := by decide +kernel
theorem dX8_wrong_3 : decode cX8_wrong 3 = .ok (.ldc2_w 237, 3) := by decide +kernel
theorem dX8_wrong_6 : decode cX8_wrong 6 = .ok (.invokestatic 74, 3) := by decide +kernel
theorem dX8_wrong_9 : decode cX8_wrong 9 = .ok (.ifCond .ne 5, 3) := by decide +kernel
theorem dX8_wrong_12 : decode cX8_wrong 12 = .ok (.iconst (-1), 1) := by decide +kernel
theorem dX8_wrong_13 : decode cX8_wrong 13 = .ok (.ireturn, 1) := by decide +kernel
theorem dX8_wrong_14 : decode cX8_wrong 14 = .ok (.aload_n 0, 1) := by decide +kernel
theorem dX8_wrong_15 : decode cX8_wrong 15 = .ok (.getfield 157, 3) := by decide +kernel
theorem dX8_wrong_18 : decode cX8_wrong 18 = .ok (.ifCond .ne 6, 3) := by decide +kernel
theorem dX8_wrong_21 : decode cX8_wrong 21 = .ok (.bipush (-4), 2) := by decide +kernel
theorem dX8_wrong_23 : decode cX8_wrong 23 = .ok (.ireturn, 1) := by decide +kernel
theorem dX8_wrong_24 : decode cX8_wrong 24 = .ok (.aload_n 0, 1) := by decide +kernel
theorem dX8_wrong_25 : decode cX8_wrong 25 = .ok (.aload_n 0, 1) := by decide +kernel
theorem dX8_wrong_26 : decode cX8_wrong 26 = .ok (.iload_n 1, 1) := by decide +kernel
theorem dX8_wrong_27 : decode cX8_wrong 27 = .ok (.iconst 1, 1) := by decide +kernel
theorem dX8_wrong_28 : decode cX8_wrong 28 = .ok (.invokevirtual 239, 3) := by decide +kernel
theorem dX8_wrong_31 : decode cX8_wrong 31 = .ok (.putfield 69, 3) := by decide +kernel
theorem dX8_wrong_34 : decode cX8_wrong 34 = .ok (.aload_n 0, 1) := by decide +kernel
theorem dX8_wrong_35 : decode cX8_wrong 35 = .ok (.iload_n 1, 1) := by decide +kernel
theorem dX8_wrong_36 : decode cX8_wrong 36 = .ok (.iconst 0, 1) := by decide +kernel
theorem dX8_wrong_37 : decode cX8_wrong 37 = .ok (.invokevirtual 239, 3) := by decide +kernel
theorem dX8_wrong_40 : decode cX8_wrong 40 = .ok (.ireturn, 1) := by decide +kernel
theorem dX8_best_0 : decode cX8_best 0 = .ok (.aload_n 0, 1) := by decide +kernel
theorem dX8_best_1 : decode cX8_best 1 = .ok (.getfield 157, 3) := by decide +kernel
theorem dX8_best_4 : decode cX8_best 4 = .ok (.ifCond .ne 6, 3) := by decide +kernel
theorem dX8_best_7 : decode cX8_best 7 = .ok (.bipush (-4), 2) := by decide +kernel
theorem dX8_best_9 : decode cX8_best 9 = .ok (.ireturn, 1) := by decide +kernel
theorem dX8_best_10 : decode cX8_best 10 = .ok (.iconst 0, 1) := by decide +kernel
theorem dX8_best_11 : decode cX8_best 11 = .ok (.istore_n 1, 1) := by decide +kernel
theorem dX8_best_12 : decode cX8_best 12 = .ok (.iconst 1, 1) := by decide +kernel
theorem dX8_best_13 : decode cX8_best 13 = .ok (.istore_n 2, 1) := by decide +kernel
theorem dX8_best_14 : decode cX8_best 14 = .ok (.iload_n 2, 1) := by decide +kernel
theorem dX8_best_15 : decode cX8_best 15 = .ok (.bipush 31, 2) := by decide +kernel
theorem dX8_best_17 : decode cX8_best 17 = .ok (.if_icmp .ge 30, 3) := by decide +kernel
theorem dX8_best_20 : decode cX8_best 20 = .ok (.aload_n 0, 1) := by decide +kernel
theorem dX8_best_21 : decode cX8_best 21 = .ok (.iload_n 2, 1) := by decide +kernel
theorem dX8_best_22 : decode cX8_best 22 = .ok (.iconst 0, 1) := by decide +kernel
theorem dX8_best_23 : decode cX8_best 23 = .ok (.invokevirtual 239, 3) := by decide +kernel
theorem dX8_best_26 : decode cX8_best 26 = .ok (.aload_n 0, 1) := by decide +kernel
theorem dX8_best_27 : decode cX8_best 27 = .ok (.iload_n 1, 1) := by decide +kernel
theorem dX8_best_28 : decode cX8_best 28 = .ok (.iconst 0, 1) := by decide +kernel
theorem dX8_best_29 : decode cX8_best 29 = .ok (.invokevirtual 239, 3) := by decide +kernel
theorem dX8_best_32 : decode cX8_best 32 = .ok (.if_icmp .ge 7, 3) := by decide +kernel
theorem dX8_best_35 : decode cX8_best 35 = .ok (.iload_n 2, 1) := by decide +kernel
theorem dX8_best_36 : decode cX8_best 36 = .ok (.goto 4, 3) := by decide +kernel
theorem dX8_best_39 : decode cX8_best 39 = .ok (.iload_n 1, 1) := by decide +kernel
theorem dX8_best_40 : decode cX8_best 40 = .ok (.istore_n 1, 1) := by decide +kernel
theorem dX8_best_41 : decode cX8_best 41 = .ok (.iinc 2 1, 3) := by decide +kernel
theorem dX8_best_44 : decode cX8_best 44 = .ok (.goto (-30), 3) := by decide +kernel
theorem dX8_best_47 : decode cX8_best 47 = .ok (.aload_n 0, 1) := by decide +kernel
theorem dX8_best_48 : decode cX8_best 48 = .ok (.aload_n 0, 1) := by decide +kernel
theorem dX8_best_49 : decode cX8_best 49 = .ok (.iload_n 1, 1) := by decide +kernel
theorem dX8_best_50 : decode cX8_best 50 = .ok (.iconst 0, 1) := by decide +kernel
theorem dX8_best_51 : decode cX8_best 51 = .ok (.invokevirtual 239, 3) := by decide +kernel
theorem dX8_best_54 : decode cX8_best 54 = .ok (.putfield 69, 3) := by decide +kernel
theorem dX8_best_57 : decode cX8_best 57 = .ok (.iload_n 1, 1) := by decide +kernel
theorem dX8_best_58 : decode cX8_best 58 = .ok (.ireturn, 1) := by decide +kernel
theorem dX8_heats_0 : decode cX8_heats 0 = .ok (.aload_n 0, 1) := by decide +kernel
theorem dX8_heats_1 : decode cX8_heats 1 = .ok (.iload_n 1, 1) := by decide +kernel
theorem dX8_heats_2 : decode cX8_heats 2 = .ok (.invokevirtual 191, 3) := by decide +kernel
theorem dX8_heats_5 : decode cX8_heats 5 = .ok (.ifCond .eq 15, 3) := by decide +kernel
theorem dX8_heats_8 : decode cX8_heats 8 = .ok (.iload_n 2, 1) := by decide +kernel
theorem dX8_heats_9 : decode cX8_heats 9 = .ok (.i2l, 1) := by decide +kernel
theorem dX8_heats_10 : decode cX8_heats 10 = .ok (.lconst 0, 1) := by decide +kernel
theorem dX8_heats_11 : decode cX8_heats 11 = .ok (.ldc2_w 232, 3) := by decide +kernel
theorem dX8_heats_14 : decode cX8_heats 14 = .ok (.invokestatic 74, 3) := by decide +kernel
theorem dX8_heats_17 : decode cX8_heats 17 = .ok (.ifCond .ne 5, 3) := by decide +kernel
theorem dX8_heats_20 : decode cX8_heats 20 = .ok (.iconst (-1), 1) := by decide +kernel
theorem dX8_heats_21 : decode cX8_heats 21 = .ok (.ireturn, 1) := by decide +kernel
theorem dX8_heats_22 : decode cX8_heats 22 = .ok (.iconst 0, 1) := by decide +kernel
theorem dX8_heats_23 : decode cX8_heats 23 = .ok (.istore_n 3, 1) := by decide +kernel
theorem dX8_heats_24 : decode cX8_heats 24 = .ok (.iconst 0, 1) := by decide +kernel
theorem dX8_heats_25 : decode cX8_heats 25 = .ok (.istore 4, 2) := by decide +kernel
theorem dX8_heats_27 : decode cX8_heats 27 = .ok (.iload 4, 2) := by decide +kernel
theorem dX8_heats_29 : decode cX8_heats 29 = .ok (.bipush 31, 2) := by decide +kernel
theorem dX8_heats_31 : decode cX8_heats 31 = .ok (.if_icmp .ge 32, 3) := by decide +kernel
theorem dX8_heats_34 : decode cX8_heats 34 = .ok (.iload_n 3, 1) := by decide +kernel
theorem dX8_heats_35 : decode cX8_heats 35 = .ok (.aload_n 0, 1) := by decide +kernel
theorem dX8_heats_36 : decode cX8_heats 36 = .ok (.iconst 0, 1) := by decide +kernel
theorem dX8_heats_37 : decode cX8_heats 37 = .ok (.iload_n 1, 1) := by decide +kernel
theorem dX8_heats_38 : decode cX8_heats 38 = .ok (.iload 4, 2) := by decide +kernel
theorem dX8_heats_40 : decode cX8_heats 40 = .ok (.invokevirtual 222, 3) := by decide +kernel
theorem dX8_heats_43 : decode cX8_heats 43 = .ok (.iload_n 2, 1) := by decide +kernel
theorem dX8_heats_44 : decode cX8_heats 44 = .ok (.if_icmp .ne 10, 3) := by decide +kernel
theorem dX8_heats_47 : decode cX8_heats 47 = .ok (.iconst 1, 1) := by decide +kernel
theorem dX8_heats_48 : decode cX8_heats 48 = .ok (.iload 4, 2) := by decide +kernel
theorem dX8_heats_50 : decode cX8_heats 50 = .ok (.ishl, 1) := by decide +kernel
theorem dX8_heats_51 : decode cX8_heats 51 = .ok (.goto 4, 3) := by decide +kernel
theorem dX8_heats_54 : decode cX8_heats 54 = .ok (.iconst 0, 1) := by decide +kernel
theorem dX8_heats_55 : decode cX8_heats 55 = .ok (.ior, 1) := by decide +kernel
theorem dX8_heats_56 : decode cX8_heats 56 = .ok (.istore_n 3, 1) := by decide +kernel
theorem dX8_heats_57 : decode cX8_heats 57 = .ok (.iinc 4 1, 3) := by decide +kernel
theorem dX8_heats_60 : decode cX8_heats 60 = .ok (.goto (-33), 3) := by decide +kernel
theorem dX8_heats_63 : decode cX8_heats 63 = .ok (.iload_n 3, 1) := by decide +kernel
theorem dX8_heats_64 : decode cX8_heats 64 = .ok (.ireturn, 1) := by decide +kernel
theorem dX8_tellParts_0 : decode cX8_tellParts 0 = .ok (.lload_n 1, 1) := by decide +kernel
theorem dX8_tellParts_1 : decode cX8_tellParts 1 = .ok (.lstore 5, 2) := by decide +kernel
theorem dX8_tellParts_3 : decode cX8_tellParts 3 = .ok (.lload_n 3, 1) := by decide +kernel
theorem dX8_tellParts_4 : decode cX8_tellParts 4 = .ok (.lstore 7, 2) := by decide +kernel
theorem dX8_tellParts_6 : decode cX8_tellParts 6 = .ok (.lload 7, 2) := by decide +kernel
theorem dX8_tellParts_8 : decode cX8_tellParts 8 = .ok (.lconst 0, 1) := by decide +kernel
theorem dX8_tellParts_9 : decode cX8_tellParts 9 = .ok (.lcmp, 1) := by decide +kernel
theorem dX8_tellParts_10 : decode cX8_tellParts 10 = .ok (.ifCond .eq 21, 3) := by decide +kernel
theorem dX8_tellParts_13 : decode cX8_tellParts 13 = .ok (.lload 5, 2) := by decide +kernel
theorem dX8_tellParts_15 : decode cX8_tellParts 15 = .ok (.lload 7, 2) := by decide +kernel
theorem dX8_tellParts_17 : decode cX8_tellParts 17 = .ok (.lrem, 1) := by decide +kernel
theorem dX8_tellParts_18 : decode cX8_tellParts 18 = .ok (.lstore 9, 2) := by decide +kernel
theorem dX8_tellParts_20 : decode cX8_tellParts 20 = .ok (.lload 7, 2) := by decide +kernel
theorem dX8_tellParts_22 : decode cX8_tellParts 22 = .ok (.lstore 5, 2) := by decide +kernel
theorem dX8_tellParts_24 : decode cX8_tellParts 24 = .ok (.lload 9, 2) := by decide +kernel
theorem dX8_tellParts_26 : decode cX8_tellParts 26 = .ok (.lstore 7, 2) := by decide +kernel
theorem dX8_tellParts_28 : decode cX8_tellParts 28 = .ok (.goto (-22), 3) := by decide +kernel
theorem dX8_tellParts_31 : decode cX8_tellParts 31 = .ok (.aload_n 0, 1) := by decide +kernel
theorem dX8_tellParts_32 : decode cX8_tellParts 32 = .ok (.lload_n 1, 1) := by decide +kernel
theorem dX8_tellParts_33 : decode cX8_tellParts 33 = .ok (.lload 5, 2) := by decide +kernel
theorem dX8_tellParts_35 : decode cX8_tellParts 35 = .ok (.ldiv, 1) := by decide +kernel
theorem dX8_tellParts_36 : decode cX8_tellParts 36 = .ok (.putfield 243, 3) := by decide +kernel
theorem dX8_tellParts_39 : decode cX8_tellParts 39 = .ok (.aload_n 0, 1) := by decide +kernel
theorem dX8_tellParts_40 : decode cX8_tellParts 40 = .ok (.lload_n 3, 1) := by decide +kernel
theorem dX8_tellParts_41 : decode cX8_tellParts 41 = .ok (.lload 5, 2) := by decide +kernel
theorem dX8_tellParts_43 : decode cX8_tellParts 43 = .ok (.ldiv, 1) := by decide +kernel
theorem dX8_tellParts_44 : decode cX8_tellParts 44 = .ok (.putfield 37, 3) := by decide +kernel
theorem dX8_tellParts_47 : decode cX8_tellParts 47 = .ok (.iconst 1, 1) := by decide +kernel
theorem dX8_tellParts_48 : decode cX8_tellParts 48 = .ok (.ireturn, 1) := by decide +kernel
theorem dX8_tells_0 : decode cX8_tells 0 = .ok (.iload_n 1, 1) := by decide +kernel
theorem dX8_tells_1 : decode cX8_tells 1 = .ok (.i2l, 1) := by decide +kernel
theorem dX8_tells_2 : decode cX8_tells 2 = .ok (.lconst 0, 1) := by decide +kernel
theorem dX8_tells_3 : decode cX8_tells 3 = .ok (.ldc2_w 237, 3) := by decide +kernel
theorem dX8_tells_6 : decode cX8_tells 6 = .ok (.invokestatic 74, 3) := by decide +kernel
theorem dX8_tells_9 : decode cX8_tells 9 = .ok (.ifCond .ne 5, 3) := by decide +kernel
theorem dX8_tells_12 : decode cX8_tells 12 = .ok (.iconst (-1), 1) := by decide +kernel
theorem dX8_tells_13 : decode cX8_tells 13 = .ok (.ireturn, 1) := by decide +kernel
theorem dX8_tells_14 : decode cX8_tells 14 = .ok (.aload_n 0, 1) := by decide +kernel
theorem dX8_tells_15 : decode cX8_tells 15 = .ok (.getfield 157, 3) := by decide +kernel
theorem dX8_tells_18 : decode cX8_tells 18 = .ok (.ifCond .ne 6, 3) := by decide +kernel
theorem dX8_tells_21 : decode cX8_tells 21 = .ok (.bipush (-4), 2) := by decide +kernel
theorem dX8_tells_23 : decode cX8_tells 23 = .ok (.ireturn, 1) := by decide +kernel
theorem dX8_tells_24 : decode cX8_tells 24 = .ok (.lconst 0, 1) := by decide +kernel
theorem dX8_tells_25 : decode cX8_tells 25 = .ok (.lstore_n 2, 1) := by decide +kernel
theorem dX8_tells_26 : decode cX8_tells 26 = .ok (.lconst 0, 1) := by decide +kernel
theorem dX8_tells_27 : decode cX8_tells 27 = .ok (.lstore 4, 2) := by decide +kernel
theorem dX8_tells_29 : decode cX8_tells 29 = .ok (.iconst 0, 1) := by decide +kernel
theorem dX8_tells_30 : decode cX8_tells 30 = .ok (.istore 6, 2) := by decide +kernel
theorem dX8_tells_32 : decode cX8_tells 32 = .ok (.iload 6, 2) := by decide +kernel
theorem dX8_tells_34 : decode cX8_tells 34 = .ok (.aload_n 0, 1) := by decide +kernel
theorem dX8_tells_35 : decode cX8_tells 35 = .ok (.getfield 157, 3) := by decide +kernel
theorem dX8_tells_38 : decode cX8_tells 38 = .ok (.if_icmp .ge 47, 3) := by decide +kernel
theorem dX8_tells_41 : decode cX8_tells 41 = .ok (.aload_n 0, 1) := by decide +kernel
theorem dX8_tells_42 : decode cX8_tells 42 = .ok (.iload 6, 2) := by decide +kernel
theorem dX8_tells_44 : decode cX8_tells 44 = .ok (.invokevirtual 219, 3) := by decide +kernel
theorem dX8_tells_47 : decode cX8_tells 47 = .ok (.ifCond .ne 32, 3) := by decide +kernel
theorem dX8_tells_50 : decode cX8_tells 50 = .ok (.aload_n 0, 1) := by decide +kernel
theorem dX8_tells_51 : decode cX8_tells 51 = .ok (.iconst 0, 1) := by decide +kernel
theorem dX8_tells_52 : decode cX8_tells 52 = .ok (.iload 6, 2) := by decide +kernel
theorem dX8_tells_54 : decode cX8_tells 54 = .ok (.iload_n 1, 1) := by decide +kernel
theorem dX8_tells_55 : decode cX8_tells 55 = .ok (.invokevirtual 222, 3) := by decide +kernel
theorem dX8_tells_58 : decode cX8_tells 58 = .ok (.iconst 1, 1) := by decide +kernel
theorem dX8_tells_59 : decode cX8_tells 59 = .ok (.if_icmp .ne 20, 3) := by decide +kernel
theorem dX8_tells_62 : decode cX8_tells 62 = .ok (.lload_n 2, 1) := by decide +kernel
theorem dX8_tells_63 : decode cX8_tells 63 = .ok (.lconst 1, 1) := by decide +kernel
theorem dX8_tells_64 : decode cX8_tells 64 = .ok (.ladd, 1) := by decide +kernel
theorem dX8_tells_65 : decode cX8_tells 65 = .ok (.lstore_n 2, 1) := by decide +kernel
theorem dX8_tells_66 : decode cX8_tells 66 = .ok (.lload 4, 2) := by decide +kernel
theorem dX8_tells_68 : decode cX8_tells 68 = .ok (.aload_n 0, 1) := by decide +kernel
theorem dX8_tells_69 : decode cX8_tells 69 = .ok (.getfield 16, 3) := by decide +kernel
theorem dX8_tells_72 : decode cX8_tells 72 = .ok (.iload 6, 2) := by decide +kernel
theorem dX8_tells_74 : decode cX8_tells 74 = .ok (.iaload, 1) := by decide +kernel
theorem dX8_tells_75 : decode cX8_tells 75 = .ok (.i2l, 1) := by decide +kernel
theorem dX8_tells_76 : decode cX8_tells 76 = .ok (.ladd, 1) := by decide +kernel
theorem dX8_tells_77 : decode cX8_tells 77 = .ok (.lstore 4, 2) := by decide +kernel
theorem dX8_tells_79 : decode cX8_tells 79 = .ok (.iinc 6 1, 3) := by decide +kernel
theorem dX8_tells_82 : decode cX8_tells 82 = .ok (.goto (-50), 3) := by decide +kernel
theorem dX8_tells_85 : decode cX8_tells 85 = .ok (.lload_n 2, 1) := by decide +kernel
theorem dX8_tells_86 : decode cX8_tells 86 = .ok (.lconst 0, 1) := by decide +kernel
theorem dX8_tells_87 : decode cX8_tells 87 = .ok (.lcmp, 1) := by decide +kernel
theorem dX8_tells_88 : decode cX8_tells 88 = .ok (.ifCond .ne 12, 3) := by decide +kernel
theorem dX8_tells_91 : decode cX8_tells 91 = .ok (.aload_n 0, 1) := by decide +kernel
theorem dX8_tells_92 : decode cX8_tells 92 = .ok (.lconst 0, 1) := by decide +kernel
theorem dX8_tells_93 : decode cX8_tells 93 = .ok (.lconst 1, 1) := by decide +kernel
theorem dX8_tells_94 : decode cX8_tells 94 = .ok (.invokevirtual 246, 3) := by decide +kernel
theorem dX8_tells_97 : decode cX8_tells 97 = .ok (.goto 10, 3) := by decide +kernel
theorem dX8_tells_100 : decode cX8_tells 100 = .ok (.aload_n 0, 1) := by decide +kernel
theorem dX8_tells_101 : decode cX8_tells 101 = .ok (.lload 4, 2) := by decide +kernel
theorem dX8_tells_103 : decode cX8_tells 103 = .ok (.lload_n 2, 1) := by decide +kernel
theorem dX8_tells_104 : decode cX8_tells 104 = .ok (.invokevirtual 246, 3) := by decide +kernel
theorem dX8_tells_107 : decode cX8_tells 107 = .ok (.ireturn, 1) := by decide +kernel
theorem dX8_layTried_0 : decode cX8_layTried 0 = .ok (.iconst 0, 1) := by decide +kernel
theorem dX8_layTried_1 : decode cX8_layTried 1 = .ok (.istore_n 1, 1) := by decide +kernel
theorem dX8_layTried_2 : decode cX8_layTried 2 = .ok (.iload_n 1, 1) := by decide +kernel
theorem dX8_layTried_3 : decode cX8_layTried 3 = .ok (.bipush 17, 2) := by decide +kernel
theorem dX8_layTried_5 : decode cX8_layTried 5 = .ok (.if_icmp .ge 25, 3) := by decide +kernel
theorem dX8_layTried_8 : decode cX8_layTried 8 = .ok (.aload_n 0, 1) := by decide +kernel
theorem dX8_layTried_9 : decode cX8_layTried 9 = .ok (.getfield 7, 3) := by decide +kernel
theorem dX8_layTried_12 : decode cX8_layTried 12 = .ok (.sipush 2628, 3) := by decide +kernel
theorem dX8_layTried_15 : decode cX8_layTried 15 = .ok (.iload_n 1, 1) := by decide +kernel
theorem dX8_layTried_16 : decode cX8_layTried 16 = .ok (.iadd, 1) := by decide +kernel
theorem dX8_layTried_17 : decode cX8_layTried 17 = .ok (.aload_n 0, 1) := by decide +kernel
theorem dX8_layTried_18 : decode cX8_layTried 18 = .ok (.getfield 7, 3) := by decide +kernel
theorem dX8_layTried_21 : decode cX8_layTried 21 = .ok (.iload_n 1, 1) := by decide +kernel
theorem dX8_layTried_22 : decode cX8_layTried 22 = .ok (.iaload, 1) := by decide +kernel
theorem dX8_layTried_23 : decode cX8_layTried 23 = .ok (.iastore, 1) := by decide +kernel
theorem dX8_layTried_24 : decode cX8_layTried 24 = .ok (.iinc 1 1, 3) := by decide +kernel
theorem dX8_layTried_27 : decode cX8_layTried 27 = .ok (.goto (-25), 3) := by decide +kernel
theorem dX8_layTried_30 : decode cX8_layTried 30 = .ok (.return_, 1) := by decide +kernel
theorem dX8_layLine_0 : decode cX8_layLine 0 = .ok (.aload_n 0, 1) := by decide +kernel
theorem dX8_layLine_1 : decode cX8_layLine 1 = .ok (.iconst 0, 1) := by decide +kernel
theorem dX8_layLine_2 : decode cX8_layLine 2 = .ok (.putfield 250, 3) := by decide +kernel
theorem dX8_layLine_5 : decode cX8_layLine 5 = .ok (.iconst 0, 1) := by decide +kernel
theorem dX8_layLine_6 : decode cX8_layLine 6 = .ok (.istore_n 1, 1) := by decide +kernel
theorem dX8_layLine_7 : decode cX8_layLine 7 = .ok (.iload_n 1, 1) := by decide +kernel
theorem dX8_layLine_8 : decode cX8_layLine 8 = .ok (.aload_n 0, 1) := by decide +kernel
theorem dX8_layLine_9 : decode cX8_layLine 9 = .ok (.getfield 157, 3) := by decide +kernel
theorem dX8_layLine_12 : decode cX8_layLine 12 = .ok (.if_icmp .ge 37, 3) := by decide +kernel
theorem dX8_layLine_15 : decode cX8_layLine 15 = .ok (.aload_n 0, 1) := by decide +kernel
theorem dX8_layLine_16 : decode cX8_layLine 16 = .ok (.iload_n 1, 1) := by decide +kernel
theorem dX8_layLine_17 : decode cX8_layLine 17 = .ok (.invokevirtual 219, 3) := by decide +kernel
theorem dX8_layLine_20 : decode cX8_layLine 20 = .ok (.ifCond .ne 23, 3) := by decide +kernel
theorem dX8_layLine_23 : decode cX8_layLine 23 = .ok (.aload_n 0, 1) := by decide +kernel
theorem dX8_layLine_24 : decode cX8_layLine 24 = .ok (.getfield 50, 3) := by decide +kernel
theorem dX8_layLine_27 : decode cX8_layLine 27 = .ok (.aload_n 0, 1) := by decide +kernel
theorem dX8_layLine_28 : decode cX8_layLine 28 = .ok (.getfield 250, 3) := by decide +kernel
theorem dX8_layLine_31 : decode cX8_layLine 31 = .ok (.iload_n 1, 1) := by decide +kernel
theorem dX8_layLine_32 : decode cX8_layLine 32 = .ok (.iastore, 1) := by decide +kernel
theorem dX8_layLine_33 : decode cX8_layLine 33 = .ok (.aload_n 0, 1) := by decide +kernel
theorem dX8_layLine_34 : decode cX8_layLine 34 = .ok (.dup, 1) := by decide +kernel
theorem dX8_layLine_35 : decode cX8_layLine 35 = .ok (.getfield 250, 3) := by decide +kernel
theorem dX8_layLine_38 : decode cX8_layLine 38 = .ok (.iconst 1, 1) := by decide +kernel
theorem dX8_layLine_39 : decode cX8_layLine 39 = .ok (.iadd, 1) := by decide +kernel
theorem dX8_layLine_40 : decode cX8_layLine 40 = .ok (.putfield 250, 3) := by decide +kernel
theorem dX8_layLine_43 : decode cX8_layLine 43 = .ok (.iinc 1 1, 3) := by decide +kernel
theorem dX8_layLine_46 : decode cX8_layLine 46 = .ok (.goto (-39), 3) := by decide +kernel
theorem dX8_layLine_49 : decode cX8_layLine 49 = .ok (.return_, 1) := by decide +kernel
theorem dX8_swapLine_0 : decode cX8_swapLine 0 = .ok (.aload_n 0, 1) := by decide +kernel
theorem dX8_swapLine_1 : decode cX8_swapLine 1 = .ok (.getfield 50, 3) := by decide +kernel
theorem dX8_swapLine_4 : decode cX8_swapLine 4 = .ok (.iload_n 1, 1) := by decide +kernel
theorem dX8_swapLine_5 : decode cX8_swapLine 5 = .ok (.iaload, 1) := by decide +kernel
theorem dX8_swapLine_6 : decode cX8_swapLine 6 = .ok (.istore_n 3, 1) := by decide +kernel
theorem dX8_swapLine_7 : decode cX8_swapLine 7 = .ok (.aload_n 0, 1) := by decide +kernel
theorem dX8_swapLine_8 : decode cX8_swapLine 8 = .ok (.getfield 50, 3) := by decide +kernel
theorem dX8_swapLine_11 : decode cX8_swapLine 11 = .ok (.iload_n 1, 1) := by decide +kernel
theorem dX8_swapLine_12 : decode cX8_swapLine 12 = .ok (.aload_n 0, 1) := by decide +kernel
theorem dX8_swapLine_13 : decode cX8_swapLine 13 = .ok (.getfield 50, 3) := by decide +kernel
theorem dX8_swapLine_16 : decode cX8_swapLine 16 = .ok (.iload_n 2, 1) := by decide +kernel
theorem dX8_swapLine_17 : decode cX8_swapLine 17 = .ok (.iaload, 1) := by decide +kernel
theorem dX8_swapLine_18 : decode cX8_swapLine 18 = .ok (.iastore, 1) := by decide +kernel
theorem dX8_swapLine_19 : decode cX8_swapLine 19 = .ok (.aload_n 0, 1) := by decide +kernel
theorem dX8_swapLine_20 : decode cX8_swapLine 20 = .ok (.getfield 50, 3) := by decide +kernel
theorem dX8_swapLine_23 : decode cX8_swapLine 23 = .ok (.iload_n 2, 1) := by decide +kernel
theorem dX8_swapLine_24 : decode cX8_swapLine 24 = .ok (.iload_n 3, 1) := by decide +kernel
theorem dX8_swapLine_25 : decode cX8_swapLine 25 = .ok (.iastore, 1) := by decide +kernel
theorem dX8_swapLine_26 : decode cX8_swapLine 26 = .ok (.return_, 1) := by decide +kernel
theorem dX8_nextLine_0 : decode cX8_nextLine 0 = .ok (.aload_n 0, 1) := by decide +kernel
theorem dX8_nextLine_1 : decode cX8_nextLine 1 = .ok (.getfield 250, 3) := by decide +kernel
theorem dX8_nextLine_4 : decode cX8_nextLine 4 = .ok (.iconst 2, 1) := by decide +kernel
theorem dX8_nextLine_5 : decode cX8_nextLine 5 = .ok (.isub, 1) := by decide +kernel
theorem dX8_nextLine_6 : decode cX8_nextLine 6 = .ok (.istore_n 1, 1) := by decide +kernel
theorem dX8_nextLine_7 : decode cX8_nextLine 7 = .ok (.iload_n 1, 1) := by decide +kernel
theorem dX8_nextLine_8 : decode cX8_nextLine 8 = .ok (.ifCond .lt 26, 3) := by decide +kernel
theorem dX8_nextLine_11 : decode cX8_nextLine 11 = .ok (.aload_n 0, 1) := by decide +kernel
theorem dX8_nextLine_12 : decode cX8_nextLine 12 = .ok (.getfield 50, 3) := by decide +kernel
theorem dX8_nextLine_15 : decode cX8_nextLine 15 = .ok (.iload_n 1, 1) := by decide +kernel
theorem dX8_nextLine_16 : decode cX8_nextLine 16 = .ok (.iaload, 1) := by decide +kernel
theorem dX8_nextLine_17 : decode cX8_nextLine 17 = .ok (.aload_n 0, 1) := by decide +kernel
theorem dX8_nextLine_18 : decode cX8_nextLine 18 = .ok (.getfield 50, 3) := by decide +kernel
theorem dX8_nextLine_21 : decode cX8_nextLine 21 = .ok (.iload_n 1, 1) := by decide +kernel
theorem dX8_nextLine_22 : decode cX8_nextLine 22 = .ok (.iconst 1, 1) := by decide +kernel
theorem dX8_nextLine_23 : decode cX8_nextLine 23 = .ok (.iadd, 1) := by decide +kernel
theorem dX8_nextLine_24 : decode cX8_nextLine 24 = .ok (.iaload, 1) := by decide +kernel
theorem dX8_nextLine_25 : decode cX8_nextLine 25 = .ok (.if_icmp .le 9, 3) := by decide +kernel
theorem dX8_nextLine_28 : decode cX8_nextLine 28 = .ok (.iinc 1 (-1), 3) := by decide +kernel
theorem dX8_nextLine_31 : decode cX8_nextLine 31 = .ok (.goto (-24), 3) := by decide +kernel
theorem dX8_nextLine_34 : decode cX8_nextLine 34 = .ok (.iload_n 1, 1) := by decide +kernel
theorem dX8_nextLine_35 : decode cX8_nextLine 35 = .ok (.ifCond .ge 5, 3) := by decide +kernel
theorem dX8_nextLine_38 : decode cX8_nextLine 38 = .ok (.iconst 0, 1) := by decide +kernel
theorem dX8_nextLine_39 : decode cX8_nextLine 39 = .ok (.ireturn, 1) := by decide +kernel
theorem dX8_nextLine_40 : decode cX8_nextLine 40 = .ok (.aload_n 0, 1) := by decide +kernel
theorem dX8_nextLine_41 : decode cX8_nextLine 41 = .ok (.getfield 250, 3) := by decide +kernel
theorem dX8_nextLine_44 : decode cX8_nextLine 44 = .ok (.iconst 1, 1) := by decide +kernel
theorem dX8_nextLine_45 : decode cX8_nextLine 45 = .ok (.isub, 1) := by decide +kernel
theorem dX8_nextLine_46 : decode cX8_nextLine 46 = .ok (.istore_n 2, 1) := by decide +kernel
theorem dX8_nextLine_47 : decode cX8_nextLine 47 = .ok (.aload_n 0, 1) := by decide +kernel
theorem dX8_nextLine_48 : decode cX8_nextLine 48 = .ok (.getfield 50, 3) := by decide +kernel
theorem dX8_nextLine_51 : decode cX8_nextLine 51 = .ok (.iload_n 2, 1) := by decide +kernel
theorem dX8_nextLine_52 : decode cX8_nextLine 52 = .ok (.iaload, 1) := by decide +kernel
theorem dX8_nextLine_53 : decode cX8_nextLine 53 = .ok (.aload_n 0, 1) := by decide +kernel
theorem dX8_nextLine_54 : decode cX8_nextLine 54 = .ok (.getfield 50, 3) := by decide +kernel
theorem dX8_nextLine_57 : decode cX8_nextLine 57 = .ok (.iload_n 1, 1) := by decide +kernel
theorem dX8_nextLine_58 : decode cX8_nextLine 58 = .ok (.iaload, 1) := by decide +kernel
theorem dX8_nextLine_59 : decode cX8_nextLine 59 = .ok (.if_icmp .ge 9, 3) := by decide +kernel
theorem dX8_nextLine_62 : decode cX8_nextLine 62 = .ok (.iinc 2 (-1), 3) := by decide +kernel
theorem dX8_nextLine_65 : decode cX8_nextLine 65 = .ok (.goto (-18), 3) := by decide +kernel
theorem dX8_nextLine_68 : decode cX8_nextLine 68 = .ok (.aload_n 0, 1) := by decide +kernel
theorem dX8_nextLine_69 : decode cX8_nextLine 69 = .ok (.iload_n 1, 1) := by decide +kernel
theorem dX8_nextLine_70 : decode cX8_nextLine 70 = .ok (.iload_n 2, 1) := by decide +kernel
theorem dX8_nextLine_71 : decode cX8_nextLine 71 = .ok (.invokevirtual 253, 3) := by decide +kernel
theorem dX8_nextLine_74 : decode cX8_nextLine 74 = .ok (.iload_n 1, 1) := by decide +kernel
theorem dX8_nextLine_75 : decode cX8_nextLine 75 = .ok (.iconst 1, 1) := by decide +kernel
theorem dX8_nextLine_76 : decode cX8_nextLine 76 = .ok (.iadd, 1) := by decide +kernel
theorem dX8_nextLine_77 : decode cX8_nextLine 77 = .ok (.istore_n 3, 1) := by decide +kernel
theorem dX8_nextLine_78 : decode cX8_nextLine 78 = .ok (.aload_n 0, 1) := by decide +kernel
theorem dX8_nextLine_79 : decode cX8_nextLine 79 = .ok (.getfield 250, 3) := by decide +kernel
theorem dX8_nextLine_82 : decode cX8_nextLine 82 = .ok (.iconst 1, 1) := by decide +kernel
theorem dX8_nextLine_83 : decode cX8_nextLine 83 = .ok (.isub, 1) := by decide +kernel
theorem dX8_nextLine_84 : decode cX8_nextLine 84 = .ok (.istore 4, 2) := by decide +kernel
theorem dX8_nextLine_86 : decode cX8_nextLine 86 = .ok (.iload_n 3, 1) := by decide +kernel
theorem dX8_nextLine_87 : decode cX8_nextLine 87 = .ok (.iload 4, 2) := by decide +kernel
theorem dX8_nextLine_89 : decode cX8_nextLine 89 = .ok (.if_icmp .ge 19, 3) := by decide +kernel
theorem dX8_nextLine_92 : decode cX8_nextLine 92 = .ok (.aload_n 0, 1) := by decide +kernel
theorem dX8_nextLine_93 : decode cX8_nextLine 93 = .ok (.iload_n 3, 1) := by decide +kernel
theorem dX8_nextLine_94 : decode cX8_nextLine 94 = .ok (.iload 4, 2) := by decide +kernel
theorem dX8_nextLine_96 : decode cX8_nextLine 96 = .ok (.invokevirtual 253, 3) := by decide +kernel
theorem dX8_nextLine_99 : decode cX8_nextLine 99 = .ok (.iinc 3 1, 3) := by decide +kernel
theorem dX8_nextLine_102 : decode cX8_nextLine 102 = .ok (.iinc 4 (-1), 3) := by decide +kernel
theorem dX8_nextLine_105 : decode cX8_nextLine 105 = .ok (.goto (-19), 3) := by decide +kernel
theorem dX8_nextLine_108 : decode cX8_nextLine 108 = .ok (.iconst 1, 1) := by decide +kernel
theorem dX8_nextLine_109 : decode cX8_nextLine 109 = .ok (.ireturn, 1) := by decide +kernel
theorem dX8_wrongInLine_0 : decode cX8_wrongInLine 0 = .ok (.aload_n 0, 1) := by decide +kernel
theorem dX8_wrongInLine_1 : decode cX8_wrongInLine 1 = .ok (.invokevirtual 256, 3) := by decide +kernel
theorem dX8_wrongInLine_4 : decode cX8_wrongInLine 4 = .ok (.iconst 0, 1) := by decide +kernel
theorem dX8_wrongInLine_5 : decode cX8_wrongInLine 5 = .ok (.istore_n 1, 1) := by decide +kernel
theorem dX8_wrongInLine_6 : decode cX8_wrongInLine 6 = .ok (.iload_n 1, 1) := by decide +kernel
theorem dX8_wrongInLine_7 : decode cX8_wrongInLine 7 = .ok (.aload_n 0, 1) := by decide +kernel
theorem dX8_wrongInLine_8 : decode cX8_wrongInLine 8 = .ok (.getfield 250, 3) := by decide +kernel
theorem dX8_wrongInLine_11 : decode cX8_wrongInLine 11 = .ok (.if_icmp .ge 23, 3) := by decide +kernel
theorem dX8_wrongInLine_14 : decode cX8_wrongInLine 14 = .ok (.aload_n 0, 1) := by decide +kernel
theorem dX8_wrongInLine_15 : decode cX8_wrongInLine 15 = .ok (.sipush 2628, 3) := by decide +kernel
theorem dX8_wrongInLine_18 : decode cX8_wrongInLine 18 = .ok (.aload_n 0, 1) := by decide +kernel
theorem dX8_wrongInLine_19 : decode cX8_wrongInLine 19 = .ok (.getfield 50, 3) := by decide +kernel
theorem dX8_wrongInLine_22 : decode cX8_wrongInLine 22 = .ok (.iload_n 1, 1) := by decide +kernel
theorem dX8_wrongInLine_23 : decode cX8_wrongInLine 23 = .ok (.iaload, 1) := by decide +kernel
theorem dX8_wrongInLine_24 : decode cX8_wrongInLine 24 = .ok (.invokevirtual 229, 3) := by decide +kernel
theorem dX8_wrongInLine_27 : decode cX8_wrongInLine 27 = .ok (.pop, 1) := by decide +kernel
theorem dX8_wrongInLine_28 : decode cX8_wrongInLine 28 = .ok (.iinc 1 1, 3) := by decide +kernel
theorem dX8_wrongInLine_31 : decode cX8_wrongInLine 31 = .ok (.goto (-25), 3) := by decide +kernel
theorem dX8_wrongInLine_34 : decode cX8_wrongInLine 34 = .ok (.aload_n 0, 1) := by decide +kernel
theorem dX8_wrongInLine_35 : decode cX8_wrongInLine 35 = .ok (.getfield 7, 3) := by decide +kernel
theorem dX8_wrongInLine_38 : decode cX8_wrongInLine 38 = .ok (.sipush 2632, 3) := by decide +kernel
theorem dX8_wrongInLine_41 : decode cX8_wrongInLine 41 = .ok (.iaload, 1) := by decide +kernel
theorem dX8_wrongInLine_42 : decode cX8_wrongInLine 42 = .ok (.aload_n 0, 1) := by decide +kernel
theorem dX8_wrongInLine_43 : decode cX8_wrongInLine 43 = .ok (.getfield 7, 3) := by decide +kernel
theorem dX8_wrongInLine_46 : decode cX8_wrongInLine 46 = .ok (.iconst 4, 1) := by decide +kernel
theorem dX8_wrongInLine_47 : decode cX8_wrongInLine 47 = .ok (.iaload, 1) := by decide +kernel
theorem dX8_wrongInLine_48 : decode cX8_wrongInLine 48 = .ok (.isub, 1) := by decide +kernel
theorem dX8_wrongInLine_49 : decode cX8_wrongInLine 49 = .ok (.ireturn, 1) := by decide +kernel
theorem dX8_order_0 : decode cX8_order 0 = .ok (.iload_n 1, 1) := by decide +kernel
theorem dX8_order_1 : decode cX8_order 1 = .ok (.invokestatic 80, 3) := by decide +kernel
theorem dX8_order_4 : decode cX8_order 4 = .ok (.ifCond .ne 5, 3) := by decide +kernel
theorem dX8_order_7 : decode cX8_order 7 = .ok (.iconst (-1), 1) := by decide +kernel
theorem dX8_order_8 : decode cX8_order 8 = .ok (.ireturn, 1) := by decide +kernel
theorem dX8_order_9 : decode cX8_order 9 = .ok (.aload_n 0, 1) := by decide +kernel
theorem dX8_order_10 : decode cX8_order 10 = .ok (.getfield 157, 3) := by decide +kernel
theorem dX8_order_13 : decode cX8_order 13 = .ok (.ifCond .ne 6, 3) := by decide +kernel
theorem dX8_order_16 : decode cX8_order 16 = .ok (.bipush (-4), 2) := by decide +kernel
theorem dX8_order_18 : decode cX8_order 18 = .ok (.ireturn, 1) := by decide +kernel
theorem dX8_order_19 : decode cX8_order 19 = .ok (.sipush 999, 3) := by decide +kernel
theorem dX8_order_22 : decode cX8_order 22 = .ok (.istore_n 2, 1) := by decide +kernel
theorem dX8_order_23 : decode cX8_order 23 = .ok (.aload_n 0, 1) := by decide +kernel
theorem dX8_order_24 : decode cX8_order 24 = .ok (.invokevirtual 259, 3) := by decide +kernel
theorem dX8_order_27 : decode cX8_order 27 = .ok (.iconst 1, 1) := by decide +kernel
theorem dX8_order_28 : decode cX8_order 28 = .ok (.istore_n 3, 1) := by decide +kernel
theorem dX8_order_29 : decode cX8_order 29 = .ok (.iload_n 3, 1) := by decide +kernel
theorem dX8_order_30 : decode cX8_order 30 = .ok (.ifCond .eq 72, 3) := by decide +kernel
theorem dX8_order_33 : decode cX8_order 33 = .ok (.aload_n 0, 1) := by decide +kernel
theorem dX8_order_34 : decode cX8_order 34 = .ok (.invokevirtual 262, 3) := by decide +kernel
theorem dX8_order_37 : decode cX8_order 37 = .ok (.istore 4, 2) := by decide +kernel
theorem dX8_order_39 : decode cX8_order 39 = .ok (.iload 4, 2) := by decide +kernel
theorem dX8_order_41 : decode cX8_order 41 = .ok (.iload_n 2, 1) := by decide +kernel
theorem dX8_order_42 : decode cX8_order 42 = .ok (.if_icmp .ge 52, 3) := by decide +kernel
theorem dX8_order_45 : decode cX8_order 45 = .ok (.iload 4, 2) := by decide +kernel
theorem dX8_order_47 : decode cX8_order 47 = .ok (.istore_n 2, 1) := by decide +kernel
theorem dX8_order_48 : decode cX8_order 48 = .ok (.aload_n 0, 1) := by decide +kernel
theorem dX8_order_49 : decode cX8_order 49 = .ok (.iload_n 1, 1) := by decide +kernel
theorem dX8_order_50 : decode cX8_order 50 = .ok (.aload_n 0, 1) := by decide +kernel
theorem dX8_order_51 : decode cX8_order 51 = .ok (.getfield 250, 3) := by decide +kernel
theorem dX8_order_54 : decode cX8_order 54 = .ok (.invokevirtual 88, 3) := by decide +kernel
theorem dX8_order_57 : decode cX8_order 57 = .ok (.iconst 0, 1) := by decide +kernel
theorem dX8_order_58 : decode cX8_order 58 = .ok (.istore 5, 2) := by decide +kernel
theorem dX8_order_60 : decode cX8_order 60 = .ok (.iload 5, 2) := by decide +kernel
theorem dX8_order_62 : decode cX8_order 62 = .ok (.aload_n 0, 1) := by decide +kernel
theorem dX8_order_63 : decode cX8_order 63 = .ok (.getfield 250, 3) := by decide +kernel
theorem dX8_order_66 : decode cX8_order 66 = .ok (.if_icmp .ge 28, 3) := by decide +kernel
theorem dX8_order_69 : decode cX8_order 69 = .ok (.aload_n 0, 1) := by decide +kernel
theorem dX8_order_70 : decode cX8_order 70 = .ok (.getfield 28, 3) := by decide +kernel
theorem dX8_order_73 : decode cX8_order 73 = .ok (.bipush 40, 2) := by decide +kernel
theorem dX8_order_75 : decode cX8_order 75 = .ok (.iload_n 1, 1) := by decide +kernel
theorem dX8_order_76 : decode cX8_order 76 = .ok (.imul, 1) := by decide +kernel
theorem dX8_order_77 : decode cX8_order 77 = .ok (.iload 5, 2) := by decide +kernel
theorem dX8_order_79 : decode cX8_order 79 = .ok (.iadd, 1) := by decide +kernel
theorem dX8_order_80 : decode cX8_order 80 = .ok (.aload_n 0, 1) := by decide +kernel
theorem dX8_order_81 : decode cX8_order 81 = .ok (.getfield 50, 3) := by decide +kernel
theorem dX8_order_84 : decode cX8_order 84 = .ok (.iload 5, 2) := by decide +kernel
theorem dX8_order_86 : decode cX8_order 86 = .ok (.iaload, 1) := by decide +kernel
theorem dX8_order_87 : decode cX8_order 87 = .ok (.iastore, 1) := by decide +kernel
theorem dX8_order_88 : decode cX8_order 88 = .ok (.iinc 5 1, 3) := by decide +kernel
theorem dX8_order_91 : decode cX8_order 91 = .ok (.goto (-31), 3) := by decide +kernel
theorem dX8_order_94 : decode cX8_order 94 = .ok (.aload_n 0, 1) := by decide +kernel
theorem dX8_order_95 : decode cX8_order 95 = .ok (.invokevirtual 265, 3) := by decide +kernel
theorem dX8_order_98 : decode cX8_order 98 = .ok (.istore_n 3, 1) := by decide +kernel
theorem dX8_order_99 : decode cX8_order 99 = .ok (.goto (-70), 3) := by decide +kernel
theorem dX8_order_102 : decode cX8_order 102 = .ok (.iload_n 2, 1) := by decide +kernel
theorem dX8_order_103 : decode cX8_order 103 = .ok (.ireturn, 1) := by decide +kernel
theorem dX8_tried_0 : decode cX8_tried 0 = .ok (.iload_n 1, 1) := by decide +kernel
theorem dX8_tried_1 : decode cX8_tried 1 = .ok (.invokestatic 80, 3) := by decide +kernel
theorem dX8_tried_4 : decode cX8_tried 4 = .ok (.ifCond .ne 5, 3) := by decide +kernel
theorem dX8_tried_7 : decode cX8_tried 7 = .ok (.iconst (-1), 1) := by decide +kernel
theorem dX8_tried_8 : decode cX8_tried 8 = .ok (.ireturn, 1) := by decide +kernel
theorem dX8_tried_9 : decode cX8_tried 9 = .ok (.aload_n 0, 1) := by decide +kernel
theorem dX8_tried_10 : decode cX8_tried 10 = .ok (.getfield 157, 3) := by decide +kernel
theorem dX8_tried_13 : decode cX8_tried 13 = .ok (.ifCond .ne 6, 3) := by decide +kernel
theorem dX8_tried_16 : decode cX8_tried 16 = .ok (.bipush (-4), 2) := by decide +kernel
theorem dX8_tried_18 : decode cX8_tried 18 = .ok (.ireturn, 1) := by decide +kernel
theorem dX8_tried_19 : decode cX8_tried 19 = .ok (.aload_n 0, 1) := by decide +kernel
theorem dX8_tried_20 : decode cX8_tried 20 = .ok (.getfield 25, 3) := by decide +kernel
theorem dX8_tried_23 : decode cX8_tried 23 = .ok (.iload_n 1, 1) := by decide +kernel
theorem dX8_tried_24 : decode cX8_tried 24 = .ok (.iaload, 1) := by decide +kernel
theorem dX8_tried_25 : decode cX8_tried 25 = .ok (.ifCond .ge 9, 3) := by decide +kernel
theorem dX8_tried_28 : decode cX8_tried 28 = .ok (.aload_n 0, 1) := by decide +kernel
theorem dX8_tried_29 : decode cX8_tried 29 = .ok (.iconst 1, 1) := by decide +kernel
theorem dX8_tried_30 : decode cX8_tried 30 = .ok (.invokevirtual 84, 3) := by decide +kernel
theorem dX8_tried_33 : decode cX8_tried 33 = .ok (.ireturn, 1) := by decide +kernel
theorem dX8_tried_34 : decode cX8_tried 34 = .ok (.aload_n 0, 1) := by decide +kernel
theorem dX8_tried_35 : decode cX8_tried 35 = .ok (.getfield 25, 3) := by decide +kernel
theorem dX8_tried_38 : decode cX8_tried 38 = .ok (.iload_n 1, 1) := by decide +kernel
theorem dX8_tried_39 : decode cX8_tried 39 = .ok (.iaload, 1) := by decide +kernel
theorem dX8_tried_40 : decode cX8_tried 40 = .ok (.bipush 6, 2) := by decide +kernel
theorem dX8_tried_42 : decode cX8_tried 42 = .ok (.if_icmp .le 9, 3) := by decide +kernel
theorem dX8_tried_45 : decode cX8_tried 45 = .ok (.aload_n 0, 1) := by decide +kernel
theorem dX8_tried_46 : decode cX8_tried 46 = .ok (.iconst 5, 1) := by decide +kernel
theorem dX8_tried_47 : decode cX8_tried 47 = .ok (.invokevirtual 84, 3) := by decide +kernel
theorem dX8_tried_50 : decode cX8_tried 50 = .ok (.ireturn, 1) := by decide +kernel
theorem dX8_tried_51 : decode cX8_tried 51 = .ok (.aload_n 0, 1) := by decide +kernel
theorem dX8_tried_52 : decode cX8_tried 52 = .ok (.getfield 7, 3) := by decide +kernel
theorem dX8_tried_55 : decode cX8_tried 55 = .ok (.iconst 2, 1) := by decide +kernel
theorem dX8_tried_56 : decode cX8_tried 56 = .ok (.iaload, 1) := by decide +kernel
theorem dX8_tried_57 : decode cX8_tried 57 = .ok (.istore_n 2, 1) := by decide +kernel
theorem dX8_tried_58 : decode cX8_tried 58 = .ok (.iconst 0, 1) := by decide +kernel
theorem dX8_tried_59 : decode cX8_tried 59 = .ok (.istore_n 3, 1) := by decide +kernel
theorem dX8_tried_60 : decode cX8_tried 60 = .ok (.iload_n 3, 1) := by decide +kernel
theorem dX8_tried_61 : decode cX8_tried 61 = .ok (.aload_n 0, 1) := by decide +kernel
theorem dX8_tried_62 : decode cX8_tried 62 = .ok (.getfield 25, 3) := by decide +kernel
theorem dX8_tried_65 : decode cX8_tried 65 = .ok (.iload_n 1, 1) := by decide +kernel
theorem dX8_tried_66 : decode cX8_tried 66 = .ok (.iaload, 1) := by decide +kernel
theorem dX8_tried_67 : decode cX8_tried 67 = .ok (.if_icmp .ge 61, 3) := by decide +kernel
theorem dX8_tried_70 : decode cX8_tried 70 = .ok (.aload_n 0, 1) := by decide +kernel
theorem dX8_tried_71 : decode cX8_tried 71 = .ok (.getfield 28, 3) := by decide +kernel
theorem dX8_tried_74 : decode cX8_tried 74 = .ok (.bipush 40, 2) := by decide +kernel
theorem dX8_tried_76 : decode cX8_tried 76 = .ok (.iload_n 1, 1) := by decide +kernel
theorem dX8_tried_77 : decode cX8_tried 77 = .ok (.imul, 1) := by decide +kernel
theorem dX8_tried_78 : decode cX8_tried 78 = .ok (.iload_n 3, 1) := by decide +kernel
theorem dX8_tried_79 : decode cX8_tried 79 = .ok (.iadd, 1) := by decide +kernel
theorem dX8_tried_80 : decode cX8_tried 80 = .ok (.iaload, 1) := by decide +kernel
theorem dX8_tried_81 : decode cX8_tried 81 = .ok (.istore 4, 2) := by decide +kernel
theorem dX8_tried_83 : decode cX8_tried 83 = .ok (.aload_n 0, 1) := by decide +kernel
theorem dX8_tried_84 : decode cX8_tried 84 = .ok (.iload 4, 2) := by decide +kernel
theorem dX8_tried_86 : decode cX8_tried 86 = .ok (.invokevirtual 191, 3) := by decide +kernel
theorem dX8_tried_89 : decode cX8_tried 89 = .ok (.ifCond .eq 12, 3) := by decide +kernel
theorem dX8_tried_92 : decode cX8_tried 92 = .ok (.iload_n 2, 1) := by decide +kernel
theorem dX8_tried_93 : decode cX8_tried 93 = .ok (.iload 4, 2) := by decide +kernel
theorem dX8_tried_95 : decode cX8_tried 95 = .ok (.invokestatic 216, 3) := by decide +kernel
theorem dX8_tried_98 : decode cX8_tried 98 = .ok (.ifCond .eq 9, 3) := by decide +kernel
theorem dX8_tried_101 : decode cX8_tried 101 = .ok (.aload_n 0, 1) := by decide +kernel
theorem dX8_tried_102 : decode cX8_tried 102 = .ok (.iconst 3, 1) := by decide +kernel
theorem dX8_tried_103 : decode cX8_tried 103 = .ok (.invokevirtual 84, 3) := by decide +kernel
theorem dX8_tried_106 : decode cX8_tried 106 = .ok (.ireturn, 1) := by decide +kernel
theorem dX8_tried_107 : decode cX8_tried 107 = .ok (.iload_n 2, 1) := by decide +kernel
theorem dX8_tried_108 : decode cX8_tried 108 = .ok (.iconst 1, 1) := by decide +kernel
theorem dX8_tried_109 : decode cX8_tried 109 = .ok (.iload 4, 2) := by decide +kernel
theorem dX8_tried_111 : decode cX8_tried 111 = .ok (.ishl, 1) := by decide +kernel
theorem dX8_tried_112 : decode cX8_tried 112 = .ok (.ior, 1) := by decide +kernel
theorem dX8_tried_113 : decode cX8_tried 113 = .ok (.istore_n 2, 1) := by decide +kernel
theorem dX8_tried_114 : decode cX8_tried 114 = .ok (.aload_n 0, 1) := by decide +kernel
theorem dX8_tried_115 : decode cX8_tried 115 = .ok (.getfield 50, 3) := by decide +kernel
theorem dX8_tried_118 : decode cX8_tried 118 = .ok (.iload_n 3, 1) := by decide +kernel
theorem dX8_tried_119 : decode cX8_tried 119 = .ok (.iload 4, 2) := by decide +kernel
theorem dX8_tried_121 : decode cX8_tried 121 = .ok (.iastore, 1) := by decide +kernel
theorem dX8_tried_122 : decode cX8_tried 122 = .ok (.iinc 3 1, 3) := by decide +kernel
theorem dX8_tried_125 : decode cX8_tried 125 = .ok (.goto (-65), 3) := by decide +kernel
theorem dX8_tried_128 : decode cX8_tried 128 = .ok (.aload_n 0, 1) := by decide +kernel
theorem dX8_tried_129 : decode cX8_tried 129 = .ok (.aload_n 0, 1) := by decide +kernel
theorem dX8_tried_130 : decode cX8_tried 130 = .ok (.getfield 25, 3) := by decide +kernel
theorem dX8_tried_133 : decode cX8_tried 133 = .ok (.iload_n 1, 1) := by decide +kernel
theorem dX8_tried_134 : decode cX8_tried 134 = .ok (.iaload, 1) := by decide +kernel
theorem dX8_tried_135 : decode cX8_tried 135 = .ok (.putfield 250, 3) := by decide +kernel
theorem dX8_tried_138 : decode cX8_tried 138 = .ok (.aload_n 0, 1) := by decide +kernel
theorem dX8_tried_139 : decode cX8_tried 139 = .ok (.invokevirtual 262, 3) := by decide +kernel
theorem dX8_tried_142 : decode cX8_tried 142 = .ok (.istore_n 3, 1) := by decide +kernel
theorem dX8_tried_143 : decode cX8_tried 143 = .ok (.aload_n 0, 1) := by decide +kernel
theorem dX8_tried_144 : decode cX8_tried 144 = .ok (.aload_n 0, 1) := by decide +kernel
theorem dX8_tried_145 : decode cX8_tried 145 = .ok (.getfield 7, 3) := by decide +kernel
theorem dX8_tried_148 : decode cX8_tried 148 = .ok (.sipush 2629, 3) := by decide +kernel
theorem dX8_tried_151 : decode cX8_tried 151 = .ok (.iaload, 1) := by decide +kernel
theorem dX8_tried_152 : decode cX8_tried 152 = .ok (.putfield 69, 3) := by decide +kernel
theorem dX8_tried_155 : decode cX8_tried 155 = .ok (.iload_n 3, 1) := by decide +kernel
theorem dX8_tried_156 : decode cX8_tried 156 = .ok (.ireturn, 1) := by decide +kernel
theorem dX8_least_0 : decode cX8_least 0 = .ok (.aload_n 0, 1) := by decide +kernel
theorem dX8_least_1 : decode cX8_least 1 = .ok (.getfield 157, 3) := by decide +kernel
theorem dX8_least_4 : decode cX8_least 4 = .ok (.ifCond .ne 6, 3) := by decide +kernel
theorem dX8_least_7 : decode cX8_least 7 = .ok (.bipush (-4), 2) := by decide +kernel
theorem dX8_least_9 : decode cX8_least 9 = .ok (.ireturn, 1) := by decide +kernel
theorem dX8_least_10 : decode cX8_least 10 = .ok (.iconst 0, 1) := by decide +kernel
theorem dX8_least_11 : decode cX8_least 11 = .ok (.istore_n 1, 1) := by decide +kernel
theorem dX8_least_12 : decode cX8_least 12 = .ok (.iconst 0, 1) := by decide +kernel
theorem dX8_least_13 : decode cX8_least 13 = .ok (.istore_n 2, 1) := by decide +kernel
theorem dX8_least_14 : decode cX8_least 14 = .ok (.iconst 0, 1) := by decide +kernel
theorem dX8_least_15 : decode cX8_least 15 = .ok (.istore_n 3, 1) := by decide +kernel
theorem dX8_least_16 : decode cX8_least 16 = .ok (.iload_n 3, 1) := by decide +kernel
theorem dX8_least_17 : decode cX8_least 17 = .ok (.aload_n 0, 1) := by decide +kernel
theorem dX8_least_18 : decode cX8_least 18 = .ok (.getfield 157, 3) := by decide +kernel
theorem dX8_least_21 : decode cX8_least 21 = .ok (.if_icmp .ge 103, 3) := by decide +kernel
theorem dX8_least_24 : decode cX8_least 24 = .ok (.aload_n 0, 1) := by decide +kernel
theorem dX8_least_25 : decode cX8_least 25 = .ok (.iload_n 3, 1) := by decide +kernel
theorem dX8_least_26 : decode cX8_least 26 = .ok (.invokevirtual 219, 3) := by decide +kernel
theorem dX8_least_29 : decode cX8_least 29 = .ok (.ifCond .ne 89, 3) := by decide +kernel
theorem dX8_least_32 : decode cX8_least 32 = .ok (.aload_n 0, 1) := by decide +kernel
theorem dX8_least_33 : decode cX8_least 33 = .ok (.getfield 16, 3) := by decide +kernel
theorem dX8_least_36 : decode cX8_least 36 = .ok (.iload_n 3, 1) := by decide +kernel
theorem dX8_least_37 : decode cX8_least 37 = .ok (.iaload, 1) := by decide +kernel
theorem dX8_least_38 : decode cX8_least 38 = .ok (.ifCond .ne 80, 3) := by decide +kernel
theorem dX8_least_41 : decode cX8_least 41 = .ok (.aload_n 0, 1) := by decide +kernel
theorem dX8_least_42 : decode cX8_least 42 = .ok (.iload_n 3, 1) := by decide +kernel
theorem dX8_least_43 : decode cX8_least 43 = .ok (.aload_n 0, 1) := by decide +kernel
theorem dX8_least_44 : decode cX8_least 44 = .ok (.getfield 7, 3) := by decide +kernel
theorem dX8_least_47 : decode cX8_least 47 = .ok (.iconst 1, 1) := by decide +kernel
theorem dX8_least_48 : decode cX8_least 48 = .ok (.iaload, 1) := by decide +kernel
theorem dX8_least_49 : decode cX8_least 49 = .ok (.invokevirtual 185, 3) := by decide +kernel
theorem dX8_least_52 : decode cX8_least 52 = .ok (.ifCond .eq 66, 3) := by decide +kernel
theorem dX8_least_55 : decode cX8_least 55 = .ok (.aload_n 0, 1) := by decide +kernel
