theorem dX7_mark_159 : decode cX7_mark 159 = .ok (.invokevirtual 163, 3) := by decide +kernel
theorem dX7_mark_162 : decode cX7_mark 162 = .ok (.isub, 1) := by decide +kernel
theorem dX7_mark_163 : decode cX7_mark 163 = .ok (.ireturn, 1) := by decide +kernel
theorem dX7_heat_0 : decode cX7_heat 0 = .ok (.iload_n 1, 1) := by decide +kernel
theorem dX7_heat_1 : decode cX7_heat 1 = .ok (.ifCond .eq 14, 3) := by decide +kernel
theorem dX7_heat_4 : decode cX7_heat 4 = .ok (.iload_n 1, 1) := by decide +kernel
theorem dX7_heat_5 : decode cX7_heat 5 = .ok (.bipush (-5), 2) := by decide +kernel
theorem dX7_heat_7 : decode cX7_heat 7 = .ok (.if_icmp .lt 8, 3) := by decide +kernel
theorem dX7_heat_10 : decode cX7_heat 10 = .ok (.iload_n 1, 1) := by decide +kernel
theorem dX7_heat_11 : decode cX7_heat 11 = .ok (.iconst 5, 1) := by decide +kernel
theorem dX7_heat_12 : decode cX7_heat 12 = .ok (.if_icmp .le 5, 3) := by decide +kernel
theorem dX7_heat_15 : decode cX7_heat 15 = .ok (.iconst (-1), 1) := by decide +kernel
theorem dX7_heat_16 : decode cX7_heat 16 = .ok (.ireturn, 1) := by decide +kernel
theorem dX7_heat_17 : decode cX7_heat 17 = .ok (.aload_n 0, 1) := by decide +kernel
theorem dX7_heat_18 : decode cX7_heat 18 = .ok (.getfield 28, 3) := by decide +kernel
theorem dX7_heat_21 : decode cX7_heat 21 = .ok (.getfield 121, 3) := by decide +kernel
theorem dX7_heat_24 : decode cX7_heat 24 = .ok (.ifCond .ne 6, 3) := by decide +kernel
theorem dX7_heat_27 : decode cX7_heat 27 = .ok (.bipush (-4), 2) := by decide +kernel
theorem dX7_heat_29 : decode cX7_heat 29 = .ok (.ireturn, 1) := by decide +kernel
theorem dX7_heat_30 : decode cX7_heat 30 = .ok (.aload_n 0, 1) := by decide +kernel
theorem dX7_heat_31 : decode cX7_heat 31 = .ok (.getfield 28, 3) := by decide +kernel
theorem dX7_heat_34 : decode cX7_heat 34 = .ok (.getfield 166, 3) := by decide +kernel
theorem dX7_heat_37 : decode cX7_heat 37 = .ok (.iconst 1, 1) := by decide +kernel
theorem dX7_heat_38 : decode cX7_heat 38 = .ok (.invokevirtual 170, 3) := by decide +kernel
theorem dX7_heat_41 : decode cX7_heat 41 = .ok (.ifCond .ne 6, 3) := by decide +kernel
theorem dX7_heat_44 : decode cX7_heat 44 = .ok (.bipush (-2), 2) := by decide +kernel
theorem dX7_heat_46 : decode cX7_heat 46 = .ok (.ireturn, 1) := by decide +kernel
theorem dX7_heat_47 : decode cX7_heat 47 = .ok (.aload_n 0, 1) := by decide +kernel
theorem dX7_heat_48 : decode cX7_heat 48 = .ok (.getfield 28, 3) := by decide +kernel
theorem dX7_heat_51 : decode cX7_heat 51 = .ok (.iconst 0, 1) := by decide +kernel
theorem dX7_heat_52 : decode cX7_heat 52 = .ok (.iload_n 1, 1) := by decide +kernel
theorem dX7_heat_53 : decode cX7_heat 53 = .ok (.invokevirtual 173, 3) := by decide +kernel
theorem dX7_heat_56 : decode cX7_heat 56 = .ok (.aload_n 0, 1) := by decide +kernel
theorem dX7_heat_57 : decode cX7_heat 57 = .ok (.getfield 28, 3) := by decide +kernel
theorem dX7_heat_60 : decode cX7_heat 60 = .ok (.getfield 151, 3) := by decide +kernel
theorem dX7_heat_63 : decode cX7_heat 63 = .ok (.ireturn, 1) := by decide +kernel
theorem dX7_salve_0 : decode cX7_salve 0 = .ok (.aload_n 0, 1) := by decide +kernel
theorem dX7_salve_1 : decode cX7_salve 1 = .ok (.iload_n 1, 1) := by decide +kernel
theorem dX7_salve_2 : decode cX7_salve 2 = .ok (.invokevirtual 122, 3) := by decide +kernel
theorem dX7_salve_5 : decode cX7_salve 5 = .ok (.ifCond .ne 5, 3) := by decide +kernel
theorem dX7_salve_8 : decode cX7_salve 8 = .ok (.iconst (-1), 1) := by decide +kernel
theorem dX7_salve_9 : decode cX7_salve 9 = .ok (.ireturn, 1) := by decide +kernel
theorem dX7_salve_10 : decode cX7_salve 10 = .ok (.aload_n 0, 1) := by decide +kernel
theorem dX7_salve_11 : decode cX7_salve 11 = .ok (.getfield 28, 3) := by decide +kernel
theorem dX7_salve_14 : decode cX7_salve 14 = .ok (.getfield 126, 3) := by decide +kernel
theorem dX7_salve_17 : decode cX7_salve 17 = .ok (.iload_n 1, 1) := by decide +kernel
theorem dX7_salve_18 : decode cX7_salve 18 = .ok (.aaload, 1) := by decide +kernel
theorem dX7_salve_19 : decode cX7_salve 19 = .ok (.astore_n 2, 1) := by decide +kernel
theorem dX7_salve_20 : decode cX7_salve 20 = .ok (.aload_n 2, 1) := by decide +kernel
theorem dX7_salve_21 : decode cX7_salve 21 = .ok (.getfield 177, 3) := by decide +kernel
theorem dX7_salve_24 : decode cX7_salve 24 = .ok (.iconst 3, 1) := by decide +kernel
theorem dX7_salve_25 : decode cX7_salve 25 = .ok (.if_icmp .ge 10, 3) := by decide +kernel
theorem dX7_salve_28 : decode cX7_salve 28 = .ok (.aload_n 2, 1) := by decide +kernel
theorem dX7_salve_29 : decode cX7_salve 29 = .ok (.invokevirtual 180, 3) := by decide +kernel
theorem dX7_salve_32 : decode cX7_salve 32 = .ok (.ifCond .eq 6, 3) := by decide +kernel
theorem dX7_salve_35 : decode cX7_salve 35 = .ok (.bipush (-4), 2) := by decide +kernel
theorem dX7_salve_37 : decode cX7_salve 37 = .ok (.ireturn, 1) := by decide +kernel
theorem dX7_salve_38 : decode cX7_salve 38 = .ok (.aload_n 0, 1) := by decide +kernel
theorem dX7_salve_39 : decode cX7_salve 39 = .ok (.getfield 28, 3) := by decide +kernel
theorem dX7_salve_42 : decode cX7_salve 42 = .ok (.getfield 166, 3) := by decide +kernel
theorem dX7_salve_45 : decode cX7_salve 45 = .ok (.iconst 1, 1) := by decide +kernel
theorem dX7_salve_46 : decode cX7_salve 46 = .ok (.invokevirtual 170, 3) := by decide +kernel
theorem dX7_salve_49 : decode cX7_salve 49 = .ok (.ifCond .ne 6, 3) := by decide +kernel
theorem dX7_salve_52 : decode cX7_salve 52 = .ok (.bipush (-2), 2) := by decide +kernel
theorem dX7_salve_54 : decode cX7_salve 54 = .ok (.ireturn, 1) := by decide +kernel
theorem dX7_salve_55 : decode cX7_salve 55 = .ok (.aload_n 0, 1) := by decide +kernel
theorem dX7_salve_56 : decode cX7_salve 56 = .ok (.getfield 28, 3) := by decide +kernel
theorem dX7_salve_59 : decode cX7_salve 59 = .ok (.iconst 1, 1) := by decide +kernel
theorem dX7_salve_60 : decode cX7_salve 60 = .ok (.iload_n 1, 1) := by decide +kernel
theorem dX7_salve_61 : decode cX7_salve 61 = .ok (.invokevirtual 173, 3) := by decide +kernel
theorem dX7_salve_64 : decode cX7_salve 64 = .ok (.aload_n 2, 1) := by decide +kernel
theorem dX7_salve_65 : decode cX7_salve 65 = .ok (.getfield 177, 3) := by decide +kernel
theorem dX7_salve_68 : decode cX7_salve 68 = .ok (.ireturn, 1) := by decide +kernel
theorem dX7_trial_0 : decode cX7_trial 0 = .ok (.aload_n 0, 1) := by decide +kernel
theorem dX7_trial_1 : decode cX7_trial 1 = .ok (.iload_n 1, 1) := by decide +kernel
theorem dX7_trial_2 : decode cX7_trial 2 = .ok (.invokevirtual 122, 3) := by decide +kernel
theorem dX7_trial_5 : decode cX7_trial 5 = .ok (.ifCond .ne 5, 3) := by decide +kernel
theorem dX7_trial_8 : decode cX7_trial 8 = .ok (.iconst (-1), 1) := by decide +kernel
theorem dX7_trial_9 : decode cX7_trial 9 = .ok (.ireturn, 1) := by decide +kernel
theorem dX7_trial_10 : decode cX7_trial 10 = .ok (.aload_n 0, 1) := by decide +kernel
theorem dX7_trial_11 : decode cX7_trial 11 = .ok (.getfield 28, 3) := by decide +kernel
theorem dX7_trial_14 : decode cX7_trial 14 = .ok (.getfield 126, 3) := by decide +kernel
theorem dX7_trial_17 : decode cX7_trial 17 = .ok (.iload_n 1, 1) := by decide +kernel
theorem dX7_trial_18 : decode cX7_trial 18 = .ok (.aaload, 1) := by decide +kernel
theorem dX7_trial_19 : decode cX7_trial 19 = .ok (.astore_n 2, 1) := by decide +kernel
theorem dX7_trial_20 : decode cX7_trial 20 = .ok (.aload_n 2, 1) := by decide +kernel
theorem dX7_trial_21 : decode cX7_trial 21 = .ok (.invokevirtual 180, 3) := by decide +kernel
theorem dX7_trial_24 : decode cX7_trial 24 = .ok (.ifCond .eq 6, 3) := by decide +kernel
theorem dX7_trial_27 : decode cX7_trial 27 = .ok (.bipush (-4), 2) := by decide +kernel
theorem dX7_trial_29 : decode cX7_trial 29 = .ok (.ireturn, 1) := by decide +kernel
theorem dX7_trial_30 : decode cX7_trial 30 = .ok (.aload_n 0, 1) := by decide +kernel
theorem dX7_trial_31 : decode cX7_trial 31 = .ok (.getfield 28, 3) := by decide +kernel
theorem dX7_trial_34 : decode cX7_trial 34 = .ok (.getfield 166, 3) := by decide +kernel
theorem dX7_trial_37 : decode cX7_trial 37 = .ok (.iconst 1, 1) := by decide +kernel
theorem dX7_trial_38 : decode cX7_trial 38 = .ok (.invokevirtual 170, 3) := by decide +kernel
theorem dX7_trial_41 : decode cX7_trial 41 = .ok (.ifCond .ne 6, 3) := by decide +kernel
theorem dX7_trial_44 : decode cX7_trial 44 = .ok (.bipush (-2), 2) := by decide +kernel
theorem dX7_trial_46 : decode cX7_trial 46 = .ok (.ireturn, 1) := by decide +kernel
theorem dX7_trial_47 : decode cX7_trial 47 = .ok (.aload_n 0, 1) := by decide +kernel
theorem dX7_trial_48 : decode cX7_trial 48 = .ok (.getfield 28, 3) := by decide +kernel
theorem dX7_trial_51 : decode cX7_trial 51 = .ok (.iconst 2, 1) := by decide +kernel
theorem dX7_trial_52 : decode cX7_trial 52 = .ok (.iload_n 1, 1) := by decide +kernel
theorem dX7_trial_53 : decode cX7_trial 53 = .ok (.invokevirtual 173, 3) := by decide +kernel
theorem dX7_trial_56 : decode cX7_trial 56 = .ok (.aload_n 0, 1) := by decide +kernel
theorem dX7_trial_57 : decode cX7_trial 57 = .ok (.aload_n 2, 1) := by decide +kernel
theorem dX7_trial_58 : decode cX7_trial 58 = .ok (.getfield 183, 3) := by decide +kernel
theorem dX7_trial_61 : decode cX7_trial 61 = .ok (.ifCond .eq 7, 3) := by decide +kernel
theorem dX7_trial_64 : decode cX7_trial 64 = .ok (.iconst 1, 1) := by decide +kernel
theorem dX7_trial_65 : decode cX7_trial 65 = .ok (.goto 4, 3) := by decide +kernel
theorem dX7_trial_68 : decode cX7_trial 68 = .ok (.iconst 0, 1) := by decide +kernel
theorem dX7_trial_69 : decode cX7_trial 69 = .ok (.putfield 75, 3) := by decide +kernel
theorem dX7_trial_72 : decode cX7_trial 72 = .ok (.aload_n 2, 1) := by decide +kernel
theorem dX7_trial_73 : decode cX7_trial 73 = .ok (.getfield 187, 3) := by decide +kernel
theorem dX7_trial_76 : decode cX7_trial 76 = .ok (.ireturn, 1) := by decide +kernel
theorem dX7_undo_0 : decode cX7_undo 0 = .ok (.iload_n 1, 1) := by decide +kernel
theorem dX7_undo_1 : decode cX7_undo 1 = .ok (.ifCond .lt 17, 3) := by decide +kernel
theorem dX7_undo_4 : decode cX7_undo 4 = .ok (.iload_n 1, 1) := by decide +kernel
theorem dX7_undo_5 : decode cX7_undo 5 = .ok (.aload_n 0, 1) := by decide +kernel
theorem dX7_undo_6 : decode cX7_undo 6 = .ok (.getfield 28, 3) := by decide +kernel
theorem dX7_undo_9 : decode cX7_undo 9 = .ok (.getfield 166, 3) := by decide +kernel
theorem dX7_undo_12 : decode cX7_undo 12 = .ok (.getfield 120, 3) := by decide +kernel
theorem dX7_undo_15 : decode cX7_undo 15 = .ok (.if_icmp .le 5, 3) := by decide +kernel
theorem dX7_undo_18 : decode cX7_undo 18 = .ok (.iconst (-1), 1) := by decide +kernel
theorem dX7_undo_19 : decode cX7_undo 19 = .ok (.ireturn, 1) := by decide +kernel
theorem dX7_undo_20 : decode cX7_undo 20 = .ok (.aload_n 0, 1) := by decide +kernel
theorem dX7_undo_21 : decode cX7_undo 21 = .ok (.getfield 28, 3) := by decide +kernel
theorem dX7_undo_24 : decode cX7_undo 24 = .ok (.getfield 166, 3) := by decide +kernel
theorem dX7_undo_27 : decode cX7_undo 27 = .ok (.getfield 120, 3) := by decide +kernel
theorem dX7_undo_30 : decode cX7_undo 30 = .ok (.iload_n 1, 1) := by decide +kernel
theorem dX7_undo_31 : decode cX7_undo 31 = .ok (.isub, 1) := by decide +kernel
theorem dX7_undo_32 : decode cX7_undo 32 = .ok (.istore_n 2, 1) := by decide +kernel
theorem dX7_undo_33 : decode cX7_undo 33 = .ok (.aload_n 0, 1) := by decide +kernel
theorem dX7_undo_34 : decode cX7_undo 34 = .ok (.getfield 28, 3) := by decide +kernel
theorem dX7_undo_37 : decode cX7_undo 37 = .ok (.getfield 166, 3) := by decide +kernel
theorem dX7_undo_40 : decode cX7_undo 40 = .ok (.iload_n 1, 1) := by decide +kernel
theorem dX7_undo_41 : decode cX7_undo 41 = .ok (.putfield 120, 3) := by decide +kernel
theorem dX7_undo_44 : decode cX7_undo 44 = .ok (.aload_n 0, 1) := by decide +kernel
theorem dX7_undo_45 : decode cX7_undo 45 = .ok (.getfield 28, 3) := by decide +kernel
theorem dX7_undo_48 : decode cX7_undo 48 = .ok (.invokevirtual 190, 3) := by decide +kernel
theorem dX7_undo_51 : decode cX7_undo 51 = .ok (.iload_n 2, 1) := by decide +kernel
theorem dX7_undo_52 : decode cX7_undo 52 = .ok (.ireturn, 1) := by decide +kernel
theorem dX7_keep_0 : decode cX7_keep 0 = .ok (.iload_n 1, 1) := by decide +kernel
theorem dX7_keep_1 : decode cX7_keep 1 = .ok (.invokestatic 193, 3) := by decide +kernel
theorem dX7_keep_4 : decode cX7_keep 4 = .ok (.ifCond .ne 5, 3) := by decide +kernel
theorem dX7_keep_7 : decode cX7_keep 7 = .ok (.iconst (-1), 1) := by decide +kernel
theorem dX7_keep_8 : decode cX7_keep 8 = .ok (.ireturn, 1) := by decide +kernel
theorem dX7_keep_9 : decode cX7_keep 9 = .ok (.aload_n 0, 1) := by decide +kernel
theorem dX7_keep_10 : decode cX7_keep 10 = .ok (.getfield 28, 3) := by decide +kernel
theorem dX7_keep_13 : decode cX7_keep 13 = .ok (.getfield 121, 3) := by decide +kernel
theorem dX7_keep_16 : decode cX7_keep 16 = .ok (.ifCond .ne 6, 3) := by decide +kernel
theorem dX7_keep_19 : decode cX7_keep 19 = .ok (.bipush (-4), 2) := by decide +kernel
theorem dX7_keep_21 : decode cX7_keep 21 = .ok (.ireturn, 1) := by decide +kernel
theorem dX7_keep_22 : decode cX7_keep 22 = .ok (.aload_n 0, 1) := by decide +kernel
theorem dX7_keep_23 : decode cX7_keep 23 = .ok (.getfield 34, 3) := by decide +kernel
theorem dX7_keep_26 : decode cX7_keep 26 = .ok (.iload_n 1, 1) := by decide +kernel
theorem dX7_keep_27 : decode cX7_keep 27 = .ok (.aaload, 1) := by decide +kernel
theorem dX7_keep_28 : decode cX7_keep 28 = .ok (.aload_n 0, 1) := by decide +kernel
theorem dX7_keep_29 : decode cX7_keep 29 = .ok (.getfield 28, 3) := by decide +kernel
theorem dX7_keep_32 : decode cX7_keep 32 = .ok (.getfield 166, 3) := by decide +kernel
theorem dX7_keep_35 : decode cX7_keep 35 = .ok (.invokevirtual 196, 3) := by decide +kernel
theorem dX7_keep_38 : decode cX7_keep 38 = .ok (.aload_n 0, 1) := by decide +kernel
theorem dX7_keep_39 : decode cX7_keep 39 = .ok (.getfield 28, 3) := by decide +kernel
theorem dX7_keep_42 : decode cX7_keep 42 = .ok (.getfield 166, 3) := by decide +kernel
theorem dX7_keep_45 : decode cX7_keep 45 = .ok (.getfield 120, 3) := by decide +kernel
theorem dX7_keep_48 : decode cX7_keep 48 = .ok (.ireturn, 1) := by decide +kernel
theorem dX7_on_0 : decode cX7_on 0 = .ok (.iload_n 1, 1) := by decide +kernel
theorem dX7_on_1 : decode cX7_on 1 = .ok (.invokestatic 193, 3) := by decide +kernel
theorem dX7_on_4 : decode cX7_on 4 = .ok (.ifCond .ne 5, 3) := by decide +kernel
theorem dX7_on_7 : decode cX7_on 7 = .ok (.iconst (-1), 1) := by decide +kernel
theorem dX7_on_8 : decode cX7_on 8 = .ok (.ireturn, 1) := by decide +kernel
theorem dX7_on_9 : decode cX7_on 9 = .ok (.aload_n 0, 1) := by decide +kernel
theorem dX7_on_10 : decode cX7_on 10 = .ok (.getfield 34, 3) := by decide +kernel
theorem dX7_on_13 : decode cX7_on 13 = .ok (.iload_n 1, 1) := by decide +kernel
theorem dX7_on_14 : decode cX7_on 14 = .ok (.aaload, 1) := by decide +kernel
theorem dX7_on_15 : decode cX7_on 15 = .ok (.getfield 120, 3) := by decide +kernel
theorem dX7_on_18 : decode cX7_on 18 = .ok (.iconst (-1), 1) := by decide +kernel
theorem dX7_on_19 : decode cX7_on 19 = .ok (.if_icmp .ne 9, 3) := by decide +kernel
theorem dX7_on_22 : decode cX7_on 22 = .ok (.aload_n 0, 1) := by decide +kernel
theorem dX7_on_23 : decode cX7_on 23 = .ok (.iconst 1, 1) := by decide +kernel
theorem dX7_on_24 : decode cX7_on 24 = .ok (.invokevirtual 90, 3) := by decide +kernel
theorem dX7_on_27 : decode cX7_on 27 = .ok (.ireturn, 1) := by decide +kernel
theorem dX7_on_28 : decode cX7_on 28 = .ok (.aload_n 0, 1) := by decide +kernel
theorem dX7_on_29 : decode cX7_on 29 = .ok (.getfield 28, 3) := by decide +kernel
theorem dX7_on_32 : decode cX7_on 32 = .ok (.getfield 166, 3) := by decide +kernel
theorem dX7_on_35 : decode cX7_on 35 = .ok (.aload_n 0, 1) := by decide +kernel
theorem dX7_on_36 : decode cX7_on 36 = .ok (.getfield 34, 3) := by decide +kernel
theorem dX7_on_39 : decode cX7_on 39 = .ok (.iload_n 1, 1) := by decide +kernel
theorem dX7_on_40 : decode cX7_on 40 = .ok (.aaload, 1) := by decide +kernel
theorem dX7_on_41 : decode cX7_on 41 = .ok (.invokevirtual 196, 3) := by decide +kernel
theorem dX7_on_44 : decode cX7_on 44 = .ok (.aload_n 0, 1) := by decide +kernel
theorem dX7_on_45 : decode cX7_on 45 = .ok (.getfield 28, 3) := by decide +kernel
theorem dX7_on_48 : decode cX7_on 48 = .ok (.invokevirtual 190, 3) := by decide +kernel
theorem dX7_on_51 : decode cX7_on 51 = .ok (.aload_n 0, 1) := by decide +kernel
theorem dX7_on_52 : decode cX7_on 52 = .ok (.getfield 28, 3) := by decide +kernel
theorem dX7_on_55 : decode cX7_on 55 = .ok (.getfield 166, 3) := by decide +kernel
theorem dX7_on_58 : decode cX7_on 58 = .ok (.getfield 120, 3) := by decide +kernel
theorem dX7_on_61 : decode cX7_on 61 = .ok (.ireturn, 1) := by decide +kernel
theorem dX7_comes_0 : decode cX7_comes 0 = .ok (.aload_n 0, 1) := by decide +kernel
theorem dX7_comes_1 : decode cX7_comes 1 = .ok (.getfield 28, 3) := by decide +kernel
theorem dX7_comes_4 : decode cX7_comes 4 = .ok (.getfield 121, 3) := by decide +kernel
theorem dX7_comes_7 : decode cX7_comes 7 = .ok (.ifCond .ne 6, 3) := by decide +kernel
theorem dX7_comes_10 : decode cX7_comes 10 = .ok (.bipush (-4), 2) := by decide +kernel
theorem dX7_comes_12 : decode cX7_comes 12 = .ok (.ireturn, 1) := by decide +kernel
theorem dX7_comes_13 : decode cX7_comes 13 = .ok (.iconst 0, 1) := by decide +kernel
theorem dX7_comes_14 : decode cX7_comes 14 = .ok (.istore_n 1, 1) := by decide +kernel
theorem dX7_comes_15 : decode cX7_comes 15 = .ok (.iconst 0, 1) := by decide +kernel
theorem dX7_comes_16 : decode cX7_comes 16 = .ok (.istore_n 2, 1) := by decide +kernel
theorem dX7_comes_17 : decode cX7_comes 17 = .ok (.iconst 0, 1) := by decide +kernel
theorem dX7_comes_18 : decode cX7_comes 18 = .ok (.istore_n 3, 1) := by decide +kernel
theorem dX7_comes_19 : decode cX7_comes 19 = .ok (.iload_n 3, 1) := by decide +kernel
theorem dX7_comes_20 : decode cX7_comes 20 = .ok (.aload_n 0, 1) := by decide +kernel
theorem dX7_comes_21 : decode cX7_comes 21 = .ok (.getfield 28, 3) := by decide +kernel
theorem dX7_comes_24 : decode cX7_comes 24 = .ok (.getfield 121, 3) := by decide +kernel
theorem dX7_comes_27 : decode cX7_comes 27 = .ok (.if_icmp .ge 74, 3) := by decide +kernel
theorem dX7_comes_30 : decode cX7_comes 30 = .ok (.aload_n 0, 1) := by decide +kernel
theorem dX7_comes_31 : decode cX7_comes 31 = .ok (.getfield 28, 3) := by decide +kernel
theorem dX7_comes_34 : decode cX7_comes 34 = .ok (.getfield 126, 3) := by decide +kernel
theorem dX7_comes_37 : decode cX7_comes 37 = .ok (.iload_n 3, 1) := by decide +kernel
theorem dX7_comes_38 : decode cX7_comes 38 = .ok (.aaload, 1) := by decide +kernel
theorem dX7_comes_39 : decode cX7_comes 39 = .ok (.astore 4, 2) := by decide +kernel
theorem dX7_comes_41 : decode cX7_comes 41 = .ok (.aload_n 0, 1) := by decide +kernel
theorem dX7_comes_42 : decode cX7_comes 42 = .ok (.getfield 28, 3) := by decide +kernel
theorem dX7_comes_45 : decode cX7_comes 45 = .ok (.aload 4, 2) := by decide +kernel
theorem dX7_comes_47 : decode cX7_comes 47 = .ok (.aload_n 0, 1) := by decide +kernel
theorem dX7_comes_48 : decode cX7_comes 48 = .ok (.getfield 28, 3) := by decide +kernel
theorem dX7_comes_51 : decode cX7_comes 51 = .ok (.getfield 151, 3) := by decide +kernel
theorem dX7_comes_54 : decode cX7_comes 54 = .ok (.invokevirtual 200, 3) := by decide +kernel
theorem dX7_comes_57 : decode cX7_comes 57 = .ok (.istore 5, 2) := by decide +kernel
theorem dX7_comes_59 : decode cX7_comes 59 = .ok (.aload 4, 2) := by decide +kernel
theorem dX7_comes_61 : decode cX7_comes 61 = .ok (.invokevirtual 180, 3) := by decide +kernel
theorem dX7_comes_64 : decode cX7_comes 64 = .ok (.ifCond .ne 31, 3) := by decide +kernel
theorem dX7_comes_67 : decode cX7_comes 67 = .ok (.iload 5, 2) := by decide +kernel
theorem dX7_comes_69 : decode cX7_comes 69 = .ok (.iconst 2, 1) := by decide +kernel
theorem dX7_comes_70 : decode cX7_comes 70 = .ok (.if_icmp .eq 25, 3) := by decide +kernel
theorem dX7_comes_73 : decode cX7_comes 73 = .ok (.iload_n 1, 1) := by decide +kernel
theorem dX7_comes_74 : decode cX7_comes 74 = .ok (.iconst 1, 1) := by decide +kernel
theorem dX7_comes_75 : decode cX7_comes 75 = .ok (.iload_n 3, 1) := by decide +kernel
theorem dX7_comes_76 : decode cX7_comes 76 = .ok (.ishl, 1) := by decide +kernel
theorem dX7_comes_77 : decode cX7_comes 77 = .ok (.ior, 1) := by decide +kernel
theorem dX7_comes_78 : decode cX7_comes 78 = .ok (.istore_n 1, 1) := by decide +kernel
theorem dX7_comes_79 : decode cX7_comes 79 = .ok (.iload_n 2, 1) := by decide +kernel
theorem dX7_comes_80 : decode cX7_comes 80 = .ok (.iload 5, 2) := by decide +kernel
theorem dX7_comes_82 : decode cX7_comes 82 = .ok (.iconst 1, 1) := by decide +kernel
theorem dX7_comes_83 : decode cX7_comes 83 = .ok (.if_icmp .ne 9, 3) := by decide +kernel
theorem dX7_comes_86 : decode cX7_comes 86 = .ok (.iconst 1, 1) := by decide +kernel
theorem dX7_comes_87 : decode cX7_comes 87 = .ok (.iload_n 3, 1) := by decide +kernel
theorem dX7_comes_88 : decode cX7_comes 88 = .ok (.ishl, 1) := by decide +kernel
theorem dX7_comes_89 : decode cX7_comes 89 = .ok (.goto 4, 3) := by decide +kernel
theorem dX7_comes_92 : decode cX7_comes 92 = .ok (.iconst 0, 1) := by decide +kernel
theorem dX7_comes_93 : decode cX7_comes 93 = .ok (.ior, 1) := by decide +kernel
theorem dX7_comes_94 : decode cX7_comes 94 = .ok (.istore_n 2, 1) := by decide +kernel
theorem dX7_comes_95 : decode cX7_comes 95 = .ok (.iinc 3 1, 3) := by decide +kernel
theorem dX7_comes_98 : decode cX7_comes 98 = .ok (.goto (-79), 3) := by decide +kernel
theorem dX7_comes_101 : decode cX7_comes 101 = .ok (.aload_n 0, 1) := by decide +kernel
theorem dX7_comes_102 : decode cX7_comes 102 = .ok (.iload_n 2, 1) := by decide +kernel
theorem dX7_comes_103 : decode cX7_comes 103 = .ok (.putfield 75, 3) := by decide +kernel
theorem dX7_comes_106 : decode cX7_comes 106 = .ok (.iload_n 1, 1) := by decide +kernel
theorem dX7_comes_107 : decode cX7_comes 107 = .ok (.ireturn, 1) := by decide +kernel
theorem dX7_wrong_0 : decode cX7_wrong 0 = .ok (.aload_n 0, 1) := by decide +kernel
theorem dX7_wrong_1 : decode cX7_wrong 1 = .ok (.iload_n 1, 1) := by decide +kernel
theorem dX7_wrong_2 : decode cX7_wrong 2 = .ok (.invokevirtual 202, 3) := by decide +kernel
theorem dX7_wrong_5 : decode cX7_wrong 5 = .ok (.istore_n 2, 1) := by decide +kernel
theorem dX7_wrong_6 : decode cX7_wrong 6 = .ok (.iload_n 2, 1) := by decide +kernel
theorem dX7_wrong_7 : decode cX7_wrong 7 = .ok (.ifCond .eq 5, 3) := by decide +kernel
theorem dX7_wrong_10 : decode cX7_wrong 10 = .ok (.iload_n 2, 1) := by decide +kernel
theorem dX7_wrong_11 : decode cX7_wrong 11 = .ok (.ireturn, 1) := by decide +kernel
theorem dX7_wrong_12 : decode cX7_wrong 12 = .ok (.aload_n 0, 1) := by decide +kernel
theorem dX7_wrong_13 : decode cX7_wrong 13 = .ok (.aload_n 0, 1) := by decide +kernel
theorem dX7_wrong_14 : decode cX7_wrong 14 = .ok (.getfield 28, 3) := by decide +kernel
theorem dX7_wrong_17 : decode cX7_wrong 17 = .ok (.iload_n 1, 1) := by decide +kernel
theorem dX7_wrong_18 : decode cX7_wrong 18 = .ok (.invokevirtual 205, 3) := by decide +kernel
theorem dX7_wrong_21 : decode cX7_wrong 21 = .ok (.putfield 75, 3) := by decide +kernel
theorem dX7_wrong_24 : decode cX7_wrong 24 = .ok (.aload_n 0, 1) := by decide +kernel
theorem dX7_wrong_25 : decode cX7_wrong 25 = .ok (.getfield 28, 3) := by decide +kernel
theorem dX7_wrong_28 : decode cX7_wrong 28 = .ok (.iload_n 1, 1) := by decide +kernel
theorem dX7_wrong_29 : decode cX7_wrong 29 = .ok (.invokevirtual 208, 3) := by decide +kernel
theorem dX7_wrong_32 : decode cX7_wrong 32 = .ok (.ireturn, 1) := by decide +kernel
theorem dX7_best_0 : decode cX7_best 0 = .ok (.aload_n 0, 1) := by decide +kernel
theorem dX7_best_1 : decode cX7_best 1 = .ok (.getfield 28, 3) := by decide +kernel
theorem dX7_best_4 : decode cX7_best 4 = .ok (.getfield 121, 3) := by decide +kernel
theorem dX7_best_7 : decode cX7_best 7 = .ok (.ifCond .ne 6, 3) := by decide +kernel
theorem dX7_best_10 : decode cX7_best 10 = .ok (.bipush (-4), 2) := by decide +kernel
theorem dX7_best_12 : decode cX7_best 12 = .ok (.ireturn, 1) := by decide +kernel
theorem dX7_best_13 : decode cX7_best 13 = .ok (.iconst 0, 1) := by decide +kernel
theorem dX7_best_14 : decode cX7_best 14 = .ok (.istore_n 1, 1) := by decide +kernel
theorem dX7_best_15 : decode cX7_best 15 = .ok (.aload_n 0, 1) := by decide +kernel
theorem dX7_best_16 : decode cX7_best 16 = .ok (.getfield 28, 3) := by decide +kernel
theorem dX7_best_19 : decode cX7_best 19 = .ok (.iconst 0, 1) := by decide +kernel
theorem dX7_best_20 : decode cX7_best 20 = .ok (.invokevirtual 208, 3) := by decide +kernel
theorem dX7_best_23 : decode cX7_best 23 = .ok (.istore_n 2, 1) := by decide +kernel
theorem dX7_best_24 : decode cX7_best 24 = .ok (.iconst 1, 1) := by decide +kernel
theorem dX7_best_25 : decode cX7_best 25 = .ok (.istore_n 3, 1) := by decide +kernel
theorem dX7_best_26 : decode cX7_best 26 = .ok (.iload_n 3, 1) := by decide +kernel
theorem dX7_best_27 : decode cX7_best 27 = .ok (.bipush 31, 2) := by decide +kernel
theorem dX7_best_29 : decode cX7_best 29 = .ok (.if_icmp .ge 30, 3) := by decide +kernel
theorem dX7_best_32 : decode cX7_best 32 = .ok (.aload_n 0, 1) := by decide +kernel
theorem dX7_best_33 : decode cX7_best 33 = .ok (.getfield 28, 3) := by decide +kernel
theorem dX7_best_36 : decode cX7_best 36 = .ok (.iload_n 3, 1) := by decide +kernel
theorem dX7_best_37 : decode cX7_best 37 = .ok (.invokevirtual 208, 3) := by decide +kernel
theorem dX7_best_40 : decode cX7_best 40 = .ok (.istore 4, 2) := by decide +kernel
theorem dX7_best_42 : decode cX7_best 42 = .ok (.iload 4, 2) := by decide +kernel
theorem dX7_best_44 : decode cX7_best 44 = .ok (.iload_n 2, 1) := by decide +kernel
theorem dX7_best_45 : decode cX7_best 45 = .ok (.if_icmp .ge 8, 3) := by decide +kernel
theorem dX7_best_48 : decode cX7_best 48 = .ok (.iload 4, 2) := by decide +kernel
theorem dX7_best_50 : decode cX7_best 50 = .ok (.istore_n 2, 1) := by decide +kernel
theorem dX7_best_51 : decode cX7_best 51 = .ok (.iload_n 3, 1) := by decide +kernel
theorem dX7_best_52 : decode cX7_best 52 = .ok (.istore_n 1, 1) := by decide +kernel
theorem dX7_best_53 : decode cX7_best 53 = .ok (.iinc 3 1, 3) := by decide +kernel
theorem dX7_best_56 : decode cX7_best 56 = .ok (.goto (-30), 3) := by decide +kernel
theorem dX7_best_59 : decode cX7_best 59 = .ok (.aload_n 0, 1) := by decide +kernel
theorem dX7_best_60 : decode cX7_best 60 = .ok (.iload_n 2, 1) := by decide +kernel
theorem dX7_best_61 : decode cX7_best 61 = .ok (.putfield 75, 3) := by decide +kernel
theorem dX7_best_64 : decode cX7_best 64 = .ok (.iload_n 1, 1) := by decide +kernel
theorem dX7_best_65 : decode cX7_best 65 = .ok (.ireturn, 1) := by decide +kernel
theorem dX7_heats_0 : decode cX7_heats 0 = .ok (.aload_n 0, 1) := by decide +kernel
theorem dX7_heats_1 : decode cX7_heats 1 = .ok (.iload_n 1, 1) := by decide +kernel
theorem dX7_heats_2 : decode cX7_heats 2 = .ok (.invokevirtual 122, 3) := by decide +kernel
theorem dX7_heats_5 : decode cX7_heats 5 = .ok (.ifCond .eq 12, 3) := by decide +kernel
theorem dX7_heats_8 : decode cX7_heats 8 = .ok (.iload_n 2, 1) := by decide +kernel
theorem dX7_heats_9 : decode cX7_heats 9 = .ok (.ifCond .lt 8, 3) := by decide +kernel
theorem dX7_heats_12 : decode cX7_heats 12 = .ok (.iload_n 2, 1) := by decide +kernel
theorem dX7_heats_13 : decode cX7_heats 13 = .ok (.iconst 3, 1) := by decide +kernel
theorem dX7_heats_14 : decode cX7_heats 14 = .ok (.if_icmp .lt 5, 3) := by decide +kernel
theorem dX7_heats_17 : decode cX7_heats 17 = .ok (.iconst (-1), 1) := by decide +kernel
theorem dX7_heats_18 : decode cX7_heats 18 = .ok (.ireturn, 1) := by decide +kernel
theorem dX7_heats_19 : decode cX7_heats 19 = .ok (.aload_n 0, 1) := by decide +kernel
theorem dX7_heats_20 : decode cX7_heats 20 = .ok (.getfield 28, 3) := by decide +kernel
theorem dX7_heats_23 : decode cX7_heats 23 = .ok (.aload_n 0, 1) := by decide +kernel
theorem dX7_heats_24 : decode cX7_heats 24 = .ok (.getfield 28, 3) := by decide +kernel
theorem dX7_heats_27 : decode cX7_heats 27 = .ok (.getfield 126, 3) := by decide +kernel
theorem dX7_heats_30 : decode cX7_heats 30 = .ok (.iload_n 1, 1) := by decide +kernel
theorem dX7_heats_31 : decode cX7_heats 31 = .ok (.aaload, 1) := by decide +kernel
theorem dX7_heats_32 : decode cX7_heats 32 = .ok (.iload_n 2, 1) := by decide +kernel
theorem dX7_heats_33 : decode cX7_heats 33 = .ok (.invokevirtual 211, 3) := by decide +kernel
theorem dX7_heats_36 : decode cX7_heats 36 = .ok (.ireturn, 1) := by decide +kernel
theorem dX7_tells_0 : decode cX7_tells 0 = .ok (.aload_n 0, 1) := by decide +kernel
theorem dX7_tells_1 : decode cX7_tells 1 = .ok (.iload_n 1, 1) := by decide +kernel
theorem dX7_tells_2 : decode cX7_tells 2 = .ok (.invokevirtual 202, 3) := by decide +kernel
theorem dX7_tells_5 : decode cX7_tells 5 = .ok (.istore_n 2, 1) := by decide +kernel
theorem dX7_tells_6 : decode cX7_tells 6 = .ok (.iload_n 2, 1) := by decide +kernel
theorem dX7_tells_7 : decode cX7_tells 7 = .ok (.ifCond .eq 5, 3) := by decide +kernel
theorem dX7_tells_10 : decode cX7_tells 10 = .ok (.iload_n 2, 1) := by decide +kernel
theorem dX7_tells_11 : decode cX7_tells 11 = .ok (.ireturn, 1) := by decide +kernel
theorem dX7_tells_12 : decode cX7_tells 12 = .ok (.iconst 0, 1) := by decide +kernel
theorem dX7_tells_13 : decode cX7_tells 13 = .ok (.istore_n 3, 1) := by decide +kernel
theorem dX7_tells_14 : decode cX7_tells 14 = .ok (.iconst 0, 1) := by decide +kernel
theorem dX7_tells_15 : decode cX7_tells 15 = .ok (.istore 4, 2) := by decide +kernel
theorem dX7_tells_17 : decode cX7_tells 17 = .ok (.iconst 0, 1) := by decide +kernel
theorem dX7_tells_18 : decode cX7_tells 18 = .ok (.istore 5, 2) := by decide +kernel
theorem dX7_tells_20 : decode cX7_tells 20 = .ok (.iload 5, 2) := by decide +kernel
theorem dX7_tells_22 : decode cX7_tells 22 = .ok (.aload_n 0, 1) := by decide +kernel
theorem dX7_tells_23 : decode cX7_tells 23 = .ok (.getfield 28, 3) := by decide +kernel
theorem dX7_tells_26 : decode cX7_tells 26 = .ok (.getfield 121, 3) := by decide +kernel
theorem dX7_tells_29 : decode cX7_tells 29 = .ok (.if_icmp .ge 56, 3) := by decide +kernel
theorem dX7_tells_32 : decode cX7_tells 32 = .ok (.aload_n 0, 1) := by decide +kernel
theorem dX7_tells_33 : decode cX7_tells 33 = .ok (.getfield 28, 3) := by decide +kernel
theorem dX7_tells_36 : decode cX7_tells 36 = .ok (.getfield 126, 3) := by decide +kernel
theorem dX7_tells_39 : decode cX7_tells 39 = .ok (.iload 5, 2) := by decide +kernel
theorem dX7_tells_41 : decode cX7_tells 41 = .ok (.aaload, 1) := by decide +kernel
theorem dX7_tells_42 : decode cX7_tells 42 = .ok (.astore 6, 2) := by decide +kernel
theorem dX7_tells_44 : decode cX7_tells 44 = .ok (.aload 6, 2) := by decide +kernel
theorem dX7_tells_46 : decode cX7_tells 46 = .ok (.invokevirtual 180, 3) := by decide +kernel
theorem dX7_tells_49 : decode cX7_tells 49 = .ok (.ifCond .ne 30, 3) := by decide +kernel
theorem dX7_tells_52 : decode cX7_tells 52 = .ok (.aload_n 0, 1) := by decide +kernel
theorem dX7_tells_53 : decode cX7_tells 53 = .ok (.getfield 28, 3) := by decide +kernel
theorem dX7_tells_56 : decode cX7_tells 56 = .ok (.aload 6, 2) := by decide +kernel
theorem dX7_tells_58 : decode cX7_tells 58 = .ok (.iload_n 1, 1) := by decide +kernel
theorem dX7_tells_59 : decode cX7_tells 59 = .ok (.invokevirtual 200, 3) := by decide +kernel
theorem dX7_tells_62 : decode cX7_tells 62 = .ok (.iconst 1, 1) := by decide +kernel
theorem dX7_tells_63 : decode cX7_tells 63 = .ok (.if_icmp .ne 16, 3) := by decide +kernel
theorem dX7_tells_66 : decode cX7_tells 66 = .ok (.iinc 3 1, 3) := by decide +kernel
theorem dX7_tells_69 : decode cX7_tells 69 = .ok (.iload 4, 2) := by decide +kernel
theorem dX7_tells_71 : decode cX7_tells 71 = .ok (.aload 6, 2) := by decide +kernel
theorem dX7_tells_73 : decode cX7_tells 73 = .ok (.getfield 214, 3) := by decide +kernel
theorem dX7_tells_76 : decode cX7_tells 76 = .ok (.iadd, 1) := by decide +kernel
theorem dX7_tells_77 : decode cX7_tells 77 = .ok (.istore 4, 2) := by decide +kernel
theorem dX7_tells_79 : decode cX7_tells 79 = .ok (.iinc 5 1, 3) := by decide +kernel
theorem dX7_tells_82 : decode cX7_tells 82 = .ok (.goto (-62), 3) := by decide +kernel
theorem dX7_tells_85 : decode cX7_tells 85 = .ok (.aload_n 0, 1) := by decide +kernel
theorem dX7_tells_86 : decode cX7_tells 86 = .ok (.iload 4, 2) := by decide +kernel
theorem dX7_tells_88 : decode cX7_tells 88 = .ok (.i2l, 1) := by decide +kernel
theorem dX7_tells_89 : decode cX7_tells 89 = .ok (.iload_n 3, 1) := by decide +kernel
theorem dX7_tells_90 : decode cX7_tells 90 = .ok (.i2l, 1) := by decide +kernel
theorem dX7_tells_91 : decode cX7_tells 91 = .ok (.invokevirtual 217, 3) := by decide +kernel
theorem dX7_tells_94 : decode cX7_tells 94 = .ok (.iconst 1, 1) := by decide +kernel
theorem dX7_tells_95 : decode cX7_tells 95 = .ok (.ireturn, 1) := by decide +kernel
theorem dX7_order_0 : decode cX7_order 0 = .ok (.aload_n 0, 1) := by decide +kernel
theorem dX7_order_1 : decode cX7_order 1 = .ok (.iload_n 1, 1) := by decide +kernel
theorem dX7_order_2 : decode cX7_order 2 = .ok (.invokevirtual 221, 3) := by decide +kernel
theorem dX7_order_5 : decode cX7_order 5 = .ok (.istore_n 2, 1) := by decide +kernel
theorem dX7_order_6 : decode cX7_order 6 = .ok (.iload_n 2, 1) := by decide +kernel
theorem dX7_order_7 : decode cX7_order 7 = .ok (.ifCond .eq 5, 3) := by decide +kernel
theorem dX7_order_10 : decode cX7_order 10 = .ok (.iload_n 2, 1) := by decide +kernel
theorem dX7_order_11 : decode cX7_order 11 = .ok (.ireturn, 1) := by decide +kernel
theorem dX7_order_12 : decode cX7_order 12 = .ok (.aload_n 0, 1) := by decide +kernel
theorem dX7_order_13 : decode cX7_order 13 = .ok (.getfield 41, 3) := by decide +kernel
theorem dX7_order_16 : decode cX7_order 16 = .ok (.aload_n 0, 1) := by decide +kernel
theorem dX7_order_17 : decode cX7_order 17 = .ok (.getfield 28, 3) := by decide +kernel
theorem dX7_order_20 : decode cX7_order 20 = .ok (.aload_n 0, 1) := by decide +kernel
theorem dX7_order_21 : decode cX7_order 21 = .ok (.getfield 11, 3) := by decide +kernel
theorem dX7_order_24 : decode cX7_order 24 = .ok (.iload_n 1, 1) := by decide +kernel
theorem dX7_order_25 : decode cX7_order 25 = .ok (.aaload, 1) := by decide +kernel
theorem dX7_order_26 : decode cX7_order 26 = .ok (.invokevirtual 224, 3) := by decide +kernel
theorem dX7_order_29 : decode cX7_order 29 = .ok (.ireturn, 1) := by decide +kernel
theorem dX7_tried_0 : decode cX7_tried 0 = .ok (.aload_n 0, 1) := by decide +kernel
theorem dX7_tried_1 : decode cX7_tried 1 = .ok (.iload_n 1, 1) := by decide +kernel
theorem dX7_tried_2 : decode cX7_tried 2 = .ok (.invokevirtual 221, 3) := by decide +kernel
theorem dX7_tried_5 : decode cX7_tried 5 = .ok (.istore_n 2, 1) := by decide +kernel
theorem dX7_tried_6 : decode cX7_tried 6 = .ok (.iload_n 2, 1) := by decide +kernel
theorem dX7_tried_7 : decode cX7_tried 7 = .ok (.ifCond .eq 5, 3) := by decide +kernel
theorem dX7_tried_10 : decode cX7_tried 10 = .ok (.iload_n 2, 1) := by decide +kernel
theorem dX7_tried_11 : decode cX7_tried 11 = .ok (.ireturn, 1) := by decide +kernel
theorem dX7_tried_12 : decode cX7_tried 12 = .ok (.aload_n 0, 1) := by decide +kernel
theorem dX7_tried_13 : decode cX7_tried 13 = .ok (.getfield 11, 3) := by decide +kernel
theorem dX7_tried_16 : decode cX7_tried 16 = .ok (.iload_n 1, 1) := by decide +kernel
theorem dX7_tried_17 : decode cX7_tried 17 = .ok (.aaload, 1) := by decide +kernel
theorem dX7_tried_18 : decode cX7_tried 18 = .ok (.astore_n 3, 1) := by decide +kernel
theorem dX7_tried_19 : decode cX7_tried 19 = .ok (.aload_n 0, 1) := by decide +kernel
theorem dX7_tried_20 : decode cX7_tried 20 = .ok (.aload_n 3, 1) := by decide +kernel
theorem dX7_tried_21 : decode cX7_tried 21 = .ok (.invokevirtual 228, 3) := by decide +kernel
theorem dX7_tried_24 : decode cX7_tried 24 = .ok (.istore 4, 2) := by decide +kernel
theorem dX7_tried_26 : decode cX7_tried 26 = .ok (.iload 4, 2) := by decide +kernel
theorem dX7_tried_28 : decode cX7_tried 28 = .ok (.ifCond .eq 10, 3) := by decide +kernel
theorem dX7_tried_31 : decode cX7_tried 31 = .ok (.aload_n 0, 1) := by decide +kernel
theorem dX7_tried_32 : decode cX7_tried 32 = .ok (.iload 4, 2) := by decide +kernel
theorem dX7_tried_34 : decode cX7_tried 34 = .ok (.invokevirtual 90, 3) := by decide +kernel
theorem dX7_tried_37 : decode cX7_tried 37 = .ok (.ireturn, 1) := by decide +kernel
theorem dX7_tried_38 : decode cX7_tried 38 = .ok (.iconst 0, 1) := by decide +kernel
theorem dX7_tried_39 : decode cX7_tried 39 = .ok (.istore 5, 2) := by decide +kernel
theorem dX7_tried_41 : decode cX7_tried 41 = .ok (.aload_n 0, 1) := by decide +kernel
theorem dX7_tried_42 : decode cX7_tried 42 = .ok (.getfield 28, 3) := by decide +kernel
theorem dX7_tried_45 : decode cX7_tried 45 = .ok (.invokevirtual 231, 3) := by decide +kernel
theorem dX7_tried_48 : decode cX7_tried 48 = .ok (.istore 6, 2) := by decide +kernel
theorem dX7_tried_50 : decode cX7_tried 50 = .ok (.aload_n 0, 1) := by decide +kernel
theorem dX7_tried_51 : decode cX7_tried 51 = .ok (.getfield 28, 3) := by decide +kernel
theorem dX7_tried_54 : decode cX7_tried 54 = .ok (.getfield 151, 3) := by decide +kernel
theorem dX7_tried_57 : decode cX7_tried 57 = .ok (.istore 7, 2) := by decide +kernel
theorem dX7_tried_59 : decode cX7_tried 59 = .ok (.iconst 0, 1) := by decide +kernel
theorem dX7_tried_60 : decode cX7_tried 60 = .ok (.istore 8, 2) := by decide +kernel
theorem dX7_tried_62 : decode cX7_tried 62 = .ok (.iload 8, 2) := by decide +kernel
theorem dX7_tried_64 : decode cX7_tried 64 = .ok (.aload_n 3, 1) := by decide +kernel
theorem dX7_tried_65 : decode cX7_tried 65 = .ok (.getfield 83, 3) := by decide +kernel
theorem dX7_tried_68 : decode cX7_tried 68 = .ok (.if_icmp .ge 90, 3) := by decide +kernel
theorem dX7_tried_71 : decode cX7_tried 71 = .ok (.aload_n 0, 1) := by decide +kernel
theorem dX7_tried_72 : decode cX7_tried 72 = .ok (.getfield 28, 3) := by decide +kernel
theorem dX7_tried_75 : decode cX7_tried 75 = .ok (.getfield 126, 3) := by decide +kernel
theorem dX7_tried_78 : decode cX7_tried 78 = .ok (.aload_n 3, 1) := by decide +kernel
theorem dX7_tried_79 : decode cX7_tried 79 = .ok (.getfield 72, 3) := by decide +kernel
theorem dX7_tried_82 : decode cX7_tried 82 = .ok (.iload 8, 2) := by decide +kernel
theorem dX7_tried_84 : decode cX7_tried 84 = .ok (.iaload, 1) := by decide +kernel
theorem dX7_tried_85 : decode cX7_tried 85 = .ok (.aaload, 1) := by decide +kernel
theorem dX7_tried_86 : decode cX7_tried 86 = .ok (.astore 9, 2) := by decide +kernel
theorem dX7_tried_88 : decode cX7_tried 88 = .ok (.aload_n 0, 1) := by decide +kernel
theorem dX7_tried_89 : decode cX7_tried 89 = .ok (.getfield 28, 3) := by decide +kernel
theorem dX7_tried_92 : decode cX7_tried 92 = .ok (.aload 9, 2) := by decide +kernel
theorem dX7_tried_94 : decode cX7_tried 94 = .ok (.iload 7, 2) := by decide +kernel
theorem dX7_tried_96 : decode cX7_tried 96 = .ok (.invokevirtual 200, 3) := by decide +kernel
theorem dX7_tried_99 : decode cX7_tried 99 = .ok (.istore 10, 2) := by decide +kernel
theorem dX7_tried_101 : decode cX7_tried 101 = .ok (.iload 5, 2) := by decide +kernel
theorem dX7_tried_103 : decode cX7_tried 103 = .ok (.aload 9, 2) := by decide +kernel
theorem dX7_tried_105 : decode cX7_tried 105 = .ok (.iload 10, 2) := by decide +kernel
theorem dX7_tried_107 : decode cX7_tried 107 = .ok (.invokevirtual 234, 3) := by decide +kernel
theorem dX7_tried_110 : decode cX7_tried 110 = .ok (.ifCond .eq 7, 3) := by decide +kernel
theorem dX7_tried_113 : decode cX7_tried 113 = .ok (.iconst 1, 1) := by decide +kernel
theorem dX7_tried_114 : decode cX7_tried 114 = .ok (.goto 4, 3) := by decide +kernel
theorem dX7_tried_117 : decode cX7_tried 117 = .ok (.iconst 0, 1) := by decide +kernel
theorem dX7_tried_118 : decode cX7_tried 118 = .ok (.iadd, 1) := by decide +kernel
theorem dX7_tried_119 : decode cX7_tried 119 = .ok (.istore 5, 2) := by decide +kernel
theorem dX7_tried_121 : decode cX7_tried 121 = .ok (.iload 6, 2) := by decide +kernel
theorem dX7_tried_123 : decode cX7_tried 123 = .ok (.iload 10, 2) := by decide +kernel
theorem dX7_tried_125 : decode cX7_tried 125 = .ok (.iconst 1, 1) := by decide +kernel
theorem dX7_tried_126 : decode cX7_tried 126 = .ok (.if_icmp .ne 7, 3) := by decide +kernel
theorem dX7_tried_129 : decode cX7_tried 129 = .ok (.iconst 1, 1) := by decide +kernel
theorem dX7_tried_130 : decode cX7_tried 130 = .ok (.goto 4, 3) := by decide +kernel
theorem dX7_tried_133 : decode cX7_tried 133 = .ok (.iconst 0, 1) := by decide +kernel
theorem dX7_tried_134 : decode cX7_tried 134 = .ok (.iadd, 1) := by decide +kernel
theorem dX7_tried_135 : decode cX7_tried 135 = .ok (.istore 6, 2) := by decide +kernel
theorem dX7_tried_137 : decode cX7_tried 137 = .ok (.aload_n 0, 1) := by decide +kernel
theorem dX7_tried_138 : decode cX7_tried 138 = .ok (.getfield 28, 3) := by decide +kernel
theorem dX7_tried_141 : decode cX7_tried 141 = .ok (.iload 10, 2) := by decide +kernel
theorem dX7_tried_143 : decode cX7_tried 143 = .ok (.iload 6, 2) := by decide +kernel
theorem dX7_tried_145 : decode cX7_tried 145 = .ok (.iload 7, 2) := by decide +kernel
theorem dX7_tried_147 : decode cX7_tried 147 = .ok (.invokevirtual 237, 3) := by decide +kernel
theorem dX7_tried_150 : decode cX7_tried 150 = .ok (.istore 7, 2) := by decide +kernel
theorem dX7_tried_152 : decode cX7_tried 152 = .ok (.iinc 8 1, 3) := by decide +kernel
theorem dX7_tried_155 : decode cX7_tried 155 = .ok (.goto (-93), 3) := by decide +kernel
theorem dX7_tried_158 : decode cX7_tried 158 = .ok (.aload_n 0, 1) := by decide +kernel
theorem dX7_tried_159 : decode cX7_tried 159 = .ok (.iload 7, 2) := by decide +kernel
theorem dX7_tried_161 : decode cX7_tried 161 = .ok (.putfield 75, 3) := by decide +kernel
theorem dX7_tried_164 : decode cX7_tried 164 = .ok (.iload 5, 2) := by decide +kernel
theorem dX7_tried_166 : decode cX7_tried 166 = .ok (.ireturn, 1) := by decide +kernel
theorem dX7_least_0 : decode cX7_least 0 = .ok (.aload_n 0, 1) := by decide +kernel
theorem dX7_least_1 : decode cX7_least 1 = .ok (.getfield 28, 3) := by decide +kernel
theorem dX7_least_4 : decode cX7_least 4 = .ok (.getfield 121, 3) := by decide +kernel
theorem dX7_least_7 : decode cX7_least 7 = .ok (.ifCond .ne 6, 3) := by decide +kernel
theorem dX7_least_10 : decode cX7_least 10 = .ok (.bipush (-4), 2) := by decide +kernel
theorem dX7_least_12 : decode cX7_least 12 = .ok (.ireturn, 1) := by decide +kernel
theorem dX7_least_13 : decode cX7_least 13 = .ok (.iconst 0, 1) := by decide +kernel
theorem dX7_least_14 : decode cX7_least 14 = .ok (.istore_n 1, 1) := by decide +kernel
theorem dX7_least_15 : decode cX7_least 15 = .ok (.iconst 0, 1) := by decide +kernel
theorem dX7_least_16 : decode cX7_least 16 = .ok (.istore_n 2, 1) := by decide +kernel
theorem dX7_least_17 : decode cX7_least 17 = .ok (.iconst 0, 1) := by decide +kernel
theorem dX7_least_18 : decode cX7_least 18 = .ok (.istore_n 3, 1) := by decide +kernel
theorem dX7_least_19 : decode cX7_least 19 = .ok (.iload_n 3, 1) := by decide +kernel
theorem dX7_least_20 : decode cX7_least 20 = .ok (.aload_n 0, 1) := by decide +kernel
theorem dX7_least_21 : decode cX7_least 21 = .ok (.getfield 28, 3) := by decide +kernel
theorem dX7_least_24 : decode cX7_least 24 = .ok (.getfield 121, 3) := by decide +kernel
theorem dX7_least_27 : decode cX7_least 27 = .ok (.if_icmp .ge 80, 3) := by decide +kernel
theorem dX7_least_30 : decode cX7_least 30 = .ok (.aload_n 0, 1) := by decide +kernel
theorem dX7_least_31 : decode cX7_least 31 = .ok (.getfield 28, 3) := by decide +kernel
theorem dX7_least_34 : decode cX7_least 34 = .ok (.getfield 126, 3) := by decide +kernel
theorem dX7_least_37 : decode cX7_least 37 = .ok (.iload_n 3, 1) := by decide +kernel
theorem dX7_least_38 : decode cX7_least 38 = .ok (.aaload, 1) := by decide +kernel
theorem dX7_least_39 : decode cX7_least 39 = .ok (.astore 4, 2) := by decide +kernel
theorem dX7_least_41 : decode cX7_least 41 = .ok (.aload_n 0, 1) := by decide +kernel
theorem dX7_least_42 : decode cX7_least 42 = .ok (.getfield 28, 3) := by decide +kernel
theorem dX7_least_45 : decode cX7_least 45 = .ok (.aload 4, 2) := by decide +kernel
theorem dX7_least_47 : decode cX7_least 47 = .ok (.invokevirtual 241, 3) := by decide +kernel
theorem dX7_least_50 : decode cX7_least 50 = .ok (.ifCond .eq 15, 3) := by decide +kernel
theorem dX7_least_53 : decode cX7_least 53 = .ok (.aload_n 0, 1) := by decide +kernel
theorem dX7_least_54 : decode cX7_least 54 = .ok (.getfield 28, 3) := by decide +kernel
theorem dX7_least_57 : decode cX7_least 57 = .ok (.aload 4, 2) := by decide +kernel
theorem dX7_least_59 : decode cX7_least 59 = .ok (.invokevirtual 245, 3) := by decide +kernel
theorem dX7_least_62 : decode cX7_least 62 = .ok (.goto 4, 3) := by decide +kernel
theorem dX7_least_65 : decode cX7_least 65 = .ok (.iconst 0, 1) := by decide +kernel
theorem dX7_least_66 : decode cX7_least 66 = .ok (.istore 5, 2) := by decide +kernel
theorem dX7_least_68 : decode cX7_least 68 = .ok (.aload 4, 2) := by decide +kernel
theorem dX7_least_70 : decode cX7_least 70 = .ok (.getfield 177, 3) := by decide +kernel
theorem dX7_least_73 : decode cX7_least 73 = .ok (.iload 5, 2) := by decide +kernel
theorem dX7_least_75 : decode cX7_least 75 = .ok (.iadd, 1) := by decide +kernel
theorem dX7_least_76 : decode cX7_least 76 = .ok (.iconst 3, 1) := by decide +kernel
theorem dX7_least_77 : decode cX7_least 77 = .ok (.if_icmp .le 6, 3) := by decide +kernel
theorem dX7_least_80 : decode cX7_least 80 = .ok (.bipush (-9), 2) := by decide +kernel
theorem dX7_least_82 : decode cX7_least 82 = .ok (.ireturn, 1) := by decide +kernel
theorem dX7_least_83 : decode cX7_least 83 = .ok (.iload_n 1, 1) := by decide +kernel
theorem dX7_least_84 : decode cX7_least 84 = .ok (.iload 5, 2) := by decide +kernel
theorem dX7_least_86 : decode cX7_least 86 = .ok (.iadd, 1) := by decide +kernel
theorem dX7_least_87 : decode cX7_least 87 = .ok (.istore_n 1, 1) := by decide +kernel
theorem dX7_least_88 : decode cX7_least 88 = .ok (.iload_n 2, 1) := by decide +kernel
theorem dX7_least_89 : decode cX7_least 89 = .ok (.iload 5, 2) := by decide +kernel
theorem dX7_least_91 : decode cX7_least 91 = .ok (.ifCond .le 7, 3) := by decide +kernel
theorem dX7_least_94 : decode cX7_least 94 = .ok (.iconst 1, 1) := by decide +kernel
theorem dX7_least_95 : decode cX7_least 95 = .ok (.goto 4, 3) := by decide +kernel
theorem dX7_least_98 : decode cX7_least 98 = .ok (.iconst 0, 1) := by decide +kernel
theorem dX7_least_99 : decode cX7_least 99 = .ok (.iadd, 1) := by decide +kernel
theorem dX7_least_100 : decode cX7_least 100 = .ok (.istore_n 2, 1) := by decide +kernel
theorem dX7_least_101 : decode cX7_least 101 = .ok (.iinc 3 1, 3) := by decide +kernel
theorem dX7_least_104 : decode cX7_least 104 = .ok (.goto (-85), 3) := by decide +kernel
theorem dX7_least_107 : decode cX7_least 107 = .ok (.aload_n 0, 1) := by decide +kernel
theorem dX7_least_108 : decode cX7_least 108 = .ok (.iload_n 2, 1) := by decide +kernel
theorem dX7_least_109 : decode cX7_least 109 = .ok (.putfield 75, 3) := by decide +kernel
theorem dX7_least_112 : decode cX7_least 112 = .ok (.iload_n 1, 1) := by decide +kernel
theorem dX7_least_113 : decode cX7_least 113 = .ok (.ireturn, 1) := by decide +kernel
theorem dX7_fits_0 : decode cX7_fits 0 = .ok (.aload_n 0, 1) := by decide +kernel
theorem dX7_fits_1 : decode cX7_fits 1 = .ok (.iload_n 1, 1) := by decide +kernel
theorem dX7_fits_2 : decode cX7_fits 2 = .ok (.invokevirtual 248, 3) := by decide +kernel
theorem dX7_fits_5 : decode cX7_fits 5 = .ok (.istore_n 2, 1) := by decide +kernel
theorem dX7_fits_6 : decode cX7_fits 6 = .ok (.iload_n 2, 1) := by decide +kernel
theorem dX7_fits_7 : decode cX7_fits 7 = .ok (.ifCond .eq 5, 3) := by decide +kernel
theorem dX7_fits_10 : decode cX7_fits 10 = .ok (.iload_n 2, 1) := by decide +kernel
theorem dX7_fits_11 : decode cX7_fits 11 = .ok (.ireturn, 1) := by decide +kernel
theorem dX7_fits_12 : decode cX7_fits 12 = .ok (.aload_n 0, 1) := by decide +kernel
theorem dX7_fits_13 : decode cX7_fits 13 = .ok (.getfield 28, 3) := by decide +kernel
theorem dX7_fits_16 : decode cX7_fits 16 = .ok (.aload_n 0, 1) := by decide +kernel
theorem dX7_fits_17 : decode cX7_fits 17 = .ok (.getfield 11, 3) := by decide +kernel
theorem dX7_fits_20 : decode cX7_fits 20 = .ok (.iload_n 1, 1) := by decide +kernel
theorem dX7_fits_21 : decode cX7_fits 21 = .ok (.aaload, 1) := by decide +kernel
theorem dX7_fits_22 : decode cX7_fits 22 = .ok (.invokevirtual 251, 3) := by decide +kernel
theorem dX7_fits_25 : decode cX7_fits 25 = .ok (.istore_n 3, 1) := by decide +kernel
theorem dX7_fits_26 : decode cX7_fits 26 = .ok (.aload_n 0, 1) := by decide +kernel
theorem dX7_fits_27 : decode cX7_fits 27 = .ok (.iload_n 3, 1) := by decide +kernel
theorem dX7_fits_28 : decode cX7_fits 28 = .ok (.invokestatic 254, 3) := by decide +kernel
theorem dX7_fits_31 : decode cX7_fits 31 = .ok (.putfield 75, 3) := by decide +kernel
theorem dX7_fits_34 : decode cX7_fits 34 = .ok (.iload_n 3, 1) := by decide +kernel
theorem dX7_fits_35 : decode cX7_fits 35 = .ok (.ireturn, 1) := by decide +kernel
theorem dX7_ask_0 : decode cX7_ask 0 = .ok (.aload_n 0, 1) := by decide +kernel
theorem dX7_ask_1 : decode cX7_ask 1 = .ok (.iload_n 1, 1) := by decide +kernel
theorem dX7_ask_2 : decode cX7_ask 2 = .ok (.invokevirtual 248, 3) := by decide +kernel
theorem dX7_ask_5 : decode cX7_ask 5 = .ok (.istore_n 2, 1) := by decide +kernel
theorem dX7_ask_6 : decode cX7_ask 6 = .ok (.iload_n 2, 1) := by decide +kernel
theorem dX7_ask_7 : decode cX7_ask 7 = .ok (.ifCond .eq 5, 3) := by decide +kernel
theorem dX7_ask_10 : decode cX7_ask 10 = .ok (.iload_n 2, 1) := by decide +kernel
theorem dX7_ask_11 : decode cX7_ask 11 = .ok (.ireturn, 1) := by decide +kernel
theorem dX7_ask_12 : decode cX7_ask 12 = .ok (.aload_n 0, 1) := by decide +kernel
theorem dX7_ask_13 : decode cX7_ask 13 = .ok (.getfield 28, 3) := by decide +kernel
theorem dX7_ask_16 : decode cX7_ask 16 = .ok (.aload_n 0, 1) := by decide +kernel
theorem dX7_ask_17 : decode cX7_ask 17 = .ok (.getfield 11, 3) := by decide +kernel
theorem dX7_ask_20 : decode cX7_ask 20 = .ok (.iload_n 1, 1) := by decide +kernel
theorem dX7_ask_21 : decode cX7_ask 21 = .ok (.aaload, 1) := by decide +kernel
theorem dX7_ask_22 : decode cX7_ask 22 = .ok (.invokevirtual 251, 3) := by decide +kernel
theorem dX7_ask_25 : decode cX7_ask 25 = .ok (.istore_n 3, 1) := by decide +kernel
theorem dX7_ask_26 : decode cX7_ask 26 = .ok (.iload_n 3, 1) := by decide +kernel
theorem dX7_ask_27 : decode cX7_ask 27 = .ok (.ifCond .ne 6, 3) := by decide +kernel
theorem dX7_ask_30 : decode cX7_ask 30 = .ok (.bipush (-9), 2) := by decide +kernel
theorem dX7_ask_32 : decode cX7_ask 32 = .ok (.ireturn, 1) := by decide +kernel
theorem dX7_ask_33 : decode cX7_ask 33 = .ok (.iconst 0, 1) := by decide +kernel
theorem dX7_ask_34 : decode cX7_ask 34 = .ok (.istore 4, 2) := by decide +kernel
theorem dX7_ask_36 : decode cX7_ask 36 = .ok (.aload_n 0, 1) := by decide +kernel
theorem dX7_ask_37 : decode cX7_ask 37 = .ok (.getfield 28, 3) := by decide +kernel
theorem dX7_ask_40 : decode cX7_ask 40 = .ok (.aload_n 0, 1) := by decide +kernel
theorem dX7_ask_41 : decode cX7_ask 41 = .ok (.getfield 28, 3) := by decide +kernel
theorem dX7_ask_44 : decode cX7_ask 44 = .ok (.getfield 126, 3) := by decide +kernel
theorem dX7_ask_47 : decode cX7_ask 47 = .ok (.iconst 0, 1) := by decide +kernel
theorem dX7_ask_48 : decode cX7_ask 48 = .ok (.aaload, 1) := by decide +kernel
theorem dX7_ask_49 : decode cX7_ask 49 = .ok (.iload_n 3, 1) := by decide +kernel
theorem dX7_ask_50 : decode cX7_ask 50 = .ok (.invokevirtual 259, 3) := by decide +kernel
theorem dX7_ask_53 : decode cX7_ask 53 = .ok (.istore 5, 2) := by decide +kernel
theorem dX7_ask_55 : decode cX7_ask 55 = .ok (.iconst 1, 1) := by decide +kernel
theorem dX7_ask_56 : decode cX7_ask 56 = .ok (.istore 6, 2) := by decide +kernel
theorem dX7_ask_58 : decode cX7_ask 58 = .ok (.iload 6, 2) := by decide +kernel
theorem dX7_ask_60 : decode cX7_ask 60 = .ok (.aload_n 0, 1) := by decide +kernel
theorem dX7_ask_61 : decode cX7_ask 61 = .ok (.getfield 28, 3) := by decide +kernel
theorem dX7_ask_64 : decode cX7_ask 64 = .ok (.getfield 121, 3) := by decide +kernel
theorem dX7_ask_67 : decode cX7_ask 67 = .ok (.if_icmp .ge 44, 3) := by decide +kernel
theorem dX7_ask_70 : decode cX7_ask 70 = .ok (.aload_n 0, 1) := by decide +kernel
theorem dX7_ask_71 : decode cX7_ask 71 = .ok (.getfield 28, 3) := by decide +kernel
theorem dX7_ask_74 : decode cX7_ask 74 = .ok (.aload_n 0, 1) := by decide +kernel
theorem dX7_ask_75 : decode cX7_ask 75 = .ok (.getfield 28, 3) := by decide +kernel
theorem dX7_ask_78 : decode cX7_ask 78 = .ok (.getfield 126, 3) := by decide +kernel
theorem dX7_ask_81 : decode cX7_ask 81 = .ok (.iload 6, 2) := by decide +kernel
theorem dX7_ask_83 : decode cX7_ask 83 = .ok (.aaload, 1) := by decide +kernel
theorem dX7_ask_84 : decode cX7_ask 84 = .ok (.iload_n 3, 1) := by decide +kernel
theorem dX7_ask_85 : decode cX7_ask 85 = .ok (.invokevirtual 259, 3) := by decide +kernel
theorem dX7_ask_88 : decode cX7_ask 88 = .ok (.istore 7, 2) := by decide +kernel
theorem dX7_ask_90 : decode cX7_ask 90 = .ok (.iload 7, 2) := by decide +kernel
theorem dX7_ask_92 : decode cX7_ask 92 = .ok (.iload 5, 2) := by decide +kernel
theorem dX7_ask_94 : decode cX7_ask 94 = .ok (.if_icmp .ge 11, 3) := by decide +kernel
theorem dX7_ask_97 : decode cX7_ask 97 = .ok (.iload 7, 2) := by decide +kernel
theorem dX7_ask_99 : decode cX7_ask 99 = .ok (.istore 5, 2) := by decide +kernel
theorem dX7_ask_101 : decode cX7_ask 101 = .ok (.iload 6, 2) := by decide +kernel
theorem dX7_ask_103 : decode cX7_ask 103 = .ok (.istore 4, 2) := by decide +kernel
theorem dX7_ask_105 : decode cX7_ask 105 = .ok (.iinc 6 1, 3) := by decide +kernel
theorem dX7_ask_108 : decode cX7_ask 108 = .ok (.goto (-50), 3) := by decide +kernel
theorem dX7_ask_111 : decode cX7_ask 111 = .ok (.aload_n 0, 1) := by decide +kernel
theorem dX7_ask_112 : decode cX7_ask 112 = .ok (.iload 5, 2) := by decide +kernel
theorem dX7_ask_114 : decode cX7_ask 114 = .ok (.putfield 75, 3) := by decide +kernel
theorem dX7_ask_117 : decode cX7_ask 117 = .ok (.iload 4, 2) := by decide +kernel
theorem dX7_ask_119 : decode cX7_ask 119 = .ok (.ireturn, 1) := by decide +kernel
theorem dX7_hands_0 : decode cX7_hands 0 = .ok (.aload_n 0, 1) := by decide +kernel
theorem dX7_hands_1 : decode cX7_hands 1 = .ok (.iload_n 1, 1) := by decide +kernel
theorem dX7_hands_2 : decode cX7_hands 2 = .ok (.iload_n 2, 1) := by decide +kernel
theorem dX7_hands_3 : decode cX7_hands 3 = .ok (.invokevirtual 262, 3) := by decide +kernel
theorem dX7_hands_6 : decode cX7_hands 6 = .ok (.istore_n 3, 1) := by decide +kernel
theorem dX7_hands_7 : decode cX7_hands 7 = .ok (.iload_n 3, 1) := by decide +kernel
theorem dX7_hands_8 : decode cX7_hands 8 = .ok (.ifCond .eq 5, 3) := by decide +kernel
theorem dX7_hands_11 : decode cX7_hands 11 = .ok (.iload_n 3, 1) := by decide +kernel
theorem dX7_hands_12 : decode cX7_hands 12 = .ok (.ireturn, 1) := by decide +kernel
theorem dX7_hands_13 : decode cX7_hands 13 = .ok (.aload_n 0, 1) := by decide +kernel
theorem dX7_hands_14 : decode cX7_hands 14 = .ok (.getfield 28, 3) := by decide +kernel
theorem dX7_hands_17 : decode cX7_hands 17 = .ok (.aload_n 0, 1) := by decide +kernel
theorem dX7_hands_18 : decode cX7_hands 18 = .ok (.getfield 28, 3) := by decide +kernel
theorem dX7_hands_21 : decode cX7_hands 21 = .ok (.getfield 126, 3) := by decide +kernel
theorem dX7_hands_24 : decode cX7_hands 24 = .ok (.iload_n 1, 1) := by decide +kernel
theorem dX7_hands_25 : decode cX7_hands 25 = .ok (.aaload, 1) := by decide +kernel
theorem dX7_hands_26 : decode cX7_hands 26 = .ok (.invokevirtual 265, 3) := by decide +kernel
theorem dX7_hands_29 : decode cX7_hands 29 = .ok (.astore 4, 2) := by decide +kernel
theorem dX7_hands_31 : decode cX7_hands 31 = .ok (.iconst 0, 1) := by decide +kernel
theorem dX7_hands_32 : decode cX7_hands 32 = .ok (.istore 5, 2) := by decide +kernel
theorem dX7_hands_34 : decode cX7_hands 34 = .ok (.iconst 0, 1) := by decide +kernel
theorem dX7_hands_35 : decode cX7_hands 35 = .ok (.istore 6, 2) := by decide +kernel
theorem dX7_hands_37 : decode cX7_hands 37 = .ok (.iload 6, 2) := by decide +kernel
theorem dX7_hands_39 : decode cX7_hands 39 = .ok (.bipush 10, 2) := by decide +kernel
theorem dX7_hands_41 : decode cX7_hands 41 = .ok (.if_icmp .ge 47, 3) := by decide +kernel
theorem dX7_hands_44 : decode cX7_hands 44 = .ok (.aload 4, 2) := by decide +kernel
theorem dX7_hands_46 : decode cX7_hands 46 = .ok (.iload 6, 2) := by decide +kernel
theorem dX7_hands_48 : decode cX7_hands 48 = .ok (.putfield 268, 3) := by decide +kernel
theorem dX7_hands_51 : decode cX7_hands 51 = .ok (.iload 5, 2) := by decide +kernel
theorem dX7_hands_53 : decode cX7_hands 53 = .ok (.aload_n 0, 1) := by decide +kernel
theorem dX7_hands_54 : decode cX7_hands 54 = .ok (.getfield 28, 3) := by decide +kernel
theorem dX7_hands_57 : decode cX7_hands 57 = .ok (.aload 4, 2) := by decide +kernel
theorem dX7_hands_59 : decode cX7_hands 59 = .ok (.aload_n 0, 1) := by decide +kernel
theorem dX7_hands_60 : decode cX7_hands 60 = .ok (.getfield 11, 3) := by decide +kernel
theorem dX7_hands_63 : decode cX7_hands 63 = .ok (.iload_n 2, 1) := by decide +kernel
theorem dX7_hands_64 : decode cX7_hands 64 = .ok (.aaload, 1) := by decide +kernel
theorem dX7_hands_65 : decode cX7_hands 65 = .ok (.invokevirtual 271, 3) := by decide +kernel
theorem dX7_hands_68 : decode cX7_hands 68 = .ok (.ifCond .eq 10, 3) := by decide +kernel
theorem dX7_hands_71 : decode cX7_hands 71 = .ok (.iconst 1, 1) := by decide +kernel
theorem dX7_hands_72 : decode cX7_hands 72 = .ok (.iload 6, 2) := by decide +kernel
theorem dX7_hands_74 : decode cX7_hands 74 = .ok (.ishl, 1) := by decide +kernel
theorem dX7_hands_75 : decode cX7_hands 75 = .ok (.goto 4, 3) := by decide +kernel
theorem dX7_hands_78 : decode cX7_hands 78 = .ok (.iconst 0, 1) := by decide +kernel
theorem dX7_hands_79 : decode cX7_hands 79 = .ok (.ior, 1) := by decide +kernel
theorem dX7_hands_80 : decode cX7_hands 80 = .ok (.istore 5, 2) := by decide +kernel
theorem dX7_hands_82 : decode cX7_hands 82 = .ok (.iinc 6 1, 3) := by decide +kernel
theorem dX7_hands_85 : decode cX7_hands 85 = .ok (.goto (-48), 3) := by decide +kernel
theorem dX7_hands_88 : decode cX7_hands 88 = .ok (.iload 5, 2) := by decide +kernel
theorem dX7_hands_90 : decode cX7_hands 90 = .ok (.ireturn, 1) := by decide +kernel
theorem dX7_kinds_0 : decode cX7_kinds 0 = .ok (.aload_n 0, 1) := by decide +kernel
theorem dX7_kinds_1 : decode cX7_kinds 1 = .ok (.iload_n 1, 1) := by decide +kernel
theorem dX7_kinds_2 : decode cX7_kinds 2 = .ok (.iload_n 2, 1) := by decide +kernel
theorem dX7_kinds_3 : decode cX7_kinds 3 = .ok (.invokevirtual 262, 3) := by decide +kernel
theorem dX7_kinds_6 : decode cX7_kinds 6 = .ok (.istore_n 3, 1) := by decide +kernel
theorem dX7_kinds_7 : decode cX7_kinds 7 = .ok (.iload_n 3, 1) := by decide +kernel
theorem dX7_kinds_8 : decode cX7_kinds 8 = .ok (.ifCond .eq 5, 3) := by decide +kernel
theorem dX7_kinds_11 : decode cX7_kinds 11 = .ok (.iload_n 3, 1) := by decide +kernel
theorem dX7_kinds_12 : decode cX7_kinds 12 = .ok (.ireturn, 1) := by decide +kernel
theorem dX7_kinds_13 : decode cX7_kinds 13 = .ok (.aload_n 0, 1) := by decide +kernel
theorem dX7_kinds_14 : decode cX7_kinds 14 = .ok (.getfield 28, 3) := by decide +kernel
theorem dX7_kinds_17 : decode cX7_kinds 17 = .ok (.aload_n 0, 1) := by decide +kernel
theorem dX7_kinds_18 : decode cX7_kinds 18 = .ok (.getfield 28, 3) := by decide +kernel
theorem dX7_kinds_21 : decode cX7_kinds 21 = .ok (.getfield 126, 3) := by decide +kernel
theorem dX7_kinds_24 : decode cX7_kinds 24 = .ok (.iload_n 1, 1) := by decide +kernel
theorem dX7_kinds_25 : decode cX7_kinds 25 = .ok (.aaload, 1) := by decide +kernel
theorem dX7_kinds_26 : decode cX7_kinds 26 = .ok (.invokevirtual 265, 3) := by decide +kernel
theorem dX7_kinds_29 : decode cX7_kinds 29 = .ok (.astore 4, 2) := by decide +kernel
theorem dX7_kinds_31 : decode cX7_kinds 31 = .ok (.iconst 0, 1) := by decide +kernel
theorem dX7_kinds_32 : decode cX7_kinds 32 = .ok (.istore 5, 2) := by decide +kernel
theorem dX7_kinds_34 : decode cX7_kinds 34 = .ok (.iconst 0, 1) := by decide +kernel
theorem dX7_kinds_35 : decode cX7_kinds 35 = .ok (.istore 6, 2) := by decide +kernel
theorem dX7_kinds_37 : decode cX7_kinds 37 = .ok (.iload 6, 2) := by decide +kernel
theorem dX7_kinds_39 : decode cX7_kinds 39 = .ok (.bipush 6, 2) := by decide +kernel
theorem dX7_kinds_41 : decode cX7_kinds 41 = .ok (.if_icmp .ge 47, 3) := by decide +kernel
theorem dX7_kinds_44 : decode cX7_kinds 44 = .ok (.aload 4, 2) := by decide +kernel
theorem dX7_kinds_46 : decode cX7_kinds 46 = .ok (.iload 6, 2) := by decide +kernel
theorem dX7_kinds_48 : decode cX7_kinds 48 = .ok (.putfield 275, 3) := by decide +kernel
theorem dX7_kinds_51 : decode cX7_kinds 51 = .ok (.iload 5, 2) := by decide +kernel
theorem dX7_kinds_53 : decode cX7_kinds 53 = .ok (.aload_n 0, 1) := by decide +kernel
theorem dX7_kinds_54 : decode cX7_kinds 54 = .ok (.getfield 28, 3) := by decide +kernel
theorem dX7_kinds_57 : decode cX7_kinds 57 = .ok (.aload 4, 2) := by decide +kernel
theorem dX7_kinds_59 : decode cX7_kinds 59 = .ok (.aload_n 0, 1) := by decide +kernel
theorem dX7_kinds_60 : decode cX7_kinds 60 = .ok (.getfield 11, 3) := by decide +kernel
theorem dX7_kinds_63 : decode cX7_kinds 63 = .ok (.iload_n 2, 1) := by decide +kernel
theorem dX7_kinds_64 : decode cX7_kinds 64 = .ok (.aaload, 1) := by decide +kernel
theorem dX7_kinds_65 : decode cX7_kinds 65 = .ok (.invokevirtual 271, 3) := by decide +kernel
theorem dX7_kinds_68 : decode cX7_kinds 68 = .ok (.ifCond .eq 10, 3) := by decide +kernel
theorem dX7_kinds_71 : decode cX7_kinds 71 = .ok (.iconst 1, 1) := by decide +kernel
theorem dX7_kinds_72 : decode cX7_kinds 72 = .ok (.iload 6, 2) := by decide +kernel
theorem dX7_kinds_74 : decode cX7_kinds 74 = .ok (.ishl, 1) := by decide +kernel
theorem dX7_kinds_75 : decode cX7_kinds 75 = .ok (.goto 4, 3) := by decide +kernel
theorem dX7_kinds_78 : decode cX7_kinds 78 = .ok (.iconst 0, 1) := by decide +kernel
theorem dX7_kinds_79 : decode cX7_kinds 79 = .ok (.ior, 1) := by decide +kernel
theorem dX7_kinds_80 : decode cX7_kinds 80 = .ok (.istore 5, 2) := by decide +kernel
theorem dX7_kinds_82 : decode cX7_kinds 82 = .ok (.iinc 6 1, 3) := by decide +kernel
theorem dX7_kinds_85 : decode cX7_kinds 85 = .ok (.goto (-48), 3) := by decide +kernel
theorem dX7_kinds_88 : decode cX7_kinds 88 = .ok (.iload 5, 2) := by decide +kernel
theorem dX7_kinds_90 : decode cX7_kinds 90 = .ok (.ireturn, 1) := by decide +kernel
theorem dX7_duel_0 : decode cX7_duel 0 = .ok (.iload_n 1, 1) := by decide +kernel
theorem dX7_duel_1 : decode cX7_duel 1 = .ok (.ifCond .lt 9, 3) := by decide +kernel
theorem dX7_duel_4 : decode cX7_duel 4 = .ok (.iload_n 1, 1) := by decide +kernel
theorem dX7_duel_5 : decode cX7_duel 5 = .ok (.bipush 6, 2) := by decide +kernel
theorem dX7_duel_7 : decode cX7_duel 7 = .ok (.if_icmp .le 5, 3) := by decide +kernel
theorem dX7_duel_10 : decode cX7_duel 10 = .ok (.iconst (-1), 1) := by decide +kernel
theorem dX7_duel_11 : decode cX7_duel 11 = .ok (.ireturn, 1) := by decide +kernel
theorem dX7_duel_12 : decode cX7_duel 12 = .ok (.aload_n 0, 1) := by decide +kernel
theorem dX7_duel_13 : decode cX7_duel 13 = .ok (.getfield 28, 3) := by decide +kernel
theorem dX7_duel_16 : decode cX7_duel 16 = .ok (.getfield 121, 3) := by decide +kernel
theorem dX7_duel_19 : decode cX7_duel 19 = .ok (.ifCond .ne 6, 3) := by decide +kernel
theorem dX7_duel_22 : decode cX7_duel 22 = .ok (.bipush (-4), 2) := by decide +kernel
theorem dX7_duel_24 : decode cX7_duel 24 = .ok (.ireturn, 1) := by decide +kernel
theorem dX7_duel_25 : decode cX7_duel 25 = .ok (.aload_n 0, 1) := by decide +kernel
theorem dX7_duel_26 : decode cX7_duel 26 = .ok (.getfield 48, 3) := by decide +kernel
theorem dX7_duel_29 : decode cX7_duel 29 = .ok (.aload_n 0, 1) := by decide +kernel
theorem dX7_duel_30 : decode cX7_duel 30 = .ok (.getfield 28, 3) := by decide +kernel
theorem dX7_duel_33 : decode cX7_duel 33 = .ok (.iload_n 1, 1) := by decide +kernel
theorem dX7_duel_34 : decode cX7_duel 34 = .ok (.invokevirtual 278, 3) := by decide +kernel
theorem dX7_duel_37 : decode cX7_duel 37 = .ok (.ireturn, 1) := by decide +kernel
theorem dX7_odds_0 : decode cX7_odds 0 = .ok (.aload_n 0, 1) := by decide +kernel
theorem dX7_odds_1 : decode cX7_odds 1 = .ok (.iload_n 1, 1) := by decide +kernel
theorem dX7_odds_2 : decode cX7_odds 2 = .ok (.invokevirtual 282, 3) := by decide +kernel
theorem dX7_odds_5 : decode cX7_odds 5 = .ok (.istore_n 2, 1) := by decide +kernel
theorem dX7_odds_6 : decode cX7_odds 6 = .ok (.iload_n 2, 1) := by decide +kernel
theorem dX7_odds_7 : decode cX7_odds 7 = .ok (.ifCond .eq 5, 3) := by decide +kernel
theorem dX7_odds_10 : decode cX7_odds 10 = .ok (.iload_n 2, 1) := by decide +kernel
theorem dX7_odds_11 : decode cX7_odds 11 = .ok (.ireturn, 1) := by decide +kernel
theorem dX7_odds_12 : decode cX7_odds 12 = .ok (.lconst 1, 1) := by decide +kernel
theorem dX7_odds_13 : decode cX7_odds 13 = .ok (.lstore_n 3, 1) := by decide +kernel
theorem dX7_odds_14 : decode cX7_odds 14 = .ok (.lconst 1, 1) := by decide +kernel
theorem dX7_odds_15 : decode cX7_odds 15 = .ok (.lstore 5, 2) := by decide +kernel
theorem dX7_odds_17 : decode cX7_odds 17 = .ok (.iconst 0, 1) := by decide +kernel
theorem dX7_odds_18 : decode cX7_odds 18 = .ok (.istore 7, 2) := by decide +kernel
theorem dX7_odds_20 : decode cX7_odds 20 = .ok (.iload 7, 2) := by decide +kernel
theorem dX7_odds_22 : decode cX7_odds 22 = .ok (.aload_n 0, 1) := by decide +kernel
theorem dX7_odds_23 : decode cX7_odds 23 = .ok (.getfield 28, 3) := by decide +kernel
theorem dX7_odds_26 : decode cX7_odds 26 = .ok (.getfield 121, 3) := by decide +kernel
theorem dX7_odds_29 : decode cX7_odds 29 = .ok (.if_icmp .ge 55, 3) := by decide +kernel
theorem dX7_odds_32 : decode cX7_odds 32 = .ok (.aload_n 0, 1) := by decide +kernel
theorem dX7_odds_33 : decode cX7_odds 33 = .ok (.getfield 28, 3) := by decide +kernel
theorem dX7_odds_36 : decode cX7_odds 36 = .ok (.getfield 126, 3) := by decide +kernel
theorem dX7_odds_39 : decode cX7_odds 39 = .ok (.iload 7, 2) := by decide +kernel
theorem dX7_odds_41 : decode cX7_odds 41 = .ok (.aaload, 1) := by decide +kernel
theorem dX7_odds_42 : decode cX7_odds 42 = .ok (.astore 8, 2) := by decide +kernel
theorem dX7_odds_44 : decode cX7_odds 44 = .ok (.aload_n 0, 1) := by decide +kernel
theorem dX7_odds_45 : decode cX7_odds 45 = .ok (.getfield 28, 3) := by decide +kernel
theorem dX7_odds_48 : decode cX7_odds 48 = .ok (.aload 8, 2) := by decide +kernel
theorem dX7_odds_50 : decode cX7_odds 50 = .ok (.invokevirtual 241, 3) := by decide +kernel
theorem dX7_odds_53 : decode cX7_odds 53 = .ok (.ifCond .eq 25, 3) := by decide +kernel
theorem dX7_odds_56 : decode cX7_odds 56 = .ok (.lload_n 3, 1) := by decide +kernel
theorem dX7_odds_57 : decode cX7_odds 57 = .ok (.aload_n 0, 1) := by decide +kernel
theorem dX7_odds_58 : decode cX7_odds 58 = .ok (.getfield 28, 3) := by decide +kernel
theorem dX7_odds_61 : decode cX7_odds 61 = .ok (.aload 8, 2) := by decide +kernel
theorem dX7_odds_63 : decode cX7_odds 63 = .ok (.iload_n 1, 1) := by decide +kernel
theorem dX7_odds_64 : decode cX7_odds 64 = .ok (.invokevirtual 285, 3) := by decide +kernel
theorem dX7_odds_67 : decode cX7_odds 67 = .ok (.i2l, 1) := by decide +kernel
theorem dX7_odds_68 : decode cX7_odds 68 = .ok (.lmul, 1) := by decide +kernel
theorem dX7_odds_69 : decode cX7_odds 69 = .ok (.lstore_n 3, 1) := by decide +kernel
theorem dX7_odds_70 : decode cX7_odds 70 = .ok (.lload 5, 2) := by decide +kernel
theorem dX7_odds_72 : decode cX7_odds 72 = .ok (.ldc2_w 288, 3) := by decide +kernel
theorem dX7_odds_75 : decode cX7_odds 75 = .ok (.lmul, 1) := by decide +kernel
theorem dX7_odds_76 : decode cX7_odds 76 = .ok (.lstore 5, 2) := by decide +kernel
theorem dX7_odds_78 : decode cX7_odds 78 = .ok (.iinc 7 1, 3) := by decide +kernel
theorem dX7_odds_81 : decode cX7_odds 81 = .ok (.goto (-61), 3) := by decide +kernel
theorem dX7_odds_84 : decode cX7_odds 84 = .ok (.aload_n 0, 1) := by decide +kernel
theorem dX7_odds_85 : decode cX7_odds 85 = .ok (.lload_n 3, 1) := by decide +kernel
theorem dX7_odds_86 : decode cX7_odds 86 = .ok (.lload 5, 2) := by decide +kernel
theorem dX7_odds_88 : decode cX7_odds 88 = .ok (.invokevirtual 217, 3) := by decide +kernel
theorem dX7_odds_91 : decode cX7_odds 91 = .ok (.iconst 1, 1) := by decide +kernel
theorem dX7_odds_92 : decode cX7_odds 92 = .ok (.ireturn, 1) := by decide +kernel
theorem dX7_mid_0 : decode cX7_mid 0 = .ok (.aload_n 0, 1) := by decide +kernel
theorem dX7_mid_1 : decode cX7_mid 1 = .ok (.iload_n 1, 1) := by decide +kernel
theorem dX7_mid_2 : decode cX7_mid 2 = .ok (.invokevirtual 282, 3) := by decide +kernel
theorem dX7_mid_5 : decode cX7_mid 5 = .ok (.istore_n 2, 1) := by decide +kernel
theorem dX7_mid_6 : decode cX7_mid 6 = .ok (.iload_n 2, 1) := by decide +kernel
theorem dX7_mid_7 : decode cX7_mid 7 = .ok (.ifCond .eq 5, 3) := by decide +kernel
theorem dX7_mid_10 : decode cX7_mid 10 = .ok (.iload_n 2, 1) := by decide +kernel
theorem dX7_mid_11 : decode cX7_mid 11 = .ok (.ireturn, 1) := by decide +kernel
theorem dX7_mid_12 : decode cX7_mid 12 = .ok (.lconst 0, 1) := by decide +kernel
theorem dX7_mid_13 : decode cX7_mid 13 = .ok (.lstore_n 3, 1) := by decide +kernel
theorem dX7_mid_14 : decode cX7_mid 14 = .ok (.iconst 0, 1) := by decide +kernel
theorem dX7_mid_15 : decode cX7_mid 15 = .ok (.istore 5, 2) := by decide +kernel
theorem dX7_mid_17 : decode cX7_mid 17 = .ok (.iload 5, 2) := by decide +kernel
theorem dX7_mid_19 : decode cX7_mid 19 = .ok (.aload_n 0, 1) := by decide +kernel
theorem dX7_mid_20 : decode cX7_mid 20 = .ok (.getfield 28, 3) := by decide +kernel
theorem dX7_mid_23 : decode cX7_mid 23 = .ok (.getfield 121, 3) := by decide +kernel
theorem dX7_mid_26 : decode cX7_mid 26 = .ok (.if_icmp .ge 58, 3) := by decide +kernel
theorem dX7_mid_29 : decode cX7_mid 29 = .ok (.aload_n 0, 1) := by decide +kernel
theorem dX7_mid_30 : decode cX7_mid 30 = .ok (.getfield 28, 3) := by decide +kernel
theorem dX7_mid_33 : decode cX7_mid 33 = .ok (.getfield 126, 3) := by decide +kernel
theorem dX7_mid_36 : decode cX7_mid 36 = .ok (.iload 5, 2) := by decide +kernel
theorem dX7_mid_38 : decode cX7_mid 38 = .ok (.aaload, 1) := by decide +kernel
theorem dX7_mid_39 : decode cX7_mid 39 = .ok (.astore 6, 2) := by decide +kernel
theorem dX7_mid_41 : decode cX7_mid 41 = .ok (.aload 6, 2) := by decide +kernel
theorem dX7_mid_43 : decode cX7_mid 43 = .ok (.invokevirtual 180, 3) := by decide +kernel
theorem dX7_mid_46 : decode cX7_mid 46 = .ok (.ifCond .ne 32, 3) := by decide +kernel
theorem dX7_mid_49 : decode cX7_mid 49 = .ok (.aload 6, 2) := by decide +kernel
theorem dX7_mid_51 : decode cX7_mid 51 = .ok (.aload_n 0, 1) := by decide +kernel
theorem dX7_mid_52 : decode cX7_mid 52 = .ok (.getfield 28, 3) := by decide +kernel
theorem dX7_mid_55 : decode cX7_mid 55 = .ok (.getfield 151, 3) := by decide +kernel
theorem dX7_mid_58 : decode cX7_mid 58 = .ok (.invokevirtual 290, 3) := by decide +kernel
theorem dX7_mid_61 : decode cX7_mid 61 = .ok (.ifCond .eq 17, 3) := by decide +kernel
theorem dX7_mid_64 : decode cX7_mid 64 = .ok (.lload_n 3, 1) := by decide +kernel
theorem dX7_mid_65 : decode cX7_mid 65 = .ok (.aload_n 0, 1) := by decide +kernel
theorem dX7_mid_66 : decode cX7_mid 66 = .ok (.getfield 28, 3) := by decide +kernel
theorem dX7_mid_69 : decode cX7_mid 69 = .ok (.aload 6, 2) := by decide +kernel
theorem dX7_mid_71 : decode cX7_mid 71 = .ok (.iload_n 1, 1) := by decide +kernel
theorem dX7_mid_72 : decode cX7_mid 72 = .ok (.invokevirtual 285, 3) := by decide +kernel
theorem dX7_mid_75 : decode cX7_mid 75 = .ok (.i2l, 1) := by decide +kernel
theorem dX7_mid_76 : decode cX7_mid 76 = .ok (.ladd, 1) := by decide +kernel
theorem dX7_mid_77 : decode cX7_mid 77 = .ok (.lstore_n 3, 1) := by decide +kernel
theorem dX7_mid_78 : decode cX7_mid 78 = .ok (.iinc 5 1, 3) := by decide +kernel
theorem dX7_mid_81 : decode cX7_mid 81 = .ok (.goto (-64), 3) := by decide +kernel
theorem dX7_mid_84 : decode cX7_mid 84 = .ok (.aload_n 0, 1) := by decide +kernel
theorem dX7_mid_85 : decode cX7_mid 85 = .ok (.lload_n 3, 1) := by decide +kernel
theorem dX7_mid_86 : decode cX7_mid 86 = .ok (.ldc2_w 288, 3) := by decide +kernel
theorem dX7_mid_89 : decode cX7_mid 89 = .ok (.invokevirtual 217, 3) := by decide +kernel
theorem dX7_mid_92 : decode cX7_mid 92 = .ok (.iconst 1, 1) := by decide +kernel
theorem dX7_mid_93 : decode cX7_mid 93 = .ok (.ireturn, 1) := by decide +kernel
theorem dX7_lots_0 : decode cX7_lots 0 = .ok (.iload_n 1, 1) := by decide +kernel
theorem dX7_lots_1 : decode cX7_lots 1 = .ok (.iconst 1, 1) := by decide +kernel
theorem dX7_lots_2 : decode cX7_lots 2 = .ok (.if_icmp .lt 21, 3) := by decide +kernel
theorem dX7_lots_5 : decode cX7_lots 5 = .ok (.iload_n 1, 1) := by decide +kernel
theorem dX7_lots_6 : decode cX7_lots 6 = .ok (.bipush 20, 2) := by decide +kernel
theorem dX7_lots_8 : decode cX7_lots 8 = .ok (.if_icmp .gt 15, 3) := by decide +kernel
theorem dX7_lots_11 : decode cX7_lots 11 = .ok (.iload_n 2, 1) := by decide +kernel
theorem dX7_lots_12 : decode cX7_lots 12 = .ok (.iconst 1, 1) := by decide +kernel
theorem dX7_lots_13 : decode cX7_lots 13 = .ok (.if_icmp .lt 10, 3) := by decide +kernel
theorem dX7_lots_16 : decode cX7_lots 16 = .ok (.iload_n 2, 1) := by decide +kernel
theorem dX7_lots_17 : decode cX7_lots 17 = .ok (.ldc_w 293, 3) := by decide +kernel
theorem dX7_lots_20 : decode cX7_lots 20 = .ok (.if_icmp .le 5, 3) := by decide +kernel
theorem dX7_lots_23 : decode cX7_lots 23 = .ok (.iconst (-1), 1) := by decide +kernel
theorem dX7_lots_24 : decode cX7_lots 24 = .ok (.ireturn, 1) := by decide +kernel
theorem dX7_lots_25 : decode cX7_lots 25 = .ok (.aload_n 0, 1) := by decide +kernel
theorem dX7_lots_26 : decode cX7_lots 26 = .ok (.getfield 28, 3) := by decide +kernel
theorem dX7_lots_29 : decode cX7_lots 29 = .ok (.getfield 121, 3) := by decide +kernel
theorem dX7_lots_32 : decode cX7_lots 32 = .ok (.ifCond .ne 6, 3) := by decide +kernel
theorem dX7_lots_35 : decode cX7_lots 35 = .ok (.bipush (-4), 2) := by decide +kernel
theorem dX7_lots_37 : decode cX7_lots 37 = .ok (.ireturn, 1) := by decide +kernel
theorem dX7_lots_38 : decode cX7_lots 38 = .ok (.aload_n 0, 1) := by decide +kernel
theorem dX7_lots_39 : decode cX7_lots 39 = .ok (.getfield 28, 3) := by decide +kernel
theorem dX7_lots_42 : decode cX7_lots 42 = .ok (.getfield 166, 3) := by decide +kernel
theorem dX7_lots_45 : decode cX7_lots 45 = .ok (.iload_n 1, 1) := by decide +kernel
theorem dX7_lots_46 : decode cX7_lots 46 = .ok (.invokevirtual 170, 3) := by decide +kernel
theorem dX7_lots_49 : decode cX7_lots 49 = .ok (.ifCond .ne 6, 3) := by decide +kernel
theorem dX7_lots_52 : decode cX7_lots 52 = .ok (.bipush (-2), 2) := by decide +kernel
theorem dX7_lots_54 : decode cX7_lots 54 = .ok (.ireturn, 1) := by decide +kernel
theorem dX7_lots_55 : decode cX7_lots 55 = .ok (.aload_n 0, 1) := by decide +kernel
theorem dX7_lots_56 : decode cX7_lots 56 = .ok (.getfield 28, 3) := by decide +kernel
theorem dX7_lots_59 : decode cX7_lots 59 = .ok (.invokevirtual 294, 3) := by decide +kernel
theorem dX7_lots_62 : decode cX7_lots 62 = .ok (.istore_n 3, 1) := by decide +kernel
theorem dX7_lots_63 : decode cX7_lots 63 = .ok (.iload_n 2, 1) := by decide +kernel
theorem dX7_lots_64 : decode cX7_lots 64 = .ok (.i2l, 1) := by decide +kernel
theorem dX7_lots_65 : decode cX7_lots 65 = .ok (.lstore 4, 2) := by decide +kernel
theorem dX7_lots_67 : decode cX7_lots 67 = .ok (.iconst 0, 1) := by decide +kernel
theorem dX7_lots_68 : decode cX7_lots 68 = .ok (.istore 6, 2) := by decide +kernel
theorem dX7_lots_70 : decode cX7_lots 70 = .ok (.iload 6, 2) := by decide +kernel
theorem dX7_lots_72 : decode cX7_lots 72 = .ok (.iload_n 1, 1) := by decide +kernel
theorem dX7_lots_73 : decode cX7_lots 73 = .ok (.if_icmp .ge 93, 3) := by decide +kernel
theorem dX7_lots_76 : decode cX7_lots 76 = .ok (.lload 4, 2) := by decide +kernel
theorem dX7_lots_78 : decode cX7_lots 78 = .ok (.ldc2_w 297, 3) := by decide +kernel
theorem dX7_lots_81 : decode cX7_lots 81 = .ok (.lmul, 1) := by decide +kernel
theorem dX7_lots_82 : decode cX7_lots 82 = .ok (.ldc2_w 299, 3) := by decide +kernel
theorem dX7_lots_85 : decode cX7_lots 85 = .ok (.lrem, 1) := by decide +kernel
theorem dX7_lots_86 : decode cX7_lots 86 = .ok (.lstore 4, 2) := by decide +kernel
theorem dX7_lots_88 : decode cX7_lots 88 = .ok (.lload 4, 2) := by decide +kernel
theorem dX7_lots_90 : decode cX7_lots 90 = .ok (.ldc2_w 301, 3) := by decide +kernel
theorem dX7_lots_93 : decode cX7_lots 93 = .ok (.ldiv, 1) := by decide +kernel
theorem dX7_lots_94 : decode cX7_lots 94 = .ok (.l2i, 1) := by decide +kernel
theorem dX7_lots_95 : decode cX7_lots 95 = .ok (.istore 7, 2) := by decide +kernel
theorem dX7_lots_97 : decode cX7_lots 97 = .ok (.lload 4, 2) := by decide +kernel
theorem dX7_lots_99 : decode cX7_lots 99 = .ok (.ldc2_w 303, 3) := by decide +kernel
theorem dX7_lots_102 : decode cX7_lots 102 = .ok (.lrem, 1) := by decide +kernel
theorem dX7_lots_103 : decode cX7_lots 103 = .ok (.lconst 0, 1) := by decide +kernel
theorem dX7_lots_104 : decode cX7_lots 104 = .ok (.lcmp, 1) := by decide +kernel
theorem dX7_lots_105 : decode cX7_lots 105 = .ok (.ifCond .ne 21, 3) := by decide +kernel
theorem dX7_lots_108 : decode cX7_lots 108 = .ok (.aload_n 0, 1) := by decide +kernel
theorem dX7_lots_109 : decode cX7_lots 109 = .ok (.getfield 28, 3) := by decide +kernel
theorem dX7_lots_112 : decode cX7_lots 112 = .ok (.iconst 0, 1) := by decide +kernel
theorem dX7_lots_113 : decode cX7_lots 113 = .ok (.iload 7, 2) := by decide +kernel
theorem dX7_lots_115 : decode cX7_lots 115 = .ok (.bipush 11, 2) := by decide +kernel
theorem dX7_lots_117 : decode cX7_lots 117 = .ok (.irem, 1) := by decide +kernel
theorem dX7_lots_118 : decode cX7_lots 118 = .ok (.iconst 5, 1) := by decide +kernel
theorem dX7_lots_119 : decode cX7_lots 119 = .ok (.isub, 1) := by decide +kernel
theorem dX7_lots_120 : decode cX7_lots 120 = .ok (.invokevirtual 173, 3) := by decide +kernel
theorem dX7_lots_123 : decode cX7_lots 123 = .ok (.goto 37, 3) := by decide +kernel
theorem dX7_lots_126 : decode cX7_lots 126 = .ok (.iload 7, 2) := by decide +kernel
theorem dX7_lots_128 : decode cX7_lots 128 = .ok (.aload_n 0, 1) := by decide +kernel
theorem dX7_lots_129 : decode cX7_lots 129 = .ok (.getfield 28, 3) := by decide +kernel
theorem dX7_lots_132 : decode cX7_lots 132 = .ok (.getfield 121, 3) := by decide +kernel
theorem dX7_lots_135 : decode cX7_lots 135 = .ok (.irem, 1) := by decide +kernel
theorem dX7_lots_136 : decode cX7_lots 136 = .ok (.istore 8, 2) := by decide +kernel
theorem dX7_lots_138 : decode cX7_lots 138 = .ok (.aload_n 0, 1) := by decide +kernel
theorem dX7_lots_139 : decode cX7_lots 139 = .ok (.getfield 28, 3) := by decide +kernel
theorem dX7_lots_142 : decode cX7_lots 142 = .ok (.aload_n 0, 1) := by decide +kernel
theorem dX7_lots_143 : decode cX7_lots 143 = .ok (.getfield 28, 3) := by decide +kernel
theorem dX7_lots_146 : decode cX7_lots 146 = .ok (.getfield 126, 3) := by decide +kernel
theorem dX7_lots_149 : decode cX7_lots 149 = .ok (.iload 8, 2) := by decide +kernel
theorem dX7_lots_151 : decode cX7_lots 151 = .ok (.aaload, 1) := by decide +kernel
theorem dX7_lots_152 : decode cX7_lots 152 = .ok (.invokevirtual 305, 3) := by decide +kernel
theorem dX7_lots_155 : decode cX7_lots 155 = .ok (.iload 8, 2) := by decide +kernel
theorem dX7_lots_157 : decode cX7_lots 157 = .ok (.invokevirtual 173, 3) := by decide +kernel
theorem dX7_lots_160 : decode cX7_lots 160 = .ok (.iinc 6 1, 3) := by decide +kernel
theorem dX7_lots_163 : decode cX7_lots 163 = .ok (.goto (-93), 3) := by decide +kernel
theorem dX7_lots_166 : decode cX7_lots 166 = .ok (.aload_n 0, 1) := by decide +kernel
theorem dX7_lots_167 : decode cX7_lots 167 = .ok (.getfield 28, 3) := by decide +kernel
theorem dX7_lots_170 : decode cX7_lots 170 = .ok (.invokevirtual 294, 3) := by decide +kernel
theorem dX7_lots_173 : decode cX7_lots 173 = .ok (.iload_n 3, 1) := by decide +kernel
theorem dX7_lots_174 : decode cX7_lots 174 = .ok (.isub, 1) := by decide +kernel
theorem dX7_lots_175 : decode cX7_lots 175 = .ok (.ireturn, 1) := by decide +kernel
theorem dX7_asked_0 : decode cX7_asked 0 = .ok (.aload_n 0, 1) := by decide +kernel
theorem dX7_asked_1 : decode cX7_asked 1 = .ok (.getfield 75, 3) := by decide +kernel
theorem dX7_asked_4 : decode cX7_asked 4 = .ok (.ireturn, 1) := by decide +kernel
theorem dX7_upper_0 : decode cX7_upper 0 = .ok (.aload_n 0, 1) := by decide +kernel
theorem dX7_upper_1 : decode cX7_upper 1 = .ok (.getfield 308, 3) := by decide +kernel
theorem dX7_upper_4 : decode cX7_upper 4 = .ok (.lreturn, 1) := by decide +kernel
theorem dX7_lower_0 : decode cX7_lower 0 = .ok (.aload_n 0, 1) := by decide +kernel
theorem dX7_lower_1 : decode cX7_lower 1 = .ok (.getfield 56, 3) := by decide +kernel
theorem dX7_lower_4 : decode cX7_lower 4 = .ok (.lreturn, 1) := by decide +kernel
theorem dX7_count_0 : decode cX7_count 0 = .ok (.iload_n 1, 1) := by decide +kernel
theorem dX7_count_1 : decode cX7_count 1 = .ok (.tableswitch 147 0 10 #[59, 67, 75, 86, 94, 102, 110, 118, 126, 134, 142], 59) := by decide +kernel
theorem dX7_count_60 : decode cX7_count 60 = .ok (.aload_n 0, 1) := by decide +kernel
theorem dX7_count_61 : decode cX7_count 61 = .ok (.getfield 28, 3) := by decide +kernel
theorem dX7_count_64 : decode cX7_count 64 = .ok (.getfield 121, 3) := by decide +kernel
theorem dX7_count_67 : decode cX7_count 67 = .ok (.ireturn, 1) := by decide +kernel
theorem dX7_count_68 : decode cX7_count 68 = .ok (.aload_n 0, 1) := by decide +kernel
theorem dX7_count_69 : decode cX7_count 69 = .ok (.getfield 28, 3) := by decide +kernel
theorem dX7_count_72 : decode cX7_count 72 = .ok (.getfield 151, 3) := by decide +kernel
theorem dX7_count_75 : decode cX7_count 75 = .ok (.ireturn, 1) := by decide +kernel
theorem dX7_count_76 : decode cX7_count 76 = .ok (.aload_n 0, 1) := by decide +kernel
theorem dX7_count_77 : decode cX7_count 77 = .ok (.getfield 28, 3) := by decide +kernel
theorem dX7_count_80 : decode cX7_count 80 = .ok (.getfield 166, 3) := by decide +kernel
theorem dX7_count_83 : decode cX7_count 83 = .ok (.getfield 120, 3) := by decide +kernel
theorem dX7_count_86 : decode cX7_count 86 = .ok (.ireturn, 1) := by decide +kernel
theorem dX7_count_87 : decode cX7_count 87 = .ok (.aload_n 0, 1) := by decide +kernel
theorem dX7_count_88 : decode cX7_count 88 = .ok (.getfield 28, 3) := by decide +kernel
theorem dX7_count_91 : decode cX7_count 91 = .ok (.invokevirtual 311, 3) := by decide +kernel
theorem dX7_count_94 : decode cX7_count 94 = .ok (.ireturn, 1) := by decide +kernel
theorem dX7_count_95 : decode cX7_count 95 = .ok (.aload_n 0, 1) := by decide +kernel
theorem dX7_count_96 : decode cX7_count 96 = .ok (.getfield 28, 3) := by decide +kernel
theorem dX7_count_99 : decode cX7_count 99 = .ok (.invokevirtual 231, 3) := by decide +kernel
theorem dX7_count_102 : decode cX7_count 102 = .ok (.ireturn, 1) := by decide +kernel
theorem dX7_count_103 : decode cX7_count 103 = .ok (.aload_n 0, 1) := by decide +kernel
theorem dX7_count_104 : decode cX7_count 104 = .ok (.getfield 28, 3) := by decide +kernel
theorem dX7_count_107 : decode cX7_count 107 = .ok (.invokevirtual 294, 3) := by decide +kernel
theorem dX7_count_110 : decode cX7_count 110 = .ok (.ireturn, 1) := by decide +kernel
theorem dX7_count_111 : decode cX7_count 111 = .ok (.aload_n 0, 1) := by decide +kernel
theorem dX7_count_112 : decode cX7_count 112 = .ok (.getfield 28, 3) := by decide +kernel
theorem dX7_count_115 : decode cX7_count 115 = .ok (.invokevirtual 314, 3) := by decide +kernel
theorem dX7_count_118 : decode cX7_count 118 = .ok (.ireturn, 1) := by decide +kernel
theorem dX7_count_119 : decode cX7_count 119 = .ok (.aload_n 0, 1) := by decide +kernel
theorem dX7_count_120 : decode cX7_count 120 = .ok (.getfield 28, 3) := by decide +kernel
theorem dX7_count_123 : decode cX7_count 123 = .ok (.invokevirtual 317, 3) := by decide +kernel
theorem dX7_count_126 : decode cX7_count 126 = .ok (.ireturn, 1) := by decide +kernel
theorem dX7_count_127 : decode cX7_count 127 = .ok (.aload_n 0, 1) := by decide +kernel
theorem dX7_count_128 : decode cX7_count 128 = .ok (.getfield 11, 3) := by decide +kernel
theorem dX7_count_131 : decode cX7_count 131 = .ok (.invokestatic 320, 3) := by decide +kernel
theorem dX7_count_134 : decode cX7_count 134 = .ok (.ireturn, 1) := by decide +kernel
theorem dX7_count_135 : decode cX7_count 135 = .ok (.aload_n 0, 1) := by decide +kernel
theorem dX7_count_136 : decode cX7_count 136 = .ok (.getfield 15, 3) := by decide +kernel
theorem dX7_count_139 : decode cX7_count 139 = .ok (.invokestatic 320, 3) := by decide +kernel
theorem dX7_count_142 : decode cX7_count 142 = .ok (.ireturn, 1) := by decide +kernel
theorem dX7_count_143 : decode cX7_count 143 = .ok (.aload_n 0, 1) := by decide +kernel
theorem dX7_count_144 : decode cX7_count 144 = .ok (.invokevirtual 324, 3) := by decide +kernel
theorem dX7_count_147 : decode cX7_count 147 = .ok (.ireturn, 1) := by decide +kernel
theorem dX7_count_148 : decode cX7_count 148 = .ok (.iconst (-1), 1) := by decide +kernel
theorem dX7_count_149 : decode cX7_count 149 = .ok (.ireturn, 1) := by decide +kernel
theorem dX7_finding_0 : decode cX7_finding 0 = .ok (.aload_n 0, 1) := by decide +kernel
theorem dX7_finding_1 : decode cX7_finding 1 = .ok (.getfield 327, 3) := by decide +kernel
theorem dX7_finding_4 : decode cX7_finding 4 = .ok (.ireturn, 1) := by decide +kernel
theorem dX7_findings_0 : decode cX7_findings 0 = .ok (.iload_n 1, 1) := by decide +kernel
theorem dX7_findings_1 : decode cX7_findings 1 = .ok (.iconst 1, 1) := by decide +kernel
theorem dX7_findings_2 : decode cX7_findings 2 = .ok (.if_icmp .lt 8, 3) := by decide +kernel
theorem dX7_findings_5 : decode cX7_findings 5 = .ok (.iload_n 1, 1) := by decide +kernel
theorem dX7_findings_6 : decode cX7_findings 6 = .ok (.iconst 5, 1) := by decide +kernel
theorem dX7_findings_7 : decode cX7_findings 7 = .ok (.if_icmp .le 5, 3) := by decide +kernel
theorem dX7_findings_10 : decode cX7_findings 10 = .ok (.iconst (-1), 1) := by decide +kernel
theorem dX7_findings_11 : decode cX7_findings 11 = .ok (.ireturn, 1) := by decide +kernel
theorem dX7_findings_12 : decode cX7_findings 12 = .ok (.aload_n 0, 1) := by decide +kernel
theorem dX7_findings_13 : decode cX7_findings 13 = .ok (.getfield 52, 3) := by decide +kernel
theorem dX7_findings_16 : decode cX7_findings 16 = .ok (.iload_n 1, 1) := by decide +kernel
theorem dX7_findings_17 : decode cX7_findings 17 = .ok (.iaload, 1) := by decide +kernel
theorem dX7_findings_18 : decode cX7_findings 18 = .ok (.ireturn, 1) := by decide +kernel
theorem dX7_digest_0 : decode cX7_digest 0 = .ok (.ldc2_w 330, 3) := by decide +kernel
theorem dX7_digest_3 : decode cX7_digest 3 = .ok (.lstore_n 1, 1) := by decide +kernel
theorem dX7_digest_4 : decode cX7_digest 4 = .ok (.iconst 0, 1) := by decide +kernel
theorem dX7_digest_5 : decode cX7_digest 5 = .ok (.istore_n 3, 1) := by decide +kernel
theorem dX7_digest_6 : decode cX7_digest 6 = .ok (.iload_n 3, 1) := by decide +kernel
theorem dX7_digest_7 : decode cX7_digest 7 = .ok (.bipush 11, 2) := by decide +kernel
theorem dX7_digest_9 : decode cX7_digest 9 = .ok (.if_icmp .ge 22, 3) := by decide +kernel
theorem dX7_digest_12 : decode cX7_digest 12 = .ok (.ldc2_w 332, 3) := by decide +kernel
theorem dX7_digest_15 : decode cX7_digest 15 = .ok (.lload_n 1, 1) := by decide +kernel
theorem dX7_digest_16 : decode cX7_digest 16 = .ok (.lmul, 1) := by decide +kernel
theorem dX7_digest_17 : decode cX7_digest 17 = .ok (.aload_n 0, 1) := by decide +kernel
theorem dX7_digest_18 : decode cX7_digest 18 = .ok (.iload_n 3, 1) := by decide +kernel
theorem dX7_digest_19 : decode cX7_digest 19 = .ok (.invokevirtual 334, 3) := by decide +kernel
theorem dX7_digest_22 : decode cX7_digest 22 = .ok (.i2l, 1) := by decide +kernel
theorem dX7_digest_23 : decode cX7_digest 23 = .ok (.ladd, 1) := by decide +kernel
theorem dX7_digest_24 : decode cX7_digest 24 = .ok (.lstore_n 1, 1) := by decide +kernel
theorem dX7_digest_25 : decode cX7_digest 25 = .ok (.iinc 3 1, 3) := by decide +kernel
theorem dX7_digest_28 : decode cX7_digest 28 = .ok (.goto (-22), 3) := by decide +kernel
theorem dX7_digest_31 : decode cX7_digest 31 = .ok (.iconst 0, 1) := by decide +kernel
theorem dX7_digest_32 : decode cX7_digest 32 = .ok (.istore_n 3, 1) := by decide +kernel
theorem dX7_digest_33 : decode cX7_digest 33 = .ok (.iload_n 3, 1) := by decide +kernel
theorem dX7_digest_34 : decode cX7_digest 34 = .ok (.aload_n 0, 1) := by decide +kernel
theorem dX7_digest_35 : decode cX7_digest 35 = .ok (.getfield 28, 3) := by decide +kernel
theorem dX7_digest_38 : decode cX7_digest 38 = .ok (.getfield 121, 3) := by decide +kernel
theorem dX7_digest_41 : decode cX7_digest 41 = .ok (.if_icmp .ge 51, 3) := by decide +kernel
theorem dX7_digest_44 : decode cX7_digest 44 = .ok (.iconst 0, 1) := by decide +kernel
theorem dX7_digest_45 : decode cX7_digest 45 = .ok (.istore 4, 2) := by decide +kernel
theorem dX7_digest_47 : decode cX7_digest 47 = .ok (.iload 4, 2) := by decide +kernel
theorem dX7_digest_49 : decode cX7_digest 49 = .ok (.bipush 9, 2) := by decide +kernel
theorem dX7_digest_51 : decode cX7_digest 51 = .ok (.if_icmp .ge 35, 3) := by decide +kernel
theorem dX7_digest_54 : decode cX7_digest 54 = .ok (.ldc2_w 332, 3) := by decide +kernel
theorem dX7_digest_57 : decode cX7_digest 57 = .ok (.lload_n 1, 1) := by decide +kernel
theorem dX7_digest_58 : decode cX7_digest 58 = .ok (.lmul, 1) := by decide +kernel
theorem dX7_digest_59 : decode cX7_digest 59 = .ok (.aload_n 0, 1) := by decide +kernel
theorem dX7_digest_60 : decode cX7_digest 60 = .ok (.getfield 28, 3) := by decide +kernel
theorem dX7_digest_63 : decode cX7_digest 63 = .ok (.aload_n 0, 1) := by decide +kernel
theorem dX7_digest_64 : decode cX7_digest 64 = .ok (.getfield 28, 3) := by decide +kernel
theorem dX7_digest_67 : decode cX7_digest 67 = .ok (.getfield 126, 3) := by decide +kernel
theorem dX7_digest_70 : decode cX7_digest 70 = .ok (.iload_n 3, 1) := by decide +kernel
theorem dX7_digest_71 : decode cX7_digest 71 = .ok (.aaload, 1) := by decide +kernel
theorem dX7_digest_72 : decode cX7_digest 72 = .ok (.iload 4, 2) := by decide +kernel
theorem dX7_digest_74 : decode cX7_digest 74 = .ok (.invokevirtual 130, 3) := by decide +kernel
theorem dX7_digest_77 : decode cX7_digest 77 = .ok (.i2l, 1) := by decide +kernel
theorem dX7_digest_78 : decode cX7_digest 78 = .ok (.ladd, 1) := by decide +kernel
theorem dX7_digest_79 : decode cX7_digest 79 = .ok (.lstore_n 1, 1) := by decide +kernel
theorem dX7_digest_80 : decode cX7_digest 80 = .ok (.iinc 4 1, 3) := by decide +kernel
theorem dX7_digest_83 : decode cX7_digest 83 = .ok (.goto (-36), 3) := by decide +kernel
theorem dX7_digest_86 : decode cX7_digest 86 = .ok (.iinc 3 1, 3) := by decide +kernel
theorem dX7_digest_89 : decode cX7_digest 89 = .ok (.goto (-56), 3) := by decide +kernel
theorem dX7_digest_92 : decode cX7_digest 92 = .ok (.iconst 0, 1) := by decide +kernel
theorem dX7_digest_93 : decode cX7_digest 93 = .ok (.istore_n 3, 1) := by decide +kernel
theorem dX7_digest_94 : decode cX7_digest 94 = .ok (.iload_n 3, 1) := by decide +kernel
theorem dX7_digest_95 : decode cX7_digest 95 = .ok (.iconst 3, 1) := by decide +kernel
theorem dX7_digest_96 : decode cX7_digest 96 = .ok (.if_icmp .ge 26, 3) := by decide +kernel
theorem dX7_digest_99 : decode cX7_digest 99 = .ok (.ldc2_w 332, 3) := by decide +kernel
theorem dX7_digest_102 : decode cX7_digest 102 = .ok (.lload_n 1, 1) := by decide +kernel
theorem dX7_digest_103 : decode cX7_digest 103 = .ok (.lmul, 1) := by decide +kernel
theorem dX7_digest_104 : decode cX7_digest 104 = .ok (.aload_n 0, 1) := by decide +kernel
theorem dX7_digest_105 : decode cX7_digest 105 = .ok (.getfield 34, 3) := by decide +kernel
theorem dX7_digest_108 : decode cX7_digest 108 = .ok (.iload_n 3, 1) := by decide +kernel
theorem dX7_digest_109 : decode cX7_digest 109 = .ok (.aaload, 1) := by decide +kernel
theorem dX7_digest_110 : decode cX7_digest 110 = .ok (.getfield 120, 3) := by decide +kernel
theorem dX7_digest_113 : decode cX7_digest 113 = .ok (.i2l, 1) := by decide +kernel
theorem dX7_digest_114 : decode cX7_digest 114 = .ok (.ladd, 1) := by decide +kernel
theorem dX7_digest_115 : decode cX7_digest 115 = .ok (.lstore_n 1, 1) := by decide +kernel
theorem dX7_digest_116 : decode cX7_digest 116 = .ok (.iinc 3 1, 3) := by decide +kernel
theorem dX7_digest_119 : decode cX7_digest 119 = .ok (.goto (-25), 3) := by decide +kernel
theorem dX7_digest_122 : decode cX7_digest 122 = .ok (.iconst 0, 1) := by decide +kernel
theorem dX7_digest_123 : decode cX7_digest 123 = .ok (.istore_n 3, 1) := by decide +kernel
theorem dX7_digest_124 : decode cX7_digest 124 = .ok (.iload_n 3, 1) := by decide +kernel
theorem dX7_digest_125 : decode cX7_digest 125 = .ok (.bipush 6, 2) := by decide +kernel
theorem dX7_digest_127 : decode cX7_digest 127 = .ok (.if_icmp .ge 20, 3) := by decide +kernel
theorem dX7_digest_130 : decode cX7_digest 130 = .ok (.aload_n 0, 1) := by decide +kernel
theorem dX7_digest_131 : decode cX7_digest 131 = .ok (.getfield 11, 3) := by decide +kernel
theorem dX7_digest_134 : decode cX7_digest 134 = .ok (.iload_n 3, 1) := by decide +kernel
theorem dX7_digest_135 : decode cX7_digest 135 = .ok (.aaload, 1) := by decide +kernel
theorem dX7_digest_136 : decode cX7_digest 136 = .ok (.lload_n 1, 1) := by decide +kernel
theorem dX7_digest_137 : decode cX7_digest 137 = .ok (.invokevirtual 337, 3) := by decide +kernel
theorem dX7_digest_140 : decode cX7_digest 140 = .ok (.lstore_n 1, 1) := by decide +kernel
theorem dX7_digest_141 : decode cX7_digest 141 = .ok (.iinc 3 1, 3) := by decide +kernel
theorem dX7_digest_144 : decode cX7_digest 144 = .ok (.goto (-20), 3) := by decide +kernel
theorem dX7_digest_147 : decode cX7_digest 147 = .ok (.iconst 0, 1) := by decide +kernel
theorem dX7_digest_148 : decode cX7_digest 148 = .ok (.istore_n 3, 1) := by decide +kernel
theorem dX7_digest_149 : decode cX7_digest 149 = .ok (.iload_n 3, 1) := by decide +kernel
theorem dX7_digest_150 : decode cX7_digest 150 = .ok (.iconst 4, 1) := by decide +kernel
theorem dX7_digest_151 : decode cX7_digest 151 = .ok (.if_icmp .ge 20, 3) := by decide +kernel
theorem dX7_digest_154 : decode cX7_digest 154 = .ok (.aload_n 0, 1) := by decide +kernel
theorem dX7_digest_155 : decode cX7_digest 155 = .ok (.getfield 15, 3) := by decide +kernel
theorem dX7_digest_158 : decode cX7_digest 158 = .ok (.iload_n 3, 1) := by decide +kernel
theorem dX7_digest_159 : decode cX7_digest 159 = .ok (.aaload, 1) := by decide +kernel
theorem dX7_digest_160 : decode cX7_digest 160 = .ok (.lload_n 1, 1) := by decide +kernel
theorem dX7_digest_161 : decode cX7_digest 161 = .ok (.invokevirtual 337, 3) := by decide +kernel
theorem dX7_digest_164 : decode cX7_digest 164 = .ok (.lstore_n 1, 1) := by decide +kernel
theorem dX7_digest_165 : decode cX7_digest 165 = .ok (.iinc 3 1, 3) := by decide +kernel
theorem dX7_digest_168 : decode cX7_digest 168 = .ok (.goto (-19), 3) := by decide +kernel
theorem dX7_digest_171 : decode cX7_digest 171 = .ok (.lload_n 1, 1) := by decide +kernel
theorem dX7_digest_172 : decode cX7_digest 172 = .ok (.lreturn, 1) := by decide +kernel
theorem dX7_found_0 : decode cX7_found 0 = .ok (.aload_n 0, 1) := by decide +kernel
theorem dX7_found_1 : decode cX7_found 1 = .ok (.iload_n 1, 1) := by decide +kernel
theorem dX7_found_2 : decode cX7_found 2 = .ok (.putfield 327, 3) := by decide +kernel
theorem dX7_found_5 : decode cX7_found 5 = .ok (.aload_n 0, 1) := by decide +kernel
theorem dX7_found_6 : decode cX7_found 6 = .ok (.getfield 52, 3) := by decide +kernel
theorem dX7_found_9 : decode cX7_found 9 = .ok (.iload_n 1, 1) := by decide +kernel
theorem dX7_found_10 : decode cX7_found 10 = .ok (.dup2, 1) := by decide +kernel
theorem dX7_found_11 : decode cX7_found 11 = .ok (.iaload, 1) := by decide +kernel
theorem dX7_found_12 : decode cX7_found 12 = .ok (.iconst 1, 1) := by decide +kernel
theorem dX7_found_13 : decode cX7_found 13 = .ok (.iadd, 1) := by decide +kernel
theorem dX7_found_14 : decode cX7_found 14 = .ok (.iastore, 1) := by decide +kernel
theorem dX7_found_15 : decode cX7_found 15 = .ok (.bipush (-3), 2) := by decide +kernel
theorem dX7_found_17 : decode cX7_found 17 = .ok (.ireturn, 1) := by decide +kernel
theorem dX7_isOneOf_0 : decode cX7_isOneOf 0 = .ok (.iload_n 1, 1) := by decide +kernel
theorem dX7_isOneOf_1 : decode cX7_isOneOf 1 = .ok (.ifCond .lt 13, 3) := by decide +kernel
theorem dX7_isOneOf_4 : decode cX7_isOneOf 4 = .ok (.iload_n 1, 1) := by decide +kernel
theorem dX7_isOneOf_5 : decode cX7_isOneOf 5 = .ok (.aload_n 0, 1) := by decide +kernel
theorem dX7_isOneOf_6 : decode cX7_isOneOf 6 = .ok (.arraylength, 1) := by decide +kernel
theorem dX7_isOneOf_7 : decode cX7_isOneOf 7 = .ok (.if_icmp .ge 7, 3) := by decide +kernel
theorem dX7_isOneOf_10 : decode cX7_isOneOf 10 = .ok (.iconst 1, 1) := by decide +kernel
theorem dX7_isOneOf_11 : decode cX7_isOneOf 11 = .ok (.goto 4, 3) := by decide +kernel
theorem dX7_isOneOf_14 : decode cX7_isOneOf 14 = .ok (.iconst 0, 1) := by decide +kernel
theorem dX7_isOneOf_15 : decode cX7_isOneOf 15 = .ok (.ireturn, 1) := by decide +kernel
theorem dX7_isMan_0 : decode cX7_isMan 0 = .ok (.iload_n 1, 1) := by decide +kernel
theorem dX7_isMan_1 : decode cX7_isMan 1 = .ok (.ifCond .lt 18, 3) := by decide +kernel
theorem dX7_isMan_4 : decode cX7_isMan 4 = .ok (.iload_n 1, 1) := by decide +kernel
theorem dX7_isMan_5 : decode cX7_isMan 5 = .ok (.aload_n 0, 1) := by decide +kernel
theorem dX7_isMan_6 : decode cX7_isMan 6 = .ok (.getfield 28, 3) := by decide +kernel
theorem dX7_isMan_9 : decode cX7_isMan 9 = .ok (.getfield 121, 3) := by decide +kernel
theorem dX7_isMan_12 : decode cX7_isMan 12 = .ok (.if_icmp .ge 7, 3) := by decide +kernel
theorem dX7_isMan_15 : decode cX7_isMan 15 = .ok (.iconst 1, 1) := by decide +kernel
theorem dX7_isMan_16 : decode cX7_isMan 16 = .ok (.goto 4, 3) := by decide +kernel
theorem dX7_isMan_19 : decode cX7_isMan 19 = .ok (.iconst 0, 1) := by decide +kernel
theorem dX7_isMan_20 : decode cX7_isMan 20 = .ok (.ireturn, 1) := by decide +kernel
theorem dX7_isKeptPlace_0 : decode cX7_isKeptPlace 0 = .ok (.iload_n 0, 1) := by decide +kernel
theorem dX7_isKeptPlace_1 : decode cX7_isKeptPlace 1 = .ok (.ifCond .lt 12, 3) := by decide +kernel
theorem dX7_isKeptPlace_4 : decode cX7_isKeptPlace 4 = .ok (.iload_n 0, 1) := by decide +kernel
theorem dX7_isKeptPlace_5 : decode cX7_isKeptPlace 5 = .ok (.iconst 3, 1) := by decide +kernel
theorem dX7_isKeptPlace_6 : decode cX7_isKeptPlace 6 = .ok (.if_icmp .ge 7, 3) := by decide +kernel
theorem dX7_isKeptPlace_9 : decode cX7_isKeptPlace 9 = .ok (.iconst 1, 1) := by decide +kernel
theorem dX7_isKeptPlace_10 : decode cX7_isKeptPlace 10 = .ok (.goto 4, 3) := by decide +kernel
theorem dX7_isKeptPlace_13 : decode cX7_isKeptPlace 13 = .ok (.iconst 0, 1) := by decide +kernel
theorem dX7_isKeptPlace_14 : decode cX7_isKeptPlace 14 = .ok (.ireturn, 1) := by decide +kernel
theorem dX7_missingRefusal_0 : decode cX7_missingRefusal 0 = .ok (.aload_n 1, 1) := by decide +kernel
theorem dX7_missingRefusal_1 : decode cX7_missingRefusal 1 = .ok (.iload_n 2, 1) := by decide +kernel
theorem dX7_missingRefusal_2 : decode cX7_missingRefusal 2 = .ok (.invokestatic 86, 3) := by decide +kernel
theorem dX7_missingRefusal_5 : decode cX7_missingRefusal 5 = .ok (.ifCond .ne 5, 3) := by decide +kernel
theorem dX7_missingRefusal_8 : decode cX7_missingRefusal 8 = .ok (.iconst (-1), 1) := by decide +kernel
theorem dX7_missingRefusal_9 : decode cX7_missingRefusal 9 = .ok (.ireturn, 1) := by decide +kernel
theorem dX7_missingRefusal_10 : decode cX7_missingRefusal 10 = .ok (.aload_n 1, 1) := by decide +kernel
theorem dX7_missingRefusal_11 : decode cX7_missingRefusal 11 = .ok (.iload_n 2, 1) := by decide +kernel
theorem dX7_missingRefusal_12 : decode cX7_missingRefusal 12 = .ok (.aaload, 1) := by decide +kernel
theorem dX7_missingRefusal_13 : decode cX7_missingRefusal 13 = .ok (.invokevirtual 94, 3) := by decide +kernel
theorem dX7_missingRefusal_16 : decode cX7_missingRefusal 16 = .ok (.ifCond .eq 11, 3) := by decide +kernel
theorem dX7_missingRefusal_19 : decode cX7_missingRefusal 19 = .ok (.aload_n 0, 1) := by decide +kernel
theorem dX7_missingRefusal_20 : decode cX7_missingRefusal 20 = .ok (.iconst 1, 1) := by decide +kernel
theorem dX7_missingRefusal_21 : decode cX7_missingRefusal 21 = .ok (.invokevirtual 90, 3) := by decide +kernel
theorem dX7_missingRefusal_24 : decode cX7_missingRefusal 24 = .ok (.goto 4, 3) := by decide +kernel
theorem dX7_missingRefusal_27 : decode cX7_missingRefusal 27 = .ok (.iconst 0, 1) := by decide +kernel
theorem dX7_missingRefusal_28 : decode cX7_missingRefusal 28 = .ok (.ireturn, 1) := by decide +kernel
theorem dX7_placeRefusal_0 : decode cX7_placeRefusal 0 = .ok (.aload_n 0, 1) := by decide +kernel
theorem dX7_placeRefusal_1 : decode cX7_placeRefusal 1 = .ok (.aload_n 1, 1) := by decide +kernel
theorem dX7_placeRefusal_2 : decode cX7_placeRefusal 2 = .ok (.iload_n 2, 1) := by decide +kernel
theorem dX7_placeRefusal_3 : decode cX7_placeRefusal 3 = .ok (.invokevirtual 79, 3) := by decide +kernel
theorem dX7_placeRefusal_6 : decode cX7_placeRefusal 6 = .ok (.istore 4, 2) := by decide +kernel
theorem dX7_placeRefusal_8 : decode cX7_placeRefusal 8 = .ok (.iload 4, 2) := by decide +kernel
theorem dX7_placeRefusal_10 : decode cX7_placeRefusal 10 = .ok (.ifCond .eq 6, 3) := by decide +kernel
theorem dX7_placeRefusal_13 : decode cX7_placeRefusal 13 = .ok (.iload 4, 2) := by decide +kernel
theorem dX7_placeRefusal_15 : decode cX7_placeRefusal 15 = .ok (.ireturn, 1) := by decide +kernel
theorem dX7_placeRefusal_16 : decode cX7_placeRefusal 16 = .ok (.iload_n 3, 1) := by decide +kernel
theorem dX7_placeRefusal_17 : decode cX7_placeRefusal 17 = .ok (.ifCond .lt 17, 3) := by decide +kernel
theorem dX7_placeRefusal_20 : decode cX7_placeRefusal 20 = .ok (.iload_n 3, 1) := by decide +kernel
theorem dX7_placeRefusal_21 : decode cX7_placeRefusal 21 = .ok (.aload_n 1, 1) := by decide +kernel
theorem dX7_placeRefusal_22 : decode cX7_placeRefusal 22 = .ok (.iload_n 2, 1) := by decide +kernel
theorem dX7_placeRefusal_23 : decode cX7_placeRefusal 23 = .ok (.aaload, 1) := by decide +kernel
theorem dX7_placeRefusal_24 : decode cX7_placeRefusal 24 = .ok (.getfield 83, 3) := by decide +kernel
theorem dX7_placeRefusal_27 : decode cX7_placeRefusal 27 = .ok (.if_icmp .ge 7, 3) := by decide +kernel
theorem dX7_placeRefusal_30 : decode cX7_placeRefusal 30 = .ok (.iconst 0, 1) := by decide +kernel
theorem dX7_placeRefusal_31 : decode cX7_placeRefusal 31 = .ok (.goto 8, 3) := by decide +kernel
theorem dX7_placeRefusal_34 : decode cX7_placeRefusal 34 = .ok (.aload_n 0, 1) := by decide +kernel
theorem dX7_placeRefusal_35 : decode cX7_placeRefusal 35 = .ok (.iconst 2, 1) := by decide +kernel
theorem dX7_placeRefusal_36 : decode cX7_placeRefusal 36 = .ok (.invokevirtual 90, 3) := by decide +kernel
theorem dX7_placeRefusal_39 : decode cX7_placeRefusal 39 = .ok (.ireturn, 1) := by decide +kernel
theorem dX7_laidOut_0 : decode cX7_laidOut 0 = .ok (.aload_n 1, 1) := by decide +kernel
theorem dX7_laidOut_1 : decode cX7_laidOut 1 = .ok (.iload_n 2, 1) := by decide +kernel
theorem dX7_laidOut_2 : decode cX7_laidOut 2 = .ok (.invokestatic 86, 3) := by decide +kernel
theorem dX7_laidOut_5 : decode cX7_laidOut 5 = .ok (.ifCond .eq 14, 3) := by decide +kernel
theorem dX7_laidOut_8 : decode cX7_laidOut 8 = .ok (.iload_n 3, 1) := by decide +kernel
theorem dX7_laidOut_9 : decode cX7_laidOut 9 = .ok (.aload_n 1, 1) := by decide +kernel
theorem dX7_laidOut_10 : decode cX7_laidOut 10 = .ok (.iload_n 2, 1) := by decide +kernel
theorem dX7_laidOut_11 : decode cX7_laidOut 11 = .ok (.aaload, 1) := by decide +kernel
theorem dX7_laidOut_12 : decode cX7_laidOut 12 = .ok (.getfield 72, 3) := by decide +kernel
theorem dX7_laidOut_15 : decode cX7_laidOut 15 = .ok (.arraylength, 1) := by decide +kernel
theorem dX7_laidOut_16 : decode cX7_laidOut 16 = .ok (.if_icmp .le 5, 3) := by decide +kernel
theorem dX7_laidOut_19 : decode cX7_laidOut 19 = .ok (.iconst (-1), 1) := by decide +kernel
theorem dX7_laidOut_20 : decode cX7_laidOut 20 = .ok (.ireturn, 1) := by decide +kernel
theorem dX7_laidOut_21 : decode cX7_laidOut 21 = .ok (.iload_n 3, 1) := by decide +kernel
theorem dX7_laidOut_22 : decode cX7_laidOut 22 = .ok (.ifCond .ge 9, 3) := by decide +kernel
theorem dX7_laidOut_25 : decode cX7_laidOut 25 = .ok (.aload_n 0, 1) := by decide +kernel
theorem dX7_laidOut_26 : decode cX7_laidOut 26 = .ok (.iconst 5, 1) := by decide +kernel
theorem dX7_laidOut_27 : decode cX7_laidOut 27 = .ok (.invokevirtual 90, 3) := by decide +kernel
theorem dX7_laidOut_30 : decode cX7_laidOut 30 = .ok (.ireturn, 1) := by decide +kernel
theorem dX7_laidOut_31 : decode cX7_laidOut 31 = .ok (.aload_n 1, 1) := by decide +kernel
theorem dX7_laidOut_32 : decode cX7_laidOut 32 = .ok (.iload_n 2, 1) := by decide +kernel
theorem dX7_laidOut_33 : decode cX7_laidOut 33 = .ok (.aaload, 1) := by decide +kernel
theorem dX7_laidOut_34 : decode cX7_laidOut 34 = .ok (.iload_n 3, 1) := by decide +kernel
theorem dX7_laidOut_35 : decode cX7_laidOut 35 = .ok (.iload 4, 2) := by decide +kernel
theorem dX7_laidOut_37 : decode cX7_laidOut 37 = .ok (.invokevirtual 341, 3) := by decide +kernel
theorem dX7_laidOut_40 : decode cX7_laidOut 40 = .ok (.iload_n 3, 1) := by decide +kernel
theorem dX7_laidOut_41 : decode cX7_laidOut 41 = .ok (.ireturn, 1) := by decide +kernel
theorem dX7_rowRefusal_0 : decode cX7_rowRefusal 0 = .ok (.aload_n 0, 1) := by decide +kernel
theorem dX7_rowRefusal_1 : decode cX7_rowRefusal 1 = .ok (.getfield 11, 3) := by decide +kernel
theorem dX7_rowRefusal_4 : decode cX7_rowRefusal 4 = .ok (.iload_n 1, 1) := by decide +kernel
theorem dX7_rowRefusal_5 : decode cX7_rowRefusal 5 = .ok (.invokestatic 86, 3) := by decide +kernel
theorem dX7_rowRefusal_8 : decode cX7_rowRefusal 8 = .ok (.ifCond .ne 5, 3) := by decide +kernel
theorem dX7_rowRefusal_11 : decode cX7_rowRefusal 11 = .ok (.iconst (-1), 1) := by decide +kernel
theorem dX7_rowRefusal_12 : decode cX7_rowRefusal 12 = .ok (.ireturn, 1) := by decide +kernel
theorem dX7_rowRefusal_13 : decode cX7_rowRefusal 13 = .ok (.aload_n 0, 1) := by decide +kernel
theorem dX7_rowRefusal_14 : decode cX7_rowRefusal 14 = .ok (.getfield 28, 3) := by decide +kernel
theorem dX7_rowRefusal_17 : decode cX7_rowRefusal 17 = .ok (.getfield 121, 3) := by decide +kernel
theorem dX7_rowRefusal_20 : decode cX7_rowRefusal 20 = .ok (.ifCond .ne 8, 3) := by decide +kernel
theorem dX7_rowRefusal_23 : decode cX7_rowRefusal 23 = .ok (.bipush (-4), 2) := by decide +kernel
theorem dX7_rowRefusal_25 : decode cX7_rowRefusal 25 = .ok (.goto 4, 3) := by decide +kernel
theorem dX7_rowRefusal_28 : decode cX7_rowRefusal 28 = .ok (.iconst 0, 1) := by decide +kernel
theorem dX7_rowRefusal_29 : decode cX7_rowRefusal 29 = .ok (.ireturn, 1) := by decide +kernel
theorem dX7_heatRefusal_0 : decode cX7_heatRefusal 0 = .ok (.iload_n 1, 1) := by decide +kernel
theorem dX7_heatRefusal_1 : decode cX7_heatRefusal 1 = .ok (.ifCond .lt 9, 3) := by decide +kernel
theorem dX7_heatRefusal_4 : decode cX7_heatRefusal 4 = .ok (.iload_n 1, 1) := by decide +kernel
theorem dX7_heatRefusal_5 : decode cX7_heatRefusal 5 = .ok (.bipush 30, 2) := by decide +kernel
theorem dX7_heatRefusal_7 : decode cX7_heatRefusal 7 = .ok (.if_icmp .le 5, 3) := by decide +kernel
theorem dX7_heatRefusal_10 : decode cX7_heatRefusal 10 = .ok (.iconst (-1), 1) := by decide +kernel
theorem dX7_heatRefusal_11 : decode cX7_heatRefusal 11 = .ok (.ireturn, 1) := by decide +kernel
theorem dX7_heatRefusal_12 : decode cX7_heatRefusal 12 = .ok (.aload_n 0, 1) := by decide +kernel
theorem dX7_heatRefusal_13 : decode cX7_heatRefusal 13 = .ok (.getfield 28, 3) := by decide +kernel
theorem dX7_heatRefusal_16 : decode cX7_heatRefusal 16 = .ok (.getfield 121, 3) := by decide +kernel
theorem dX7_heatRefusal_19 : decode cX7_heatRefusal 19 = .ok (.ifCond .ne 8, 3) := by decide +kernel
theorem dX7_heatRefusal_22 : decode cX7_heatRefusal 22 = .ok (.bipush (-4), 2) := by decide +kernel
theorem dX7_heatRefusal_24 : decode cX7_heatRefusal 24 = .ok (.goto 4, 3) := by decide +kernel
theorem dX7_heatRefusal_27 : decode cX7_heatRefusal 27 = .ok (.iconst 0, 1) := by decide +kernel
theorem dX7_heatRefusal_28 : decode cX7_heatRefusal 28 = .ok (.ireturn, 1) := by decide +kernel
theorem dX7_chanceRefusal_0 : decode cX7_chanceRefusal 0 = .ok (.iload_n 1, 1) := by decide +kernel
theorem dX7_chanceRefusal_1 : decode cX7_chanceRefusal 1 = .ok (.ifCond .lt 9, 3) := by decide +kernel
theorem dX7_chanceRefusal_4 : decode cX7_chanceRefusal 4 = .ok (.iload_n 1, 1) := by decide +kernel
theorem dX7_chanceRefusal_5 : decode cX7_chanceRefusal 5 = .ok (.bipush 12, 2) := by decide +kernel
theorem dX7_chanceRefusal_7 : decode cX7_chanceRefusal 7 = .ok (.if_icmp .le 5, 3) := by decide +kernel
theorem dX7_chanceRefusal_10 : decode cX7_chanceRefusal 10 = .ok (.iconst (-1), 1) := by decide +kernel
theorem dX7_chanceRefusal_11 : decode cX7_chanceRefusal 11 = .ok (.ireturn, 1) := by decide +kernel
theorem dX7_chanceRefusal_12 : decode cX7_chanceRefusal 12 = .ok (.aload_n 0, 1) := by decide +kernel
theorem dX7_chanceRefusal_13 : decode cX7_chanceRefusal 13 = .ok (.getfield 28, 3) := by decide +kernel
theorem dX7_chanceRefusal_16 : decode cX7_chanceRefusal 16 = .ok (.getfield 121, 3) := by decide +kernel
theorem dX7_chanceRefusal_19 : decode cX7_chanceRefusal 19 = .ok (.ifCond .ne 8, 3) := by decide +kernel
theorem dX7_chanceRefusal_22 : decode cX7_chanceRefusal 22 = .ok (.bipush (-4), 2) := by decide +kernel
theorem dX7_chanceRefusal_24 : decode cX7_chanceRefusal 24 = .ok (.goto 4, 3) := by decide +kernel
theorem dX7_chanceRefusal_27 : decode cX7_chanceRefusal 27 = .ok (.iconst 0, 1) := by decide +kernel
theorem dX7_chanceRefusal_28 : decode cX7_chanceRefusal 28 = .ok (.ireturn, 1) := by decide +kernel
theorem dX7_trialsRefusal_0 : decode cX7_trialsRefusal 0 = .ok (.aload_n 0, 1) := by decide +kernel
theorem dX7_trialsRefusal_1 : decode cX7_trialsRefusal 1 = .ok (.iload_n 1, 1) := by decide +kernel
theorem dX7_trialsRefusal_2 : decode cX7_trialsRefusal 2 = .ok (.invokevirtual 221, 3) := by decide +kernel
theorem dX7_trialsRefusal_5 : decode cX7_trialsRefusal 5 = .ok (.istore_n 2, 1) := by decide +kernel
theorem dX7_trialsRefusal_6 : decode cX7_trialsRefusal 6 = .ok (.iload_n 2, 1) := by decide +kernel
theorem dX7_trialsRefusal_7 : decode cX7_trialsRefusal 7 = .ok (.ifCond .eq 5, 3) := by decide +kernel
theorem dX7_trialsRefusal_10 : decode cX7_trialsRefusal 10 = .ok (.iload_n 2, 1) := by decide +kernel
theorem dX7_trialsRefusal_11 : decode cX7_trialsRefusal 11 = .ok (.ireturn, 1) := by decide +kernel
theorem dX7_trialsRefusal_12 : decode cX7_trialsRefusal 12 = .ok (.aload_n 0, 1) := by decide +kernel
theorem dX7_trialsRefusal_13 : decode cX7_trialsRefusal 13 = .ok (.getfield 11, 3) := by decide +kernel
theorem dX7_trialsRefusal_16 : decode cX7_trialsRefusal 16 = .ok (.iload_n 1, 1) := by decide +kernel
theorem dX7_trialsRefusal_17 : decode cX7_trialsRefusal 17 = .ok (.aaload, 1) := by decide +kernel
theorem dX7_trialsRefusal_18 : decode cX7_trialsRefusal 18 = .ok (.aload_n 0, 1) := by decide +kernel
theorem dX7_trialsRefusal_19 : decode cX7_trialsRefusal 19 = .ok (.getfield 28, 3) := by decide +kernel
theorem dX7_trialsRefusal_22 : decode cX7_trialsRefusal 22 = .ok (.getfield 121, 3) := by decide +kernel
theorem dX7_trialsRefusal_25 : decode cX7_trialsRefusal 25 = .ok (.invokestatic 344, 3) := by decide +kernel
theorem dX7_trialsRefusal_28 : decode cX7_trialsRefusal 28 = .ok (.istore_n 3, 1) := by decide +kernel
theorem dX7_trialsRefusal_29 : decode cX7_trialsRefusal 29 = .ok (.iload_n 3, 1) := by decide +kernel
theorem dX7_trialsRefusal_30 : decode cX7_trialsRefusal 30 = .ok (.ifCond .ne 7, 3) := by decide +kernel
theorem dX7_trialsRefusal_33 : decode cX7_trialsRefusal 33 = .ok (.iconst 0, 1) := by decide +kernel
theorem dX7_trialsRefusal_34 : decode cX7_trialsRefusal 34 = .ok (.goto 8, 3) := by decide +kernel
theorem dX7_trialsRefusal_37 : decode cX7_trialsRefusal 37 = .ok (.aload_n 0, 1) := by decide +kernel
theorem dX7_trialsRefusal_38 : decode cX7_trialsRefusal 38 = .ok (.iload_n 3, 1) := by decide +kernel
theorem dX7_trialsRefusal_39 : decode cX7_trialsRefusal 39 = .ok (.invokevirtual 90, 3) := by decide +kernel
theorem dX7_trialsRefusal_42 : decode cX7_trialsRefusal 42 = .ok (.ireturn, 1) := by decide +kernel
theorem dX7_suppositionRefusal_0 : decode cX7_suppositionRefusal 0 = .ok (.aload_n 0, 1) := by decide +kernel
theorem dX7_suppositionRefusal_1 : decode cX7_suppositionRefusal 1 = .ok (.iload_n 1, 1) := by decide +kernel
theorem dX7_suppositionRefusal_2 : decode cX7_suppositionRefusal 2 = .ok (.invokevirtual 122, 3) := by decide +kernel
theorem dX7_suppositionRefusal_5 : decode cX7_suppositionRefusal 5 = .ok (.ifCond .eq 14, 3) := by decide +kernel
theorem dX7_suppositionRefusal_8 : decode cX7_suppositionRefusal 8 = .ok (.aload_n 0, 1) := by decide +kernel
theorem dX7_suppositionRefusal_9 : decode cX7_suppositionRefusal 9 = .ok (.getfield 11, 3) := by decide +kernel
theorem dX7_suppositionRefusal_12 : decode cX7_suppositionRefusal 12 = .ok (.iload_n 2, 1) := by decide +kernel
theorem dX7_suppositionRefusal_13 : decode cX7_suppositionRefusal 13 = .ok (.invokestatic 86, 3) := by decide +kernel
theorem dX7_suppositionRefusal_16 : decode cX7_suppositionRefusal 16 = .ok (.ifCond .ne 5, 3) := by decide +kernel
theorem dX7_suppositionRefusal_19 : decode cX7_suppositionRefusal 19 = .ok (.iconst (-1), 1) := by decide +kernel
theorem dX7_suppositionRefusal_20 : decode cX7_suppositionRefusal 20 = .ok (.ireturn, 1) := by decide +kernel
theorem dX7_suppositionRefusal_21 : decode cX7_suppositionRefusal 21 = .ok (.aload_n 0, 1) := by decide +kernel
theorem dX7_suppositionRefusal_22 : decode cX7_suppositionRefusal 22 = .ok (.getfield 11, 3) := by decide +kernel
theorem dX7_suppositionRefusal_25 : decode cX7_suppositionRefusal 25 = .ok (.iload_n 2, 1) := by decide +kernel
theorem dX7_suppositionRefusal_26 : decode cX7_suppositionRefusal 26 = .ok (.aaload, 1) := by decide +kernel
theorem dX7_suppositionRefusal_27 : decode cX7_suppositionRefusal 27 = .ok (.bipush 31, 2) := by decide +kernel
theorem dX7_suppositionRefusal_29 : decode cX7_suppositionRefusal 29 = .ok (.invokestatic 344, 3) := by decide +kernel
theorem dX7_suppositionRefusal_32 : decode cX7_suppositionRefusal 32 = .ok (.istore_n 3, 1) := by decide +kernel
theorem dX7_suppositionRefusal_33 : decode cX7_suppositionRefusal 33 = .ok (.iload_n 3, 1) := by decide +kernel
theorem dX7_suppositionRefusal_34 : decode cX7_suppositionRefusal 34 = .ok (.ifCond .ne 7, 3) := by decide +kernel
theorem dX7_suppositionRefusal_37 : decode cX7_suppositionRefusal 37 = .ok (.iconst 0, 1) := by decide +kernel
theorem dX7_suppositionRefusal_38 : decode cX7_suppositionRefusal 38 = .ok (.goto 8, 3) := by decide +kernel
theorem dX7_suppositionRefusal_41 : decode cX7_suppositionRefusal 41 = .ok (.aload_n 0, 1) := by decide +kernel
theorem dX7_suppositionRefusal_42 : decode cX7_suppositionRefusal 42 = .ok (.iload_n 3, 1) := by decide +kernel
theorem dX7_suppositionRefusal_43 : decode cX7_suppositionRefusal 43 = .ok (.invokevirtual 90, 3) := by decide +kernel
theorem dX7_suppositionRefusal_46 : decode cX7_suppositionRefusal 46 = .ok (.ireturn, 1) := by decide +kernel
theorem dX7_pairsFinding_0 : decode cX7_pairsFinding 0 = .ok (.aload_n 0, 1) := by decide +kernel
theorem dX7_pairsFinding_1 : decode cX7_pairsFinding 1 = .ok (.invokevirtual 94, 3) := by decide +kernel
theorem dX7_pairsFinding_4 : decode cX7_pairsFinding 4 = .ok (.ifCond .eq 5, 3) := by decide +kernel
theorem dX7_pairsFinding_7 : decode cX7_pairsFinding 7 = .ok (.iconst 1, 1) := by decide +kernel
theorem dX7_pairsFinding_8 : decode cX7_pairsFinding 8 = .ok (.ireturn, 1) := by decide +kernel
theorem dX7_pairsFinding_9 : decode cX7_pairsFinding 9 = .ok (.aload_n 0, 1) := by decide +kernel
theorem dX7_pairsFinding_10 : decode cX7_pairsFinding 10 = .ok (.getfield 83, 3) := by decide +kernel
theorem dX7_pairsFinding_13 : decode cX7_pairsFinding 13 = .ok (.iconst 2, 1) := by decide +kernel
theorem dX7_pairsFinding_14 : decode cX7_pairsFinding 14 = .ok (.irem, 1) := by decide +kernel
theorem dX7_pairsFinding_15 : decode cX7_pairsFinding 15 = .ok (.ifCond .eq 5, 3) := by decide +kernel
theorem dX7_pairsFinding_18 : decode cX7_pairsFinding 18 = .ok (.iconst 5, 1) := by decide +kernel
theorem dX7_pairsFinding_19 : decode cX7_pairsFinding 19 = .ok (.ireturn, 1) := by decide +kernel
theorem dX7_pairsFinding_20 : decode cX7_pairsFinding 20 = .ok (.iconst 0, 1) := by decide +kernel
theorem dX7_pairsFinding_21 : decode cX7_pairsFinding 21 = .ok (.istore_n 2, 1) := by decide +kernel
theorem dX7_pairsFinding_22 : decode cX7_pairsFinding 22 = .ok (.iload_n 2, 1) := by decide +kernel
theorem dX7_pairsFinding_23 : decode cX7_pairsFinding 23 = .ok (.aload_n 0, 1) := by decide +kernel
theorem dX7_pairsFinding_24 : decode cX7_pairsFinding 24 = .ok (.getfield 83, 3) := by decide +kernel
theorem dX7_pairsFinding_27 : decode cX7_pairsFinding 27 = .ok (.if_icmp .ge 42, 3) := by decide +kernel
theorem dX7_pairsFinding_30 : decode cX7_pairsFinding 30 = .ok (.iload_n 2, 1) := by decide +kernel
theorem dX7_pairsFinding_31 : decode cX7_pairsFinding 31 = .ok (.iconst 2, 1) := by decide +kernel
theorem dX7_pairsFinding_32 : decode cX7_pairsFinding 32 = .ok (.irem, 1) := by decide +kernel
theorem dX7_pairsFinding_33 : decode cX7_pairsFinding 33 = .ok (.ifCond .ne 7, 3) := by decide +kernel
theorem dX7_pairsFinding_36 : decode cX7_pairsFinding 36 = .ok (.iload_n 1, 1) := by decide +kernel
theorem dX7_pairsFinding_37 : decode cX7_pairsFinding 37 = .ok (.goto 4, 3) := by decide +kernel
theorem dX7_pairsFinding_40 : decode cX7_pairsFinding 40 = .ok (.iconst 3, 1) := by decide +kernel
theorem dX7_pairsFinding_41 : decode cX7_pairsFinding 41 = .ok (.istore_n 3, 1) := by decide +kernel
theorem dX7_pairsFinding_42 : decode cX7_pairsFinding 42 = .ok (.aload_n 0, 1) := by decide +kernel
theorem dX7_pairsFinding_43 : decode cX7_pairsFinding 43 = .ok (.getfield 72, 3) := by decide +kernel
theorem dX7_pairsFinding_46 : decode cX7_pairsFinding 46 = .ok (.iload_n 2, 1) := by decide +kernel
theorem dX7_pairsFinding_47 : decode cX7_pairsFinding 47 = .ok (.iaload, 1) := by decide +kernel
theorem dX7_pairsFinding_48 : decode cX7_pairsFinding 48 = .ok (.ifCond .lt 13, 3) := by decide +kernel
theorem dX7_pairsFinding_51 : decode cX7_pairsFinding 51 = .ok (.aload_n 0, 1) := by decide +kernel
theorem dX7_pairsFinding_52 : decode cX7_pairsFinding 52 = .ok (.getfield 72, 3) := by decide +kernel
theorem dX7_pairsFinding_55 : decode cX7_pairsFinding 55 = .ok (.iload_n 2, 1) := by decide +kernel
theorem dX7_pairsFinding_56 : decode cX7_pairsFinding 56 = .ok (.iaload, 1) := by decide +kernel
theorem dX7_pairsFinding_57 : decode cX7_pairsFinding 57 = .ok (.iload_n 3, 1) := by decide +kernel
theorem dX7_pairsFinding_58 : decode cX7_pairsFinding 58 = .ok (.if_icmp .lt 5, 3) := by decide +kernel
theorem dX7_pairsFinding_61 : decode cX7_pairsFinding 61 = .ok (.iconst 3, 1) := by decide +kernel
theorem dX7_pairsFinding_62 : decode cX7_pairsFinding 62 = .ok (.ireturn, 1) := by decide +kernel
theorem dX7_pairsFinding_63 : decode cX7_pairsFinding 63 = .ok (.iinc 2 1, 3) := by decide +kernel
theorem dX7_pairsFinding_66 : decode cX7_pairsFinding 66 = .ok (.goto (-44), 3) := by decide +kernel
theorem dX7_pairsFinding_69 : decode cX7_pairsFinding 69 = .ok (.iconst 0, 1) := by decide +kernel
theorem dX7_pairsFinding_70 : decode cX7_pairsFinding 70 = .ok (.ireturn, 1) := by decide +kernel
theorem dX7_orderFinding_0 : decode cX7_orderFinding 0 = .ok (.aload_n 1, 1) := by decide +kernel
theorem dX7_orderFinding_1 : decode cX7_orderFinding 1 = .ok (.invokevirtual 94, 3) := by decide +kernel
theorem dX7_orderFinding_4 : decode cX7_orderFinding 4 = .ok (.ifCond .eq 5, 3) := by decide +kernel
theorem dX7_orderFinding_7 : decode cX7_orderFinding 7 = .ok (.iconst 1, 1) := by decide +kernel
theorem dX7_orderFinding_8 : decode cX7_orderFinding 8 = .ok (.ireturn, 1) := by decide +kernel
theorem dX7_orderFinding_9 : decode cX7_orderFinding 9 = .ok (.aload_n 1, 1) := by decide +kernel
theorem dX7_orderFinding_10 : decode cX7_orderFinding 10 = .ok (.getfield 83, 3) := by decide +kernel
theorem dX7_orderFinding_13 : decode cX7_orderFinding 13 = .ok (.bipush 6, 2) := by decide +kernel
theorem dX7_orderFinding_15 : decode cX7_orderFinding 15 = .ok (.if_icmp .le 5, 3) := by decide +kernel
theorem dX7_orderFinding_18 : decode cX7_orderFinding 18 = .ok (.iconst 5, 1) := by decide +kernel
theorem dX7_orderFinding_19 : decode cX7_orderFinding 19 = .ok (.ireturn, 1) := by decide +kernel
theorem dX7_orderFinding_20 : decode cX7_orderFinding 20 = .ok (.aload_n 0, 1) := by decide +kernel
theorem dX7_orderFinding_21 : decode cX7_orderFinding 21 = .ok (.getfield 28, 3) := by decide +kernel
theorem dX7_orderFinding_24 : decode cX7_orderFinding 24 = .ok (.invokevirtual 311, 3) := by decide +kernel
theorem dX7_orderFinding_27 : decode cX7_orderFinding 27 = .ok (.istore_n 2, 1) := by decide +kernel
theorem dX7_orderFinding_28 : decode cX7_orderFinding 28 = .ok (.iconst 0, 1) := by decide +kernel
theorem dX7_orderFinding_29 : decode cX7_orderFinding 29 = .ok (.istore_n 3, 1) := by decide +kernel
theorem dX7_orderFinding_30 : decode cX7_orderFinding 30 = .ok (.iload_n 3, 1) := by decide +kernel
theorem dX7_orderFinding_31 : decode cX7_orderFinding 31 = .ok (.aload_n 1, 1) := by decide +kernel
theorem dX7_orderFinding_32 : decode cX7_orderFinding 32 = .ok (.getfield 83, 3) := by decide +kernel
theorem dX7_orderFinding_35 : decode cX7_orderFinding 35 = .ok (.if_icmp .ge 44, 3) := by decide +kernel
theorem dX7_orderFinding_38 : decode cX7_orderFinding 38 = .ok (.aload_n 1, 1) := by decide +kernel
theorem dX7_orderFinding_39 : decode cX7_orderFinding 39 = .ok (.getfield 72, 3) := by decide +kernel
theorem dX7_orderFinding_42 : decode cX7_orderFinding 42 = .ok (.iload_n 3, 1) := by decide +kernel
theorem dX7_orderFinding_43 : decode cX7_orderFinding 43 = .ok (.iaload, 1) := by decide +kernel
theorem dX7_orderFinding_44 : decode cX7_orderFinding 44 = .ok (.istore 4, 2) := by decide +kernel
theorem dX7_orderFinding_46 : decode cX7_orderFinding 46 = .ok (.aload_n 0, 1) := by decide +kernel
theorem dX7_orderFinding_47 : decode cX7_orderFinding 47 = .ok (.iload 4, 2) := by decide +kernel
theorem dX7_orderFinding_49 : decode cX7_orderFinding 49 = .ok (.invokevirtual 122, 3) := by decide +kernel
theorem dX7_orderFinding_52 : decode cX7_orderFinding 52 = .ok (.ifCond .eq 12, 3) := by decide +kernel
theorem dX7_orderFinding_55 : decode cX7_orderFinding 55 = .ok (.iload_n 2, 1) := by decide +kernel
theorem dX7_orderFinding_56 : decode cX7_orderFinding 56 = .ok (.iconst 1, 1) := by decide +kernel
theorem dX7_orderFinding_57 : decode cX7_orderFinding 57 = .ok (.iload 4, 2) := by decide +kernel
theorem dX7_orderFinding_59 : decode cX7_orderFinding 59 = .ok (.ishl, 1) := by decide +kernel
theorem dX7_orderFinding_60 : decode cX7_orderFinding 60 = .ok (.iand, 1) := by decide +kernel
theorem dX7_orderFinding_61 : decode cX7_orderFinding 61 = .ok (.ifCond .eq 5, 3) := by decide +kernel
theorem dX7_orderFinding_64 : decode cX7_orderFinding 64 = .ok (.iconst 3, 1) := by decide +kernel
theorem dX7_orderFinding_65 : decode cX7_orderFinding 65 = .ok (.ireturn, 1) := by decide +kernel
theorem dX7_orderFinding_66 : decode cX7_orderFinding 66 = .ok (.iload_n 2, 1) := by decide +kernel
theorem dX7_orderFinding_67 : decode cX7_orderFinding 67 = .ok (.iconst 1, 1) := by decide +kernel
theorem dX7_orderFinding_68 : decode cX7_orderFinding 68 = .ok (.iload 4, 2) := by decide +kernel
theorem dX7_orderFinding_70 : decode cX7_orderFinding 70 = .ok (.ishl, 1) := by decide +kernel
theorem dX7_orderFinding_71 : decode cX7_orderFinding 71 = .ok (.ior, 1) := by decide +kernel
theorem dX7_orderFinding_72 : decode cX7_orderFinding 72 = .ok (.istore_n 2, 1) := by decide +kernel
theorem dX7_orderFinding_73 : decode cX7_orderFinding 73 = .ok (.iinc 3 1, 3) := by decide +kernel
theorem dX7_orderFinding_76 : decode cX7_orderFinding 76 = .ok (.goto (-46), 3) := by decide +kernel
theorem dX7_orderFinding_79 : decode cX7_orderFinding 79 = .ok (.iconst 0, 1) := by decide +kernel
theorem dX7_orderFinding_80 : decode cX7_orderFinding 80 = .ok (.ireturn, 1) := by decide +kernel
theorem dX7_tellFraction_0 : decode cX7_tellFraction 0 = .ok (.lload_n 3, 1) := by decide +kernel
theorem dX7_tellFraction_1 : decode cX7_tellFraction 1 = .ok (.lload_n 1, 1) := by decide +kernel
theorem dX7_tellFraction_2 : decode cX7_tellFraction 2 = .ok (.invokestatic 348, 3) := by decide +kernel
theorem dX7_tellFraction_5 : decode cX7_tellFraction 5 = .ok (.lstore 5, 2) := by decide +kernel
theorem dX7_tellFraction_7 : decode cX7_tellFraction 7 = .ok (.aload_n 0, 1) := by decide +kernel
theorem dX7_tellFraction_8 : decode cX7_tellFraction 8 = .ok (.lload 5, 2) := by decide +kernel
theorem dX7_tellFraction_10 : decode cX7_tellFraction 10 = .ok (.lconst 0, 1) := by decide +kernel
theorem dX7_tellFraction_11 : decode cX7_tellFraction 11 = .ok (.lcmp, 1) := by decide +kernel
theorem dX7_tellFraction_12 : decode cX7_tellFraction 12 = .ok (.ifCond .ne 7, 3) := by decide +kernel
theorem dX7_tellFraction_15 : decode cX7_tellFraction 15 = .ok (.lconst 0, 1) := by decide +kernel
theorem dX7_tellFraction_16 : decode cX7_tellFraction 16 = .ok (.goto 7, 3) := by decide +kernel
theorem dX7_tellFraction_19 : decode cX7_tellFraction 19 = .ok (.lload_n 1, 1) := by decide +kernel
theorem dX7_tellFraction_20 : decode cX7_tellFraction 20 = .ok (.lload 5, 2) := by decide +kernel
theorem dX7_tellFraction_22 : decode cX7_tellFraction 22 = .ok (.ldiv, 1) := by decide +kernel
theorem dX7_tellFraction_23 : decode cX7_tellFraction 23 = .ok (.putfield 308, 3) := by decide +kernel
theorem dX7_tellFraction_26 : decode cX7_tellFraction 26 = .ok (.aload_n 0, 1) := by decide +kernel
theorem dX7_tellFraction_27 : decode cX7_tellFraction 27 = .ok (.lload 5, 2) := by decide +kernel
theorem dX7_tellFraction_29 : decode cX7_tellFraction 29 = .ok (.lconst 0, 1) := by decide +kernel
theorem dX7_tellFraction_30 : decode cX7_tellFraction 30 = .ok (.lcmp, 1) := by decide +kernel
theorem dX7_tellFraction_31 : decode cX7_tellFraction 31 = .ok (.ifCond .ne 7, 3) := by decide +kernel
theorem dX7_tellFraction_34 : decode cX7_tellFraction 34 = .ok (.lconst 1, 1) := by decide +kernel
theorem dX7_tellFraction_35 : decode cX7_tellFraction 35 = .ok (.goto 7, 3) := by decide +kernel
theorem dX7_tellFraction_38 : decode cX7_tellFraction 38 = .ok (.lload_n 3, 1) := by decide +kernel
theorem dX7_tellFraction_39 : decode cX7_tellFraction 39 = .ok (.lload 5, 2) := by decide +kernel
theorem dX7_tellFraction_41 : decode cX7_tellFraction 41 = .ok (.ldiv, 1) := by decide +kernel
theorem dX7_tellFraction_42 : decode cX7_tellFraction 42 = .ok (.putfield 56, 3) := by decide +kernel
theorem dX7_tellFraction_45 : decode cX7_tellFraction 45 = .ok (.return_, 1) := by decide +kernel
theorem dX7_commonDivisor_0 : decode cX7_commonDivisor 0 = .ok (.lload_n 0, 1) := by decide +kernel
theorem dX7_commonDivisor_1 : decode cX7_commonDivisor 1 = .ok (.lstore 4, 2) := by decide +kernel
theorem dX7_commonDivisor_3 : decode cX7_commonDivisor 3 = .ok (.lload_n 2, 1) := by decide +kernel
theorem dX7_commonDivisor_4 : decode cX7_commonDivisor 4 = .ok (.lstore 6, 2) := by decide +kernel
theorem dX7_commonDivisor_6 : decode cX7_commonDivisor 6 = .ok (.iconst 0, 1) := by decide +kernel
theorem dX7_commonDivisor_7 : decode cX7_commonDivisor 7 = .ok (.istore 8, 2) := by decide +kernel
theorem dX7_commonDivisor_9 : decode cX7_commonDivisor 9 = .ok (.iload 8, 2) := by decide +kernel
theorem dX7_commonDivisor_11 : decode cX7_commonDivisor 11 = .ok (.bipush 100, 2) := by decide +kernel
theorem dX7_commonDivisor_13 : decode cX7_commonDivisor 13 = .ok (.if_icmp .ge 31, 3) := by decide +kernel
theorem dX7_commonDivisor_16 : decode cX7_commonDivisor 16 = .ok (.lload 6, 2) := by decide +kernel
theorem dX7_commonDivisor_18 : decode cX7_commonDivisor 18 = .ok (.lconst 0, 1) := by decide +kernel
theorem dX7_commonDivisor_19 : decode cX7_commonDivisor 19 = .ok (.lcmp, 1) := by decide +kernel
theorem dX7_commonDivisor_20 : decode cX7_commonDivisor 20 = .ok (.ifCond .eq 24, 3) := by decide +kernel
theorem dX7_commonDivisor_23 : decode cX7_commonDivisor 23 = .ok (.lload 4, 2) := by decide +kernel
theorem dX7_commonDivisor_25 : decode cX7_commonDivisor 25 = .ok (.lload 6, 2) := by decide +kernel
theorem dX7_commonDivisor_27 : decode cX7_commonDivisor 27 = .ok (.lrem, 1) := by decide +kernel
theorem dX7_commonDivisor_28 : decode cX7_commonDivisor 28 = .ok (.lstore 9, 2) := by decide +kernel
theorem dX7_commonDivisor_30 : decode cX7_commonDivisor 30 = .ok (.lload 6, 2) := by decide +kernel
theorem dX7_commonDivisor_32 : decode cX7_commonDivisor 32 = .ok (.lstore 4, 2) := by decide +kernel
theorem dX7_commonDivisor_34 : decode cX7_commonDivisor 34 = .ok (.lload 9, 2) := by decide +kernel
theorem dX7_commonDivisor_36 : decode cX7_commonDivisor 36 = .ok (.lstore 6, 2) := by decide +kernel
theorem dX7_commonDivisor_38 : decode cX7_commonDivisor 38 = .ok (.iinc 8 1, 3) := by decide +kernel
theorem dX7_commonDivisor_41 : decode cX7_commonDivisor 41 = .ok (.goto (-32), 3) := by decide +kernel
theorem dX7_commonDivisor_44 : decode cX7_commonDivisor 44 = .ok (.lload 4, 2) := by decide +kernel
theorem dX7_commonDivisor_46 : decode cX7_commonDivisor 46 = .ok (.lreturn, 1) := by decide +kernel
theorem dX7_howManyThere_0 : decode cX7_howManyThere 0 = .ok (.iconst 0, 1) := by decide +kernel
theorem dX7_howManyThere_1 : decode cX7_howManyThere 1 = .ok (.istore_n 1, 1) := by decide +kernel
theorem dX7_howManyThere_2 : decode cX7_howManyThere 2 = .ok (.iconst 0, 1) := by decide +kernel
theorem dX7_howManyThere_3 : decode cX7_howManyThere 3 = .ok (.istore_n 2, 1) := by decide +kernel
theorem dX7_howManyThere_4 : decode cX7_howManyThere 4 = .ok (.iload_n 2, 1) := by decide +kernel
theorem dX7_howManyThere_5 : decode cX7_howManyThere 5 = .ok (.aload_n 0, 1) := by decide +kernel
theorem dX7_howManyThere_6 : decode cX7_howManyThere 6 = .ok (.arraylength, 1) := by decide +kernel
theorem dX7_howManyThere_7 : decode cX7_howManyThere 7 = .ok (.if_icmp .ge 26, 3) := by decide +kernel
theorem dX7_howManyThere_10 : decode cX7_howManyThere 10 = .ok (.iload_n 1, 1) := by decide +kernel
theorem dX7_howManyThere_11 : decode cX7_howManyThere 11 = .ok (.aload_n 0, 1) := by decide +kernel
theorem dX7_howManyThere_12 : decode cX7_howManyThere 12 = .ok (.iload_n 2, 1) := by decide +kernel
theorem dX7_howManyThere_13 : decode cX7_howManyThere 13 = .ok (.aaload, 1) := by decide +kernel
theorem dX7_howManyThere_14 : decode cX7_howManyThere 14 = .ok (.invokevirtual 94, 3) := by decide +kernel
theorem dX7_howManyThere_17 : decode cX7_howManyThere 17 = .ok (.ifCond .eq 7, 3) := by decide +kernel
theorem dX7_howManyThere_20 : decode cX7_howManyThere 20 = .ok (.iconst 0, 1) := by decide +kernel
theorem dX7_howManyThere_21 : decode cX7_howManyThere 21 = .ok (.goto 4, 3) := by decide +kernel
theorem dX7_howManyThere_24 : decode cX7_howManyThere 24 = .ok (.iconst 1, 1) := by decide +kernel
theorem dX7_howManyThere_25 : decode cX7_howManyThere 25 = .ok (.iadd, 1) := by decide +kernel
theorem dX7_howManyThere_26 : decode cX7_howManyThere 26 = .ok (.istore_n 1, 1) := by decide +kernel
theorem dX7_howManyThere_27 : decode cX7_howManyThere 27 = .ok (.iinc 2 1, 3) := by decide +kernel
theorem dX7_howManyThere_30 : decode cX7_howManyThere 30 = .ok (.goto (-26), 3) := by decide +kernel
theorem dX7_howManyThere_33 : decode cX7_howManyThere 33 = .ok (.iload_n 1, 1) := by decide +kernel
theorem dX7_howManyThere_34 : decode cX7_howManyThere 34 = .ok (.ireturn, 1) := by decide +kernel
theorem dX7_courtsKept_0 : decode cX7_courtsKept 0 = .ok (.iconst 0, 1) := by decide +kernel
theorem dX7_courtsKept_1 : decode cX7_courtsKept 1 = .ok (.istore_n 1, 1) := by decide +kernel
theorem dX7_courtsKept_2 : decode cX7_courtsKept 2 = .ok (.iconst 0, 1) := by decide +kernel
theorem dX7_courtsKept_3 : decode cX7_courtsKept 3 = .ok (.istore_n 2, 1) := by decide +kernel
theorem dX7_courtsKept_4 : decode cX7_courtsKept 4 = .ok (.iload_n 2, 1) := by decide +kernel
theorem dX7_courtsKept_5 : decode cX7_courtsKept 5 = .ok (.iconst 3, 1) := by decide +kernel
theorem dX7_courtsKept_6 : decode cX7_courtsKept 6 = .ok (.if_icmp .ge 30, 3) := by decide +kernel
theorem dX7_courtsKept_9 : decode cX7_courtsKept 9 = .ok (.iload_n 1, 1) := by decide +kernel
theorem dX7_courtsKept_10 : decode cX7_courtsKept 10 = .ok (.aload_n 0, 1) := by decide +kernel
theorem dX7_courtsKept_11 : decode cX7_courtsKept 11 = .ok (.getfield 34, 3) := by decide +kernel
theorem dX7_courtsKept_14 : decode cX7_courtsKept 14 = .ok (.iload_n 2, 1) := by decide +kernel
theorem dX7_courtsKept_15 : decode cX7_courtsKept 15 = .ok (.aaload, 1) := by decide +kernel
theorem dX7_courtsKept_16 : decode cX7_courtsKept 16 = .ok (.getfield 120, 3) := by decide +kernel
theorem dX7_courtsKept_19 : decode cX7_courtsKept 19 = .ok (.iconst (-1), 1) := by decide +kernel
theorem dX7_courtsKept_20 : decode cX7_courtsKept 20 = .ok (.if_icmp .ne 7, 3) := by decide +kernel
theorem dX7_courtsKept_23 : decode cX7_courtsKept 23 = .ok (.iconst 0, 1) := by decide +kernel
theorem dX7_courtsKept_24 : decode cX7_courtsKept 24 = .ok (.goto 4, 3) := by decide +kernel
theorem dX7_courtsKept_27 : decode cX7_courtsKept 27 = .ok (.iconst 1, 1) := by decide +kernel
theorem dX7_courtsKept_28 : decode cX7_courtsKept 28 = .ok (.iadd, 1) := by decide +kernel
theorem dX7_courtsKept_29 : decode cX7_courtsKept 29 = .ok (.istore_n 1, 1) := by decide +kernel
theorem dX7_courtsKept_30 : decode cX7_courtsKept 30 = .ok (.iinc 2 1, 3) := by decide +kernel
theorem dX7_courtsKept_33 : decode cX7_courtsKept 33 = .ok (.goto (-29), 3) := by decide +kernel
theorem dX7_courtsKept_36 : decode cX7_courtsKept 36 = .ok (.iload_n 1, 1) := by decide +kernel
theorem dX7_courtsKept_37 : decode cX7_courtsKept 37 = .ok (.ireturn, 1) := by decide +kernel
theorem dX8_init_0 : decode cX8_init 0 = .ok (.aload_n 0, 1) := by decide +kernel
theorem dX8_init_1 : decode cX8_init 1 = .ok (.invokespecial 1, 3) := by decide +kernel
theorem dX8_init_4 : decode cX8_init 4 = .ok (.aload_n 0, 1) := by decide +kernel
theorem dX8_init_5 : decode cX8_init 5 = .ok (.sipush 2645, 3) := by decide +kernel
theorem dX8_init_8 : decode cX8_init 8 = .ok (.newarray .int, 2) := by decide +kernel
theorem dX8_init_10 : decode cX8_init 10 = .ok (.putfield 7, 3) := by decide +kernel
theorem dX8_init_13 : decode cX8_init 13 = .ok (.aload_n 0, 1) := by decide +kernel
theorem dX8_init_14 : decode cX8_init 14 = .ok (.bipush 6, 2) := by decide +kernel
theorem dX8_init_16 : decode cX8_init 16 = .ok (.newarray .int, 2) := by decide +kernel
theorem dX8_init_18 : decode cX8_init 18 = .ok (.putfield 13, 3) := by decide +kernel
theorem dX8_init_21 : decode cX8_init 21 = .ok (.aload_n 0, 1) := by decide +kernel
theorem dX8_init_22 : decode cX8_init 22 = .ok (.bipush 6, 2) := by decide +kernel
theorem dX8_init_24 : decode cX8_init 24 = .ok (.newarray .int, 2) := by decide +kernel
theorem dX8_init_26 : decode cX8_init 26 = .ok (.putfield 16, 3) := by decide +kernel
theorem dX8_init_29 : decode cX8_init 29 = .ok (.aload_n 0, 1) := by decide +kernel
theorem dX8_init_30 : decode cX8_init 30 = .ok (.bipush 6, 2) := by decide +kernel
theorem dX8_init_32 : decode cX8_init 32 = .ok (.newarray .int, 2) := by decide +kernel
theorem dX8_init_34 : decode cX8_init 34 = .ok (.putfield 19, 3) := by decide +kernel
theorem dX8_init_37 : decode cX8_init 37 = .ok (.aload_n 0, 1) := by decide +kernel
theorem dX8_init_38 : decode cX8_init 38 = .ok (.bipush 6, 2) := by decide +kernel
theorem dX8_init_40 : decode cX8_init 40 = .ok (.newarray .int, 2) := by decide +kernel
theorem dX8_init_42 : decode cX8_init 42 = .ok (.putfield 22, 3) := by decide +kernel
theorem dX8_init_45 : decode cX8_init 45 = .ok (.aload_n 0, 1) := by decide +kernel
theorem dX8_init_46 : decode cX8_init 46 = .ok (.bipush 6, 2) := by decide +kernel
theorem dX8_init_48 : decode cX8_init 48 = .ok (.newarray .int, 2) := by decide +kernel
theorem dX8_init_50 : decode cX8_init 50 = .ok (.dup, 1) := by decide +kernel
theorem dX8_init_51 : decode cX8_init 51 = .ok (.iconst 0, 1) := by decide +kernel
theorem dX8_init_52 : decode cX8_init 52 = .ok (.iconst (-1), 1) := by decide +kernel
theorem dX8_init_53 : decode cX8_init 53 = .ok (.iastore, 1) := by decide +kernel
theorem dX8_init_54 : decode cX8_init 54 = .ok (.dup, 1) := by decide +kernel
theorem dX8_init_55 : decode cX8_init 55 = .ok (.iconst 1, 1) := by decide +kernel
theorem dX8_init_56 : decode cX8_init 56 = .ok (.iconst (-1), 1) := by decide +kernel
theorem dX8_init_57 : decode cX8_init 57 = .ok (.iastore, 1) := by decide +kernel
theorem dX8_init_58 : decode cX8_init 58 = .ok (.dup, 1) := by decide +kernel
theorem dX8_init_59 : decode cX8_init 59 = .ok (.iconst 2, 1) := by decide +kernel
theorem dX8_init_60 : decode cX8_init 60 = .ok (.iconst (-1), 1) := by decide +kernel
theorem dX8_init_61 : decode cX8_init 61 = .ok (.iastore, 1) := by decide +kernel
theorem dX8_init_62 : decode cX8_init 62 = .ok (.dup, 1) := by decide +kernel
theorem dX8_init_63 : decode cX8_init 63 = .ok (.iconst 3, 1) := by decide +kernel
theorem dX8_init_64 : decode cX8_init 64 = .ok (.iconst (-1), 1) := by decide +kernel
theorem dX8_init_65 : decode cX8_init 65 = .ok (.iastore, 1) := by decide +kernel
theorem dX8_init_66 : decode cX8_init 66 = .ok (.dup, 1) := by decide +kernel
theorem dX8_init_67 : decode cX8_init 67 = .ok (.iconst 4, 1) := by decide +kernel
theorem dX8_init_68 : decode cX8_init 68 = .ok (.iconst (-1), 1) := by decide +kernel
theorem dX8_init_69 : decode cX8_init 69 = .ok (.iastore, 1) := by decide +kernel
theorem dX8_init_70 : decode cX8_init 70 = .ok (.dup, 1) := by decide +kernel
theorem dX8_init_71 : decode cX8_init 71 = .ok (.iconst 5, 1) := by decide +kernel
theorem dX8_init_72 : decode cX8_init 72 = .ok (.iconst (-1), 1) := by decide +kernel
theorem dX8_init_73 : decode cX8_init 73 = .ok (.iastore, 1) := by decide +kernel
theorem dX8_init_74 : decode cX8_init 74 = .ok (.putfield 25, 3) := by decide +kernel
theorem dX8_init_77 : decode cX8_init 77 = .ok (.aload_n 0, 1) := by decide +kernel
theorem dX8_init_78 : decode cX8_init 78 = .ok (.sipush 240, 3) := by decide +kernel
theorem dX8_init_81 : decode cX8_init 81 = .ok (.newarray .int, 2) := by decide +kernel
theorem dX8_init_83 : decode cX8_init 83 = .ok (.putfield 28, 3) := by decide +kernel
theorem dX8_init_86 : decode cX8_init 86 = .ok (.aload_n 0, 1) := by decide +kernel
theorem dX8_init_87 : decode cX8_init 87 = .ok (.iconst 4, 1) := by decide +kernel
theorem dX8_init_88 : decode cX8_init 88 = .ok (.newarray .int, 2) := by decide +kernel
theorem dX8_init_90 : decode cX8_init 90 = .ok (.dup, 1) := by decide +kernel
theorem dX8_init_91 : decode cX8_init 91 = .ok (.iconst 0, 1) := by decide +kernel
theorem dX8_init_92 : decode cX8_init 92 = .ok (.iconst (-1), 1) := by decide +kernel
theorem dX8_init_93 : decode cX8_init 93 = .ok (.iastore, 1) := by decide +kernel
theorem dX8_init_94 : decode cX8_init 94 = .ok (.dup, 1) := by decide +kernel
theorem dX8_init_95 : decode cX8_init 95 = .ok (.iconst 1, 1) := by decide +kernel
theorem dX8_init_96 : decode cX8_init 96 = .ok (.iconst (-1), 1) := by decide +kernel
theorem dX8_init_97 : decode cX8_init 97 = .ok (.iastore, 1) := by decide +kernel
theorem dX8_init_98 : decode cX8_init 98 = .ok (.dup, 1) := by decide +kernel
theorem dX8_init_99 : decode cX8_init 99 = .ok (.iconst 2, 1) := by decide +kernel
theorem dX8_init_100 : decode cX8_init 100 = .ok (.iconst (-1), 1) := by decide +kernel
theorem dX8_init_101 : decode cX8_init 101 = .ok (.iastore, 1) := by decide +kernel
theorem dX8_init_102 : decode cX8_init 102 = .ok (.dup, 1) := by decide +kernel
theorem dX8_init_103 : decode cX8_init 103 = .ok (.iconst 3, 1) := by decide +kernel
theorem dX8_init_104 : decode cX8_init 104 = .ok (.iconst (-1), 1) := by decide +kernel
theorem dX8_init_105 : decode cX8_init 105 = .ok (.iastore, 1) := by decide +kernel
theorem dX8_init_106 : decode cX8_init 106 = .ok (.putfield 31, 3) := by decide +kernel
theorem dX8_init_109 : decode cX8_init 109 = .ok (.aload_n 0, 1) := by decide +kernel
theorem dX8_init_110 : decode cX8_init 110 = .ok (.sipush 240, 3) := by decide +kernel
theorem dX8_init_113 : decode cX8_init 113 = .ok (.newarray .int, 2) := by decide +kernel
theorem dX8_init_115 : decode cX8_init 115 = .ok (.putfield 34, 3) := by decide +kernel
theorem dX8_init_118 : decode cX8_init 118 = .ok (.aload_n 0, 1) := by decide +kernel
theorem dX8_init_119 : decode cX8_init 119 = .ok (.lconst 1, 1) := by decide +kernel
theorem dX8_init_120 : decode cX8_init 120 = .ok (.putfield 37, 3) := by decide +kernel
theorem dX8_init_123 : decode cX8_init 123 = .ok (.aload_n 0, 1) := by decide +kernel
theorem dX8_init_124 : decode cX8_init 124 = .ok (.bipush 6, 2) := by decide +kernel
theorem dX8_init_126 : decode cX8_init 126 = .ok (.newarray .int, 2) := by decide +kernel
theorem dX8_init_128 : decode cX8_init 128 = .ok (.putfield 41, 3) := by decide +kernel
theorem dX8_init_131 : decode cX8_init 131 = .ok (.aload_n 0, 1) := by decide +kernel
theorem dX8_init_132 : decode cX8_init 132 = .ok (.iconst 4, 1) := by decide +kernel
theorem dX8_init_133 : decode cX8_init 133 = .ok (.newarray .int, 2) := by decide +kernel
theorem dX8_init_135 : decode cX8_init 135 = .ok (.putfield 44, 3) := by decide +kernel
theorem dX8_init_138 : decode cX8_init 138 = .ok (.aload_n 0, 1) := by decide +kernel
theorem dX8_init_139 : decode cX8_init 139 = .ok (.bipush 24, 2) := by decide +kernel
theorem dX8_init_141 : decode cX8_init 141 = .ok (.newarray .int, 2) := by decide +kernel
theorem dX8_init_143 : decode cX8_init 143 = .ok (.putfield 47, 3) := by decide +kernel
theorem dX8_init_146 : decode cX8_init 146 = .ok (.aload_n 0, 1) := by decide +kernel
theorem dX8_init_147 : decode cX8_init 147 = .ok (.bipush 6, 2) := by decide +kernel
theorem dX8_init_149 : decode cX8_init 149 = .ok (.newarray .int, 2) := by decide +kernel
theorem dX8_init_151 : decode cX8_init 151 = .ok (.putfield 50, 3) := by decide +kernel
theorem dX8_init_154 : decode cX8_init 154 = .ok (.aload_n 0, 1) := by decide +kernel
theorem dX8_init_155 : decode cX8_init 155 = .ok (.iconst 3, 1) := by decide +kernel
theorem dX8_init_156 : decode cX8_init 156 = .ok (.newarray .int, 2) := by decide +kernel
theorem dX8_init_158 : decode cX8_init 158 = .ok (.putfield 53, 3) := by decide +kernel
theorem dX8_init_161 : decode cX8_init 161 = .ok (.aload_n 0, 1) := by decide +kernel
theorem dX8_init_162 : decode cX8_init 162 = .ok (.bipush 31, 2) := by decide +kernel
theorem dX8_init_164 : decode cX8_init 164 = .ok (.newarray .int, 2) := by decide +kernel
theorem dX8_init_166 : decode cX8_init 166 = .ok (.putfield 56, 3) := by decide +kernel
theorem dX8_init_169 : decode cX8_init 169 = .ok (.aload_n 0, 1) := by decide +kernel
theorem dX8_init_170 : decode cX8_init 170 = .ok (.bipush 31, 2) := by decide +kernel
theorem dX8_init_172 : decode cX8_init 172 = .ok (.newarray .int, 2) := by decide +kernel
theorem dX8_init_174 : decode cX8_init 174 = .ok (.putfield 59, 3) := by decide +kernel
theorem dX8_init_177 : decode cX8_init 177 = .ok (.aload_n 0, 1) := by decide +kernel
theorem dX8_init_178 : decode cX8_init 178 = .ok (.invokevirtual 62, 3) := by decide +kernel
theorem dX8_init_181 : decode cX8_init 181 = .ok (.return_, 1) := by decide +kernel
theorem dX8_layBegun_0 : decode cX8_layBegun 0 = .ok (.iconst 0, 1) := by decide +kernel
theorem dX8_layBegun_1 : decode cX8_layBegun 1 = .ok (.istore_n 1, 1) := by decide +kernel
theorem dX8_layBegun_2 : decode cX8_layBegun 2 = .ok (.iload_n 1, 1) := by decide +kernel
theorem dX8_layBegun_3 : decode cX8_layBegun 3 = .ok (.sipush 657, 3) := by decide +kernel
theorem dX8_layBegun_6 : decode cX8_layBegun 6 = .ok (.if_icmp .ge 16, 3) := by decide +kernel
theorem dX8_layBegun_9 : decode cX8_layBegun 9 = .ok (.aload_n 0, 1) := by decide +kernel
theorem dX8_layBegun_10 : decode cX8_layBegun 10 = .ok (.getfield 7, 3) := by decide +kernel
theorem dX8_layBegun_13 : decode cX8_layBegun 13 = .ok (.iload_n 1, 1) := by decide +kernel
theorem dX8_layBegun_14 : decode cX8_layBegun 14 = .ok (.iconst 0, 1) := by decide +kernel
theorem dX8_layBegun_15 : decode cX8_layBegun 15 = .ok (.iastore, 1) := by decide +kernel
theorem dX8_layBegun_16 : decode cX8_layBegun 16 = .ok (.iinc 1 1, 3) := by decide +kernel
theorem dX8_layBegun_19 : decode cX8_layBegun 19 = .ok (.goto (-17), 3) := by decide +kernel
theorem dX8_layBegun_22 : decode cX8_layBegun 22 = .ok (.aload_n 0, 1) := by decide +kernel
theorem dX8_layBegun_23 : decode cX8_layBegun 23 = .ok (.getfield 7, 3) := by decide +kernel
theorem dX8_layBegun_26 : decode cX8_layBegun 26 = .ok (.iconst 1, 1) := by decide +kernel
theorem dX8_layBegun_27 : decode cX8_layBegun 27 = .ok (.bipush 8, 2) := by decide +kernel
theorem dX8_layBegun_29 : decode cX8_layBegun 29 = .ok (.iastore, 1) := by decide +kernel
theorem dX8_layBegun_30 : decode cX8_layBegun 30 = .ok (.iconst 0, 1) := by decide +kernel
theorem dX8_layBegun_31 : decode cX8_layBegun 31 = .ok (.istore_n 1, 1) := by decide +kernel
theorem dX8_layBegun_32 : decode cX8_layBegun 32 = .ok (.iload_n 1, 1) := by decide +kernel
theorem dX8_layBegun_33 : decode cX8_layBegun 33 = .ok (.bipush 6, 2) := by decide +kernel
theorem dX8_layBegun_35 : decode cX8_layBegun 35 = .ok (.if_icmp .ge 20, 3) := by decide +kernel
theorem dX8_layBegun_38 : decode cX8_layBegun 38 = .ok (.aload_n 0, 1) := by decide +kernel
theorem dX8_layBegun_39 : decode cX8_layBegun 39 = .ok (.getfield 7, 3) := by decide +kernel
theorem dX8_layBegun_42 : decode cX8_layBegun 42 = .ok (.bipush 11, 2) := by decide +kernel
theorem dX8_layBegun_44 : decode cX8_layBegun 44 = .ok (.iload_n 1, 1) := by decide +kernel
theorem dX8_layBegun_45 : decode cX8_layBegun 45 = .ok (.iadd, 1) := by decide +kernel
theorem dX8_layBegun_46 : decode cX8_layBegun 46 = .ok (.bipush (-9), 2) := by decide +kernel
theorem dX8_layBegun_48 : decode cX8_layBegun 48 = .ok (.iastore, 1) := by decide +kernel
theorem dX8_layBegun_49 : decode cX8_layBegun 49 = .ok (.iinc 1 1, 3) := by decide +kernel
theorem dX8_layBegun_52 : decode cX8_layBegun 52 = .ok (.goto (-20), 3) := by decide +kernel
theorem dX8_layBegun_55 : decode cX8_layBegun 55 = .ok (.iconst 1, 1) := by decide +kernel
theorem dX8_layBegun_56 : decode cX8_layBegun 56 = .ok (.istore_n 1, 1) := by decide +kernel
theorem dX8_layBegun_57 : decode cX8_layBegun 57 = .ok (.iload_n 1, 1) := by decide +kernel
theorem dX8_layBegun_58 : decode cX8_layBegun 58 = .ok (.iconst 4, 1) := by decide +kernel
theorem dX8_layBegun_59 : decode cX8_layBegun 59 = .ok (.if_icmp .ge 22, 3) := by decide +kernel
theorem dX8_layBegun_62 : decode cX8_layBegun 62 = .ok (.aload_n 0, 1) := by decide +kernel
theorem dX8_layBegun_63 : decode cX8_layBegun 63 = .ok (.getfield 7, 3) := by decide +kernel
theorem dX8_layBegun_66 : decode cX8_layBegun 66 = .ok (.sipush 657, 3) := by decide +kernel
theorem dX8_layBegun_69 : decode cX8_layBegun 69 = .ok (.iload_n 1, 1) := by decide +kernel
theorem dX8_layBegun_70 : decode cX8_layBegun 70 = .ok (.imul, 1) := by decide +kernel
theorem dX8_layBegun_71 : decode cX8_layBegun 71 = .ok (.iconst 0, 1) := by decide +kernel
theorem dX8_layBegun_72 : decode cX8_layBegun 72 = .ok (.iadd, 1) := by decide +kernel
theorem dX8_layBegun_73 : decode cX8_layBegun 73 = .ok (.iconst (-1), 1) := by decide +kernel
theorem dX8_layBegun_74 : decode cX8_layBegun 74 = .ok (.iastore, 1) := by decide +kernel
theorem dX8_layBegun_75 : decode cX8_layBegun 75 = .ok (.iinc 1 1, 3) := by decide +kernel
theorem dX8_layBegun_78 : decode cX8_layBegun 78 = .ok (.goto (-21), 3) := by decide +kernel
theorem dX8_layBegun_81 : decode cX8_layBegun 81 = .ok (.return_, 1) := by decide +kernel
theorem dX8_bits_0 : decode cX8_bits 0 = .ok (.iconst 0, 1) := by decide +kernel
theorem dX8_bits_1 : decode cX8_bits 1 = .ok (.istore_n 1, 1) := by decide +kernel
theorem dX8_bits_2 : decode cX8_bits 2 = .ok (.iconst 0, 1) := by decide +kernel
theorem dX8_bits_3 : decode cX8_bits 3 = .ok (.istore_n 2, 1) := by decide +kernel
theorem dX8_bits_4 : decode cX8_bits 4 = .ok (.iload_n 2, 1) := by decide +kernel
theorem dX8_bits_5 : decode cX8_bits 5 = .ok (.bipush 31, 2) := by decide +kernel
theorem dX8_bits_7 : decode cX8_bits 7 = .ok (.if_icmp .ge 17, 3) := by decide +kernel
theorem dX8_bits_10 : decode cX8_bits 10 = .ok (.iload_n 1, 1) := by decide +kernel
theorem dX8_bits_11 : decode cX8_bits 11 = .ok (.iload_n 0, 1) := by decide +kernel
theorem dX8_bits_12 : decode cX8_bits 12 = .ok (.iload_n 2, 1) := by decide +kernel
theorem dX8_bits_13 : decode cX8_bits 13 = .ok (.ishr, 1) := by decide +kernel
theorem dX8_bits_14 : decode cX8_bits 14 = .ok (.iconst 1, 1) := by decide +kernel
theorem dX8_bits_15 : decode cX8_bits 15 = .ok (.iand, 1) := by decide +kernel
theorem dX8_bits_16 : decode cX8_bits 16 = .ok (.iadd, 1) := by decide +kernel
theorem dX8_bits_17 : decode cX8_bits 17 = .ok (.istore_n 1, 1) := by decide +kernel
theorem dX8_bits_18 : decode cX8_bits 18 = .ok (.iinc 2 1, 3) := by decide +kernel
theorem dX8_bits_21 : decode cX8_bits 21 = .ok (.goto (-17), 3) := by decide +kernel
theorem dX8_bits_24 : decode cX8_bits 24 = .ok (.iload_n 1, 1) := by decide +kernel
theorem dX8_bits_25 : decode cX8_bits 25 = .ok (.ireturn, 1) := by decide +kernel
theorem dX8_some_0 : decode cX8_some 0 = .ok (.iload_n 0, 1) := by decide +kernel
theorem dX8_some_1 : decode cX8_some 1 = .ok (.ifCond .ge 7, 3) := by decide +kernel
theorem dX8_some_4 : decode cX8_some 4 = .ok (.iconst 0, 1) := by decide +kernel
theorem dX8_some_5 : decode cX8_some 5 = .ok (.goto 4, 3) := by decide +kernel
theorem dX8_some_8 : decode cX8_some 8 = .ok (.iload_n 0, 1) := by decide +kernel
theorem dX8_some_9 : decode cX8_some 9 = .ok (.ireturn, 1) := by decide +kernel
theorem dX8_in_0 : decode cX8_in 0 = .ok (.lload_n 0, 1) := by decide +kernel
theorem dX8_in_1 : decode cX8_in 1 = .ok (.lload_n 2, 1) := by decide +kernel
theorem dX8_in_2 : decode cX8_in 2 = .ok (.lcmp, 1) := by decide +kernel
theorem dX8_in_3 : decode cX8_in 3 = .ok (.ifCond .lt 14, 3) := by decide +kernel
theorem dX8_in_6 : decode cX8_in 6 = .ok (.lload_n 0, 1) := by decide +kernel
theorem dX8_in_7 : decode cX8_in 7 = .ok (.lload 4, 2) := by decide +kernel
theorem dX8_in_9 : decode cX8_in 9 = .ok (.lcmp, 1) := by decide +kernel
theorem dX8_in_10 : decode cX8_in 10 = .ok (.ifCond .gt 7, 3) := by decide +kernel
theorem dX8_in_13 : decode cX8_in 13 = .ok (.iconst 1, 1) := by decide +kernel
theorem dX8_in_14 : decode cX8_in 14 = .ok (.goto 4, 3) := by decide +kernel
theorem dX8_in_17 : decode cX8_in 17 = .ok (.iconst 0, 1) := by decide +kernel
theorem dX8_in_18 : decode cX8_in 18 = .ok (.ireturn, 1) := by decide +kernel
theorem dX8_has_0 : decode cX8_has 0 = .ok (.iload_n 0, 1) := by decide +kernel
theorem dX8_has_1 : decode cX8_has 1 = .ok (.iload_n 1, 1) := by decide +kernel
theorem dX8_has_2 : decode cX8_has 2 = .ok (.ishr, 1) := by decide +kernel
theorem dX8_has_3 : decode cX8_has 3 = .ok (.iconst 1, 1) := by decide +kernel
theorem dX8_has_4 : decode cX8_has 4 = .ok (.iand, 1) := by decide +kernel
theorem dX8_has_5 : decode cX8_has 5 = .ok (.iconst 1, 1) := by decide +kernel
theorem dX8_has_6 : decode cX8_has 6 = .ok (.if_icmp .ne 7, 3) := by decide +kernel
theorem dX8_has_9 : decode cX8_has 9 = .ok (.iconst 1, 1) := by decide +kernel
theorem dX8_has_10 : decode cX8_has 10 = .ok (.goto 4, 3) := by decide +kernel
theorem dX8_has_13 : decode cX8_has 13 = .ok (.iconst 0, 1) := by decide +kernel
theorem dX8_has_14 : decode cX8_has 14 = .ok (.ireturn, 1) := by decide +kernel
theorem dX8_find_0 : decode cX8_find 0 = .ok (.aload_n 0, 1) := by decide +kernel
theorem dX8_find_1 : decode cX8_find 1 = .ok (.iload_n 1, 1) := by decide +kernel
theorem dX8_find_2 : decode cX8_find 2 = .ok (.putfield 65, 3) := by decide +kernel
theorem dX8_find_5 : decode cX8_find 5 = .ok (.aload_n 0, 1) := by decide +kernel
theorem dX8_find_6 : decode cX8_find 6 = .ok (.getfield 41, 3) := by decide +kernel
theorem dX8_find_9 : decode cX8_find 9 = .ok (.iload_n 1, 1) := by decide +kernel
theorem dX8_find_10 : decode cX8_find 10 = .ok (.dup2, 1) := by decide +kernel
theorem dX8_find_11 : decode cX8_find 11 = .ok (.iaload, 1) := by decide +kernel
theorem dX8_find_12 : decode cX8_find 12 = .ok (.iconst 1, 1) := by decide +kernel
theorem dX8_find_13 : decode cX8_find 13 = .ok (.iadd, 1) := by decide +kernel
theorem dX8_find_14 : decode cX8_find 14 = .ok (.iastore, 1) := by decide +kernel
theorem dX8_find_15 : decode cX8_find 15 = .ok (.bipush (-3), 2) := by decide +kernel
theorem dX8_find_17 : decode cX8_find 17 = .ok (.ireturn, 1) := by decide +kernel
theorem dX8_tell_0 : decode cX8_tell 0 = .ok (.aload_n 0, 1) := by decide +kernel
theorem dX8_tell_1 : decode cX8_tell 1 = .ok (.iload_n 1, 1) := by decide +kernel
theorem dX8_tell_2 : decode cX8_tell 2 = .ok (.putfield 69, 3) := by decide +kernel
theorem dX8_tell_5 : decode cX8_tell 5 = .ok (.iconst 1, 1) := by decide +kernel
theorem dX8_tell_6 : decode cX8_tell 6 = .ok (.ireturn, 1) := by decide +kernel
theorem dX8_isRow_0 : decode cX8_isRow 0 = .ok (.iload_n 0, 1) := by decide +kernel
theorem dX8_isRow_1 : decode cX8_isRow 1 = .ok (.i2l, 1) := by decide +kernel
theorem dX8_isRow_2 : decode cX8_isRow 2 = .ok (.lconst 0, 1) := by decide +kernel
theorem dX8_isRow_3 : decode cX8_isRow 3 = .ok (.ldc2_w 72, 3) := by decide +kernel
theorem dX8_isRow_6 : decode cX8_isRow 6 = .ok (.invokestatic 74, 3) := by decide +kernel
theorem dX8_isRow_9 : decode cX8_isRow 9 = .ok (.ireturn, 1) := by decide +kernel
theorem dX8_isText_0 : decode cX8_isText 0 = .ok (.iload_n 0, 1) := by decide +kernel
theorem dX8_isText_1 : decode cX8_isText 1 = .ok (.i2l, 1) := by decide +kernel
theorem dX8_isText_2 : decode cX8_isText 2 = .ok (.lconst 0, 1) := by decide +kernel
theorem dX8_isText_3 : decode cX8_isText 3 = .ok (.ldc2_w 78, 3) := by decide +kernel
theorem dX8_isText_6 : decode cX8_isText 6 = .ok (.invokestatic 74, 3) := by decide +kernel
theorem dX8_isText_9 : decode cX8_isText 9 = .ok (.ireturn, 1) := by decide +kernel
theorem dX8_row_0 : decode cX8_row 0 = .ok (.iload_n 1, 1) := by decide +kernel
theorem dX8_row_1 : decode cX8_row 1 = .ok (.invokestatic 80, 3) := by decide +kernel
theorem dX8_row_4 : decode cX8_row 4 = .ok (.ifCond .eq 9, 3) := by decide +kernel
theorem dX8_row_7 : decode cX8_row 7 = .ok (.iload_n 2, 1) := by decide +kernel
theorem dX8_row_8 : decode cX8_row 8 = .ok (.bipush 40, 2) := by decide +kernel
theorem dX8_row_10 : decode cX8_row 10 = .ok (.if_icmp .le 5, 3) := by decide +kernel
theorem dX8_row_13 : decode cX8_row 13 = .ok (.iconst (-1), 1) := by decide +kernel
theorem dX8_row_14 : decode cX8_row 14 = .ok (.ireturn, 1) := by decide +kernel
theorem dX8_row_15 : decode cX8_row 15 = .ok (.iload_n 2, 1) := by decide +kernel
theorem dX8_row_16 : decode cX8_row 16 = .ok (.ifCond .ge 9, 3) := by decide +kernel
theorem dX8_row_19 : decode cX8_row 19 = .ok (.aload_n 0, 1) := by decide +kernel
theorem dX8_row_20 : decode cX8_row 20 = .ok (.iconst 5, 1) := by decide +kernel
theorem dX8_row_21 : decode cX8_row 21 = .ok (.invokevirtual 84, 3) := by decide +kernel
theorem dX8_row_24 : decode cX8_row 24 = .ok (.ireturn, 1) := by decide +kernel
theorem dX8_row_25 : decode cX8_row 25 = .ok (.aload_n 0, 1) := by decide +kernel
theorem dX8_row_26 : decode cX8_row 26 = .ok (.iload_n 1, 1) := by decide +kernel
theorem dX8_row_27 : decode cX8_row 27 = .ok (.iload_n 2, 1) := by decide +kernel
theorem dX8_row_28 : decode cX8_row 28 = .ok (.invokevirtual 88, 3) := by decide +kernel
theorem dX8_row_31 : decode cX8_row 31 = .ok (.iload_n 2, 1) := by decide +kernel
theorem dX8_row_32 : decode cX8_row 32 = .ok (.ireturn, 1) := by decide +kernel
theorem dX8_makeRow_0 : decode cX8_makeRow 0 = .ok (.aload_n 0, 1) := by decide +kernel
theorem dX8_makeRow_1 : decode cX8_makeRow 1 = .ok (.getfield 25, 3) := by decide +kernel
theorem dX8_makeRow_4 : decode cX8_makeRow 4 = .ok (.iload_n 1, 1) := by decide +kernel
theorem dX8_makeRow_5 : decode cX8_makeRow 5 = .ok (.iload_n 2, 1) := by decide +kernel
theorem dX8_makeRow_6 : decode cX8_makeRow 6 = .ok (.iastore, 1) := by decide +kernel
theorem dX8_makeRow_7 : decode cX8_makeRow 7 = .ok (.iconst 0, 1) := by decide +kernel
theorem dX8_makeRow_8 : decode cX8_makeRow 8 = .ok (.istore_n 3, 1) := by decide +kernel
theorem dX8_makeRow_9 : decode cX8_makeRow 9 = .ok (.iload_n 3, 1) := by decide +kernel
theorem dX8_makeRow_10 : decode cX8_makeRow 10 = .ok (.bipush 40, 2) := by decide +kernel
theorem dX8_makeRow_12 : decode cX8_makeRow 12 = .ok (.if_icmp .ge 21, 3) := by decide +kernel
theorem dX8_makeRow_15 : decode cX8_makeRow 15 = .ok (.aload_n 0, 1) := by decide +kernel
theorem dX8_makeRow_16 : decode cX8_makeRow 16 = .ok (.getfield 28, 3) := by decide +kernel
theorem dX8_makeRow_19 : decode cX8_makeRow 19 = .ok (.bipush 40, 2) := by decide +kernel
theorem dX8_makeRow_21 : decode cX8_makeRow 21 = .ok (.iload_n 1, 1) := by decide +kernel
theorem dX8_makeRow_22 : decode cX8_makeRow 22 = .ok (.imul, 1) := by decide +kernel
theorem dX8_makeRow_23 : decode cX8_makeRow 23 = .ok (.iload_n 3, 1) := by decide +kernel
theorem dX8_makeRow_24 : decode cX8_makeRow 24 = .ok (.iadd, 1) := by decide +kernel
theorem dX8_makeRow_25 : decode cX8_makeRow 25 = .ok (.iconst 0, 1) := by decide +kernel
theorem dX8_makeRow_26 : decode cX8_makeRow 26 = .ok (.iastore, 1) := by decide +kernel
theorem dX8_makeRow_27 : decode cX8_makeRow 27 = .ok (.iinc 3 1, 3) := by decide +kernel
theorem dX8_makeRow_30 : decode cX8_makeRow 30 = .ok (.goto (-21), 3) := by decide +kernel
theorem dX8_makeRow_33 : decode cX8_makeRow 33 = .ok (.return_, 1) := by decide +kernel
theorem dX8_refused_0 : decode cX8_refused 0 = .ok (.iload_n 1, 1) := by decide +kernel
theorem dX8_refused_1 : decode cX8_refused 1 = .ok (.invokestatic 80, 3) := by decide +kernel
theorem dX8_refused_4 : decode cX8_refused 4 = .ok (.ifCond .ne 7, 3) := by decide +kernel
theorem dX8_refused_7 : decode cX8_refused 7 = .ok (.iconst (-1), 1) := by decide +kernel
theorem dX8_refused_8 : decode cX8_refused 8 = .ok (.goto 47, 3) := by decide +kernel
theorem dX8_refused_11 : decode cX8_refused 11 = .ok (.aload_n 0, 1) := by decide +kernel
theorem dX8_refused_12 : decode cX8_refused 12 = .ok (.getfield 25, 3) := by decide +kernel
theorem dX8_refused_15 : decode cX8_refused 15 = .ok (.iload_n 1, 1) := by decide +kernel
theorem dX8_refused_16 : decode cX8_refused 16 = .ok (.iaload, 1) := by decide +kernel
theorem dX8_refused_17 : decode cX8_refused 17 = .ok (.ifCond .ge 11, 3) := by decide +kernel
theorem dX8_refused_20 : decode cX8_refused 20 = .ok (.aload_n 0, 1) := by decide +kernel
theorem dX8_refused_21 : decode cX8_refused 21 = .ok (.iconst 1, 1) := by decide +kernel
theorem dX8_refused_22 : decode cX8_refused 22 = .ok (.invokevirtual 84, 3) := by decide +kernel
theorem dX8_refused_25 : decode cX8_refused 25 = .ok (.goto 30, 3) := by decide +kernel
theorem dX8_refused_28 : decode cX8_refused 28 = .ok (.iload_n 2, 1) := by decide +kernel
theorem dX8_refused_29 : decode cX8_refused 29 = .ok (.i2l, 1) := by decide +kernel
theorem dX8_refused_30 : decode cX8_refused 30 = .ok (.lconst 0, 1) := by decide +kernel
theorem dX8_refused_31 : decode cX8_refused 31 = .ok (.aload_n 0, 1) := by decide +kernel
theorem dX8_refused_32 : decode cX8_refused 32 = .ok (.getfield 25, 3) := by decide +kernel
theorem dX8_refused_35 : decode cX8_refused 35 = .ok (.iload_n 1, 1) := by decide +kernel
theorem dX8_refused_36 : decode cX8_refused 36 = .ok (.iaload, 1) := by decide +kernel
theorem dX8_refused_37 : decode cX8_refused 37 = .ok (.iconst 1, 1) := by decide +kernel
theorem dX8_refused_38 : decode cX8_refused 38 = .ok (.isub, 1) := by decide +kernel
theorem dX8_refused_39 : decode cX8_refused 39 = .ok (.i2l, 1) := by decide +kernel
theorem dX8_refused_40 : decode cX8_refused 40 = .ok (.invokestatic 74, 3) := by decide +kernel
theorem dX8_refused_43 : decode cX8_refused 43 = .ok (.ifCond .eq 7, 3) := by decide +kernel
theorem dX8_refused_46 : decode cX8_refused 46 = .ok (.iconst 0, 1) := by decide +kernel
theorem dX8_refused_47 : decode cX8_refused 47 = .ok (.goto 8, 3) := by decide +kernel
theorem dX8_refused_50 : decode cX8_refused 50 = .ok (.aload_n 0, 1) := by decide +kernel
theorem dX8_refused_51 : decode cX8_refused 51 = .ok (.iconst 2, 1) := by decide +kernel
theorem dX8_refused_52 : decode cX8_refused 52 = .ok (.invokevirtual 84, 3) := by decide +kernel
theorem dX8_refused_55 : decode cX8_refused 55 = .ok (.ireturn, 1) := by decide +kernel
theorem dX8_lay_0 : decode cX8_lay 0 = .ok (.aload_n 0, 1) := by decide +kernel
theorem dX8_lay_1 : decode cX8_lay 1 = .ok (.iload_n 1, 1) := by decide +kernel
theorem dX8_lay_2 : decode cX8_lay 2 = .ok (.iload_n 2, 1) := by decide +kernel
theorem dX8_lay_3 : decode cX8_lay 3 = .ok (.invokevirtual 92, 3) := by decide +kernel
theorem dX8_lay_6 : decode cX8_lay 6 = .ok (.istore 4, 2) := by decide +kernel
theorem dX8_lay_8 : decode cX8_lay 8 = .ok (.iload 4, 2) := by decide +kernel
theorem dX8_lay_10 : decode cX8_lay 10 = .ok (.ifCond .eq 6, 3) := by decide +kernel
theorem dX8_lay_13 : decode cX8_lay 13 = .ok (.iload 4, 2) := by decide +kernel
theorem dX8_lay_15 : decode cX8_lay 15 = .ok (.ireturn, 1) := by decide +kernel
theorem dX8_lay_16 : decode cX8_lay 16 = .ok (.aload_n 0, 1) := by decide +kernel
theorem dX8_lay_17 : decode cX8_lay 17 = .ok (.getfield 28, 3) := by decide +kernel
theorem dX8_lay_20 : decode cX8_lay 20 = .ok (.bipush 40, 2) := by decide +kernel
theorem dX8_lay_22 : decode cX8_lay 22 = .ok (.iload_n 1, 1) := by decide +kernel
theorem dX8_lay_23 : decode cX8_lay 23 = .ok (.imul, 1) := by decide +kernel
theorem dX8_lay_24 : decode cX8_lay 24 = .ok (.iload_n 2, 1) := by decide +kernel
theorem dX8_lay_25 : decode cX8_lay 25 = .ok (.iadd, 1) := by decide +kernel
theorem dX8_lay_26 : decode cX8_lay 26 = .ok (.iaload, 1) := by decide +kernel
theorem dX8_lay_27 : decode cX8_lay 27 = .ok (.istore 5, 2) := by decide +kernel
theorem dX8_lay_29 : decode cX8_lay 29 = .ok (.aload_n 0, 1) := by decide +kernel
theorem dX8_lay_30 : decode cX8_lay 30 = .ok (.getfield 28, 3) := by decide +kernel
theorem dX8_lay_33 : decode cX8_lay 33 = .ok (.bipush 40, 2) := by decide +kernel
theorem dX8_lay_35 : decode cX8_lay 35 = .ok (.iload_n 1, 1) := by decide +kernel
theorem dX8_lay_36 : decode cX8_lay 36 = .ok (.imul, 1) := by decide +kernel
theorem dX8_lay_37 : decode cX8_lay 37 = .ok (.iload_n 2, 1) := by decide +kernel
theorem dX8_lay_38 : decode cX8_lay 38 = .ok (.iadd, 1) := by decide +kernel
theorem dX8_lay_39 : decode cX8_lay 39 = .ok (.iload_n 3, 1) := by decide +kernel
theorem dX8_lay_40 : decode cX8_lay 40 = .ok (.iastore, 1) := by decide +kernel
theorem dX8_lay_41 : decode cX8_lay 41 = .ok (.aload_n 0, 1) := by decide +kernel
theorem dX8_lay_42 : decode cX8_lay 42 = .ok (.iload 5, 2) := by decide +kernel
theorem dX8_lay_44 : decode cX8_lay 44 = .ok (.invokevirtual 96, 3) := by decide +kernel
theorem dX8_lay_47 : decode cX8_lay 47 = .ok (.ireturn, 1) := by decide +kernel
theorem dX8_at_0 : decode cX8_at 0 = .ok (.aload_n 0, 1) := by decide +kernel
theorem dX8_at_1 : decode cX8_at 1 = .ok (.iload_n 1, 1) := by decide +kernel
theorem dX8_at_2 : decode cX8_at 2 = .ok (.iload_n 2, 1) := by decide +kernel
theorem dX8_at_3 : decode cX8_at 3 = .ok (.invokevirtual 92, 3) := by decide +kernel
theorem dX8_at_6 : decode cX8_at 6 = .ok (.istore_n 3, 1) := by decide +kernel
theorem dX8_at_7 : decode cX8_at 7 = .ok (.iload_n 3, 1) := by decide +kernel
theorem dX8_at_8 : decode cX8_at 8 = .ok (.ifCond .eq 7, 3) := by decide +kernel
theorem dX8_at_11 : decode cX8_at 11 = .ok (.iload_n 3, 1) := by decide +kernel
theorem dX8_at_12 : decode cX8_at 12 = .ok (.goto 18, 3) := by decide +kernel
theorem dX8_at_15 : decode cX8_at 15 = .ok (.aload_n 0, 1) := by decide +kernel
theorem dX8_at_16 : decode cX8_at 16 = .ok (.aload_n 0, 1) := by decide +kernel
theorem dX8_at_17 : decode cX8_at 17 = .ok (.getfield 28, 3) := by decide +kernel
theorem dX8_at_20 : decode cX8_at 20 = .ok (.bipush 40, 2) := by decide +kernel
theorem dX8_at_22 : decode cX8_at 22 = .ok (.iload_n 1, 1) := by decide +kernel
theorem dX8_at_23 : decode cX8_at 23 = .ok (.imul, 1) := by decide +kernel
theorem dX8_at_24 : decode cX8_at 24 = .ok (.iload_n 2, 1) := by decide +kernel
theorem dX8_at_25 : decode cX8_at 25 = .ok (.iadd, 1) := by decide +kernel
theorem dX8_at_26 : decode cX8_at 26 = .ok (.iaload, 1) := by decide +kernel
theorem dX8_at_27 : decode cX8_at 27 = .ok (.invokevirtual 96, 3) := by decide +kernel
theorem dX8_at_30 : decode cX8_at 30 = .ok (.ireturn, 1) := by decide +kernel
theorem dX8_tear_0 : decode cX8_tear 0 = .ok (.iload_n 1, 1) := by decide +kernel
theorem dX8_tear_1 : decode cX8_tear 1 = .ok (.invokestatic 80, 3) := by decide +kernel
theorem dX8_tear_4 : decode cX8_tear 4 = .ok (.ifCond .ne 5, 3) := by decide +kernel
theorem dX8_tear_7 : decode cX8_tear 7 = .ok (.iconst (-1), 1) := by decide +kernel
theorem dX8_tear_8 : decode cX8_tear 8 = .ok (.ireturn, 1) := by decide +kernel
theorem dX8_tear_9 : decode cX8_tear 9 = .ok (.aload_n 0, 1) := by decide +kernel
theorem dX8_tear_10 : decode cX8_tear 10 = .ok (.getfield 25, 3) := by decide +kernel
theorem dX8_tear_13 : decode cX8_tear 13 = .ok (.iload_n 1, 1) := by decide +kernel
theorem dX8_tear_14 : decode cX8_tear 14 = .ok (.iaload, 1) := by decide +kernel
theorem dX8_tear_15 : decode cX8_tear 15 = .ok (.ifCond .ge 9, 3) := by decide +kernel
theorem dX8_tear_18 : decode cX8_tear 18 = .ok (.aload_n 0, 1) := by decide +kernel
theorem dX8_tear_19 : decode cX8_tear 19 = .ok (.iconst 1, 1) := by decide +kernel
theorem dX8_tear_20 : decode cX8_tear 20 = .ok (.invokevirtual 84, 3) := by decide +kernel
theorem dX8_tear_23 : decode cX8_tear 23 = .ok (.ireturn, 1) := by decide +kernel
theorem dX8_tear_24 : decode cX8_tear 24 = .ok (.aload_n 0, 1) := by decide +kernel
theorem dX8_tear_25 : decode cX8_tear 25 = .ok (.getfield 25, 3) := by decide +kernel
theorem dX8_tear_28 : decode cX8_tear 28 = .ok (.iload_n 1, 1) := by decide +kernel
theorem dX8_tear_29 : decode cX8_tear 29 = .ok (.iconst (-1), 1) := by decide +kernel
theorem dX8_tear_30 : decode cX8_tear 30 = .ok (.iastore, 1) := by decide +kernel
theorem dX8_tear_31 : decode cX8_tear 31 = .ok (.iconst 1, 1) := by decide +kernel
theorem dX8_tear_32 : decode cX8_tear 32 = .ok (.ireturn, 1) := by decide +kernel
theorem dX8_isSpan_0 : decode cX8_isSpan 0 = .ok (.iload_n 2, 1) := by decide +kernel
theorem dX8_isSpan_1 : decode cX8_isSpan 1 = .ok (.ifCond .lt 23, 3) := by decide +kernel
theorem dX8_isSpan_4 : decode cX8_isSpan 4 = .ok (.iload_n 2, 1) := by decide +kernel
theorem dX8_isSpan_5 : decode cX8_isSpan 5 = .ok (.i2l, 1) := by decide +kernel
theorem dX8_isSpan_6 : decode cX8_isSpan 6 = .ok (.iload_n 3, 1) := by decide +kernel
theorem dX8_isSpan_7 : decode cX8_isSpan 7 = .ok (.i2l, 1) := by decide +kernel
theorem dX8_isSpan_8 : decode cX8_isSpan 8 = .ok (.ladd, 1) := by decide +kernel
theorem dX8_isSpan_9 : decode cX8_isSpan 9 = .ok (.aload_n 0, 1) := by decide +kernel
theorem dX8_isSpan_10 : decode cX8_isSpan 10 = .ok (.getfield 25, 3) := by decide +kernel
theorem dX8_isSpan_13 : decode cX8_isSpan 13 = .ok (.iload_n 1, 1) := by decide +kernel
theorem dX8_isSpan_14 : decode cX8_isSpan 14 = .ok (.iaload, 1) := by decide +kernel
theorem dX8_isSpan_15 : decode cX8_isSpan 15 = .ok (.i2l, 1) := by decide +kernel
theorem dX8_isSpan_16 : decode cX8_isSpan 16 = .ok (.lcmp, 1) := by decide +kernel
theorem dX8_isSpan_17 : decode cX8_isSpan 17 = .ok (.ifCond .gt 7, 3) := by decide +kernel
theorem dX8_isSpan_20 : decode cX8_isSpan 20 = .ok (.iconst 1, 1) := by decide +kernel
theorem dX8_isSpan_21 : decode cX8_isSpan 21 = .ok (.goto 4, 3) := by decide +kernel
theorem dX8_isSpan_24 : decode cX8_isSpan 24 = .ok (.iconst 0, 1) := by decide +kernel
theorem dX8_isSpan_25 : decode cX8_isSpan 25 = .ok (.ireturn, 1) := by decide +kernel
theorem dX8_copy_0 : decode cX8_copy 0 = .ok (.iload_n 1, 1) := by decide +kernel
theorem dX8_copy_1 : decode cX8_copy 1 = .ok (.invokestatic 80, 3) := by decide +kernel
theorem dX8_copy_4 : decode cX8_copy 4 = .ok (.ifCond .eq 10, 3) := by decide +kernel
theorem dX8_copy_7 : decode cX8_copy 7 = .ok (.iload_n 3, 1) := by decide +kernel
theorem dX8_copy_8 : decode cX8_copy 8 = .ok (.invokestatic 80, 3) := by decide +kernel
theorem dX8_copy_11 : decode cX8_copy 11 = .ok (.ifCond .ne 5, 3) := by decide +kernel
theorem dX8_copy_14 : decode cX8_copy 14 = .ok (.iconst (-1), 1) := by decide +kernel
theorem dX8_copy_15 : decode cX8_copy 15 = .ok (.ireturn, 1) := by decide +kernel
theorem dX8_copy_16 : decode cX8_copy 16 = .ok (.iload 5, 2) := by decide +kernel
theorem dX8_copy_18 : decode cX8_copy 18 = .ok (.ifCond .ge 9, 3) := by decide +kernel
theorem dX8_copy_21 : decode cX8_copy 21 = .ok (.aload_n 0, 1) := by decide +kernel
theorem dX8_copy_22 : decode cX8_copy 22 = .ok (.iconst 5, 1) := by decide +kernel
theorem dX8_copy_23 : decode cX8_copy 23 = .ok (.invokevirtual 84, 3) := by decide +kernel
theorem dX8_copy_26 : decode cX8_copy 26 = .ok (.ireturn, 1) := by decide +kernel
theorem dX8_copy_27 : decode cX8_copy 27 = .ok (.aload_n 0, 1) := by decide +kernel
theorem dX8_copy_28 : decode cX8_copy 28 = .ok (.getfield 25, 3) := by decide +kernel
theorem dX8_copy_31 : decode cX8_copy 31 = .ok (.iload_n 1, 1) := by decide +kernel
theorem dX8_copy_32 : decode cX8_copy 32 = .ok (.iaload, 1) := by decide +kernel
theorem dX8_copy_33 : decode cX8_copy 33 = .ok (.ifCond .lt 12, 3) := by decide +kernel
theorem dX8_copy_36 : decode cX8_copy 36 = .ok (.aload_n 0, 1) := by decide +kernel
theorem dX8_copy_37 : decode cX8_copy 37 = .ok (.getfield 25, 3) := by decide +kernel
theorem dX8_copy_40 : decode cX8_copy 40 = .ok (.iload_n 3, 1) := by decide +kernel
theorem dX8_copy_41 : decode cX8_copy 41 = .ok (.iaload, 1) := by decide +kernel
theorem dX8_copy_42 : decode cX8_copy 42 = .ok (.ifCond .ge 9, 3) := by decide +kernel
theorem dX8_copy_45 : decode cX8_copy 45 = .ok (.aload_n 0, 1) := by decide +kernel
theorem dX8_copy_46 : decode cX8_copy 46 = .ok (.iconst 1, 1) := by decide +kernel
theorem dX8_copy_47 : decode cX8_copy 47 = .ok (.invokevirtual 84, 3) := by decide +kernel
theorem dX8_copy_50 : decode cX8_copy 50 = .ok (.ireturn, 1) := by decide +kernel
theorem dX8_copy_51 : decode cX8_copy 51 = .ok (.aload_n 0, 1) := by decide +kernel
theorem dX8_copy_52 : decode cX8_copy 52 = .ok (.iload_n 1, 1) := by decide +kernel
theorem dX8_copy_53 : decode cX8_copy 53 = .ok (.iload_n 2, 1) := by decide +kernel
theorem dX8_copy_54 : decode cX8_copy 54 = .ok (.iload 5, 2) := by decide +kernel
theorem dX8_copy_56 : decode cX8_copy 56 = .ok (.invokevirtual 99, 3) := by decide +kernel
theorem dX8_copy_59 : decode cX8_copy 59 = .ok (.ifCond .eq 15, 3) := by decide +kernel
theorem dX8_copy_62 : decode cX8_copy 62 = .ok (.aload_n 0, 1) := by decide +kernel
theorem dX8_copy_63 : decode cX8_copy 63 = .ok (.iload_n 3, 1) := by decide +kernel
theorem dX8_copy_64 : decode cX8_copy 64 = .ok (.iload 4, 2) := by decide +kernel
theorem dX8_copy_66 : decode cX8_copy 66 = .ok (.iload 5, 2) := by decide +kernel
theorem dX8_copy_68 : decode cX8_copy 68 = .ok (.invokevirtual 99, 3) := by decide +kernel
theorem dX8_copy_71 : decode cX8_copy 71 = .ok (.ifCond .ne 9, 3) := by decide +kernel
theorem dX8_copy_74 : decode cX8_copy 74 = .ok (.aload_n 0, 1) := by decide +kernel
theorem dX8_copy_75 : decode cX8_copy 75 = .ok (.iconst 2, 1) := by decide +kernel
theorem dX8_copy_76 : decode cX8_copy 76 = .ok (.invokevirtual 84, 3) := by decide +kernel
theorem dX8_copy_79 : decode cX8_copy 79 = .ok (.ireturn, 1) := by decide +kernel
theorem dX8_copy_80 : decode cX8_copy 80 = .ok (.iload_n 2, 1) := by decide +kernel
theorem dX8_copy_81 : decode cX8_copy 81 = .ok (.iload 4, 2) := by decide +kernel
theorem dX8_copy_83 : decode cX8_copy 83 = .ok (.if_icmp .ge 7, 3) := by decide +kernel
theorem dX8_copy_86 : decode cX8_copy 86 = .ok (.iconst 1, 1) := by decide +kernel
theorem dX8_copy_87 : decode cX8_copy 87 = .ok (.goto 4, 3) := by decide +kernel
theorem dX8_copy_90 : decode cX8_copy 90 = .ok (.iconst 0, 1) := by decide +kernel
theorem dX8_copy_91 : decode cX8_copy 91 = .ok (.istore 6, 2) := by decide +kernel
theorem dX8_copy_93 : decode cX8_copy 93 = .ok (.iconst 0, 1) := by decide +kernel
theorem dX8_copy_94 : decode cX8_copy 94 = .ok (.istore 7, 2) := by decide +kernel
theorem dX8_copy_96 : decode cX8_copy 96 = .ok (.iload 7, 2) := by decide +kernel
theorem dX8_copy_98 : decode cX8_copy 98 = .ok (.iload 5, 2) := by decide +kernel
theorem dX8_copy_100 : decode cX8_copy 100 = .ok (.if_icmp .ge 57, 3) := by decide +kernel
theorem dX8_copy_103 : decode cX8_copy 103 = .ok (.iload 6, 2) := by decide +kernel
theorem dX8_copy_105 : decode cX8_copy 105 = .ok (.ifCond .eq 13, 3) := by decide +kernel
theorem dX8_copy_108 : decode cX8_copy 108 = .ok (.iload 5, 2) := by decide +kernel
theorem dX8_copy_110 : decode cX8_copy 110 = .ok (.iconst 1, 1) := by decide +kernel
theorem dX8_copy_111 : decode cX8_copy 111 = .ok (.isub, 1) := by decide +kernel
theorem dX8_copy_112 : decode cX8_copy 112 = .ok (.iload 7, 2) := by decide +kernel
theorem dX8_copy_114 : decode cX8_copy 114 = .ok (.isub, 1) := by decide +kernel
theorem dX8_copy_115 : decode cX8_copy 115 = .ok (.goto 5, 3) := by decide +kernel
theorem dX8_copy_118 : decode cX8_copy 118 = .ok (.iload 7, 2) := by decide +kernel
theorem dX8_copy_120 : decode cX8_copy 120 = .ok (.istore 8, 2) := by decide +kernel
theorem dX8_copy_122 : decode cX8_copy 122 = .ok (.aload_n 0, 1) := by decide +kernel
theorem dX8_copy_123 : decode cX8_copy 123 = .ok (.getfield 28, 3) := by decide +kernel
theorem dX8_copy_126 : decode cX8_copy 126 = .ok (.bipush 40, 2) := by decide +kernel
theorem dX8_copy_128 : decode cX8_copy 128 = .ok (.iload_n 3, 1) := by decide +kernel
theorem dX8_copy_129 : decode cX8_copy 129 = .ok (.imul, 1) := by decide +kernel
theorem dX8_copy_130 : decode cX8_copy 130 = .ok (.iload 4, 2) := by decide +kernel
theorem dX8_copy_132 : decode cX8_copy 132 = .ok (.iadd, 1) := by decide +kernel
theorem dX8_copy_133 : decode cX8_copy 133 = .ok (.iload 8, 2) := by decide +kernel
theorem dX8_copy_135 : decode cX8_copy 135 = .ok (.iadd, 1) := by decide +kernel
theorem dX8_copy_136 : decode cX8_copy 136 = .ok (.aload_n 0, 1) := by decide +kernel
theorem dX8_copy_137 : decode cX8_copy 137 = .ok (.getfield 28, 3) := by decide +kernel
theorem dX8_copy_140 : decode cX8_copy 140 = .ok (.bipush 40, 2) := by decide +kernel
theorem dX8_copy_142 : decode cX8_copy 142 = .ok (.iload_n 1, 1) := by decide +kernel
theorem dX8_copy_143 : decode cX8_copy 143 = .ok (.imul, 1) := by decide +kernel
theorem dX8_copy_144 : decode cX8_copy 144 = .ok (.iload_n 2, 1) := by decide +kernel
theorem dX8_copy_145 : decode cX8_copy 145 = .ok (.iadd, 1) := by decide +kernel
theorem dX8_copy_146 : decode cX8_copy 146 = .ok (.iload 8, 2) := by decide +kernel
theorem dX8_copy_148 : decode cX8_copy 148 = .ok (.iadd, 1) := by decide +kernel
theorem dX8_copy_149 : decode cX8_copy 149 = .ok (.iaload, 1) := by decide +kernel
theorem dX8_copy_150 : decode cX8_copy 150 = .ok (.iastore, 1) := by decide +kernel
theorem dX8_copy_151 : decode cX8_copy 151 = .ok (.iinc 7 1, 3) := by decide +kernel
theorem dX8_copy_154 : decode cX8_copy 154 = .ok (.goto (-58), 3) := by decide +kernel
theorem dX8_copy_157 : decode cX8_copy 157 = .ok (.iconst 1, 1) := by decide +kernel
theorem dX8_copy_158 : decode cX8_copy 158 = .ok (.ireturn, 1) := by decide +kernel
theorem dX8_mean_0 : decode cX8_mean 0 = .ok (.iload_n 1, 1) := by decide +kernel
theorem dX8_mean_1 : decode cX8_mean 1 = .ok (.invokestatic 80, 3) := by decide +kernel
theorem dX8_mean_4 : decode cX8_mean 4 = .ok (.ifCond .ne 5, 3) := by decide +kernel
theorem dX8_mean_7 : decode cX8_mean 7 = .ok (.iconst (-1), 1) := by decide +kernel
theorem dX8_mean_8 : decode cX8_mean 8 = .ok (.ireturn, 1) := by decide +kernel
theorem dX8_mean_9 : decode cX8_mean 9 = .ok (.aload_n 0, 1) := by decide +kernel
theorem dX8_mean_10 : decode cX8_mean 10 = .ok (.getfield 25, 3) := by decide +kernel
theorem dX8_mean_13 : decode cX8_mean 13 = .ok (.iload_n 1, 1) := by decide +kernel
theorem dX8_mean_14 : decode cX8_mean 14 = .ok (.iaload, 1) := by decide +kernel
theorem dX8_mean_15 : decode cX8_mean 15 = .ok (.ifCond .ge 9, 3) := by decide +kernel
theorem dX8_mean_18 : decode cX8_mean 18 = .ok (.aload_n 0, 1) := by decide +kernel
theorem dX8_mean_19 : decode cX8_mean 19 = .ok (.iconst 1, 1) := by decide +kernel
theorem dX8_mean_20 : decode cX8_mean 20 = .ok (.invokevirtual 84, 3) := by decide +kernel
theorem dX8_mean_23 : decode cX8_mean 23 = .ok (.ireturn, 1) := by decide +kernel
theorem dX8_mean_24 : decode cX8_mean 24 = .ok (.aload_n 0, 1) := by decide +kernel
theorem dX8_mean_25 : decode cX8_mean 25 = .ok (.getfield 25, 3) := by decide +kernel
theorem dX8_mean_28 : decode cX8_mean 28 = .ok (.iload_n 1, 1) := by decide +kernel
theorem dX8_mean_29 : decode cX8_mean 29 = .ok (.iaload, 1) := by decide +kernel
theorem dX8_mean_30 : decode cX8_mean 30 = .ok (.ifCond .ne 9, 3) := by decide +kernel
theorem dX8_mean_33 : decode cX8_mean 33 = .ok (.aload_n 0, 1) := by decide +kernel
theorem dX8_mean_34 : decode cX8_mean 34 = .ok (.iconst 4, 1) := by decide +kernel
theorem dX8_mean_35 : decode cX8_mean 35 = .ok (.invokevirtual 84, 3) := by decide +kernel
theorem dX8_mean_38 : decode cX8_mean 38 = .ok (.ireturn, 1) := by decide +kernel
theorem dX8_mean_39 : decode cX8_mean 39 = .ok (.lconst 0, 1) := by decide +kernel
theorem dX8_mean_40 : decode cX8_mean 40 = .ok (.lstore_n 2, 1) := by decide +kernel
theorem dX8_mean_41 : decode cX8_mean 41 = .ok (.iconst 0, 1) := by decide +kernel
theorem dX8_mean_42 : decode cX8_mean 42 = .ok (.istore 4, 2) := by decide +kernel
theorem dX8_mean_44 : decode cX8_mean 44 = .ok (.iload 4, 2) := by decide +kernel
theorem dX8_mean_46 : decode cX8_mean 46 = .ok (.aload_n 0, 1) := by decide +kernel
theorem dX8_mean_47 : decode cX8_mean 47 = .ok (.getfield 25, 3) := by decide +kernel
theorem dX8_mean_50 : decode cX8_mean 50 = .ok (.iload_n 1, 1) := by decide +kernel
theorem dX8_mean_51 : decode cX8_mean 51 = .ok (.iaload, 1) := by decide +kernel
theorem dX8_mean_52 : decode cX8_mean 52 = .ok (.if_icmp .ge 25, 3) := by decide +kernel
theorem dX8_mean_55 : decode cX8_mean 55 = .ok (.lload_n 2, 1) := by decide +kernel
theorem dX8_mean_56 : decode cX8_mean 56 = .ok (.aload_n 0, 1) := by decide +kernel
theorem dX8_mean_57 : decode cX8_mean 57 = .ok (.getfield 28, 3) := by decide +kernel
theorem dX8_mean_60 : decode cX8_mean 60 = .ok (.bipush 40, 2) := by decide +kernel
theorem dX8_mean_62 : decode cX8_mean 62 = .ok (.iload_n 1, 1) := by decide +kernel
theorem dX8_mean_63 : decode cX8_mean 63 = .ok (.imul, 1) := by decide +kernel
theorem dX8_mean_64 : decode cX8_mean 64 = .ok (.iload 4, 2) := by decide +kernel
theorem dX8_mean_66 : decode cX8_mean 66 = .ok (.iadd, 1) := by decide +kernel
theorem dX8_mean_67 : decode cX8_mean 67 = .ok (.iaload, 1) := by decide +kernel
theorem dX8_mean_68 : decode cX8_mean 68 = .ok (.i2l, 1) := by decide +kernel
theorem dX8_mean_69 : decode cX8_mean 69 = .ok (.ladd, 1) := by decide +kernel
theorem dX8_mean_70 : decode cX8_mean 70 = .ok (.lstore_n 2, 1) := by decide +kernel
