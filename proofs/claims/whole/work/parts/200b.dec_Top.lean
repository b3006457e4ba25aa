theorem jd_Top_add_60 : decode jm_m_Top_add.2.1 60 = .ok (.getfield 42, 3) := by decide +kernel
theorem jd_Top_add_63 : decode jm_m_Top_add.2.1 63 = .ok (.iload_n 1, 1) := by decide +kernel
theorem jd_Top_add_64 : decode jm_m_Top_add.2.1 64 = .ok (.iload_n 2, 1) := by decide +kernel
theorem jd_Top_add_65 : decode jm_m_Top_add.2.1 65 = .ok (.iload_n 3, 1) := by decide +kernel
theorem jd_Top_add_66 : decode jm_m_Top_add.2.1 66 = .ok (.iload 4, 2) := by decide +kernel
theorem jd_Top_add_68 : decode jm_m_Top_add.2.1 68 = .ok (.iload 5, 2) := by decide +kernel
theorem jd_Top_add_70 : decode jm_m_Top_add.2.1 70 = .ok (.invokevirtual 173, 3) := by decide +kernel
theorem jd_Top_add_73 : decode jm_m_Top_add.2.1 73 = .ok (.ifCond .eq 15, 3) := by decide +kernel
theorem jd_Top_add_76 : decode jm_m_Top_add.2.1 76 = .ok (.aload_n 0, 1) := by decide +kernel
theorem jd_Top_add_77 : decode jm_m_Top_add.2.1 77 = .ok (.getfield 42, 3) := by decide +kernel
theorem jd_Top_add_80 : decode jm_m_Top_add.2.1 80 = .ok (.getfield 177, 3) := by decide +kernel
theorem jd_Top_add_83 : decode jm_m_Top_add.2.1 83 = .ok (.iconst 1, 1) := by decide +kernel
theorem jd_Top_add_84 : decode jm_m_Top_add.2.1 84 = .ok (.isub, 1) := by decide +kernel
theorem jd_Top_add_85 : decode jm_m_Top_add.2.1 85 = .ok (.goto 5, 3) := by decide +kernel
theorem jd_Top_add_88 : decode jm_m_Top_add.2.1 88 = .ok (.bipush (-4), 2) := by decide +kernel
theorem jd_Top_add_90 : decode jm_m_Top_add.2.1 90 = .ok (.ireturn, 1) := by decide +kernel
theorem jd_Top_drop_0 : decode jm_m_Top_drop.2.1 0 = .ok (.aload_n 0, 1) := by decide +kernel
theorem jd_Top_drop_1 : decode jm_m_Top_drop.2.1 1 = .ok (.getfield 42, 3) := by decide +kernel
theorem jd_Top_drop_4 : decode jm_m_Top_drop.2.1 4 = .ok (.getfield 177, 3) := by decide +kernel
theorem jd_Top_drop_7 : decode jm_m_Top_drop.2.1 7 = .ok (.istore_n 1, 1) := by decide +kernel
theorem jd_Top_drop_8 : decode jm_m_Top_drop.2.1 8 = .ok (.aload_n 0, 1) := by decide +kernel
theorem jd_Top_drop_9 : decode jm_m_Top_drop.2.1 9 = .ok (.getfield 42, 3) := by decide +kernel
theorem jd_Top_drop_12 : decode jm_m_Top_drop.2.1 12 = .ok (.invokevirtual 178, 3) := by decide +kernel
theorem jd_Top_drop_15 : decode jm_m_Top_drop.2.1 15 = .ok (.iload_n 1, 1) := by decide +kernel
theorem jd_Top_drop_16 : decode jm_m_Top_drop.2.1 16 = .ok (.ireturn, 1) := by decide +kernel
theorem jd_Top_about_0 : decode jm_m_Top_about.2.1 0 = .ok (.aload_n 0, 1) := by decide +kernel
theorem jd_Top_about_1 : decode jm_m_Top_about.2.1 1 = .ok (.getfield 42, 3) := by decide +kernel
theorem jd_Top_about_4 : decode jm_m_Top_about.2.1 4 = .ok (.iload_n 1, 1) := by decide +kernel
theorem jd_Top_about_5 : decode jm_m_Top_about.2.1 5 = .ok (.invokevirtual 181, 3) := by decide +kernel
theorem jd_Top_about_8 : decode jm_m_Top_about.2.1 8 = .ok (.ifCond .ne 5, 3) := by decide +kernel
theorem jd_Top_about_11 : decode jm_m_Top_about.2.1 11 = .ok (.iconst (-1), 1) := by decide +kernel
theorem jd_Top_about_12 : decode jm_m_Top_about.2.1 12 = .ok (.ireturn, 1) := by decide +kernel
theorem jd_Top_about_13 : decode jm_m_Top_about.2.1 13 = .ok (.iload_n 2, 1) := by decide +kernel
theorem jd_Top_about_14 : decode jm_m_Top_about.2.1 14 = .ok (.ifCond .lt 8, 3) := by decide +kernel
theorem jd_Top_about_17 : decode jm_m_Top_about.2.1 17 = .ok (.iload_n 2, 1) := by decide +kernel
theorem jd_Top_about_18 : decode jm_m_Top_about.2.1 18 = .ok (.iconst 5, 1) := by decide +kernel
theorem jd_Top_about_19 : decode jm_m_Top_about.2.1 19 = .ok (.if_icmp .le 6, 3) := by decide +kernel
theorem jd_Top_about_22 : decode jm_m_Top_about.2.1 22 = .ok (.bipush (-2), 2) := by decide +kernel
theorem jd_Top_about_24 : decode jm_m_Top_about.2.1 24 = .ok (.ireturn, 1) := by decide +kernel
theorem jd_Top_about_25 : decode jm_m_Top_about.2.1 25 = .ok (.iload_n 2, 1) := by decide +kernel
theorem jd_Top_about_26 : decode jm_m_Top_about.2.1 26 = .ok (.iconst 5, 1) := by decide +kernel
theorem jd_Top_about_27 : decode jm_m_Top_about.2.1 27 = .ok (.if_icmp .ne 14, 3) := by decide +kernel
theorem jd_Top_about_30 : decode jm_m_Top_about.2.1 30 = .ok (.aload_n 0, 1) := by decide +kernel
theorem jd_Top_about_31 : decode jm_m_Top_about.2.1 31 = .ok (.getfield 42, 3) := by decide +kernel
theorem jd_Top_about_34 : decode jm_m_Top_about.2.1 34 = .ok (.iload_n 1, 1) := by decide +kernel
theorem jd_Top_about_35 : decode jm_m_Top_about.2.1 35 = .ok (.invokevirtual 182, 3) := by decide +kernel
theorem jd_Top_about_38 : decode jm_m_Top_about.2.1 38 = .ok (.goto 14, 3) := by decide +kernel
theorem jd_Top_about_41 : decode jm_m_Top_about.2.1 41 = .ok (.aload_n 0, 1) := by decide +kernel
theorem jd_Top_about_42 : decode jm_m_Top_about.2.1 42 = .ok (.getfield 42, 3) := by decide +kernel
theorem jd_Top_about_45 : decode jm_m_Top_about.2.1 45 = .ok (.getfield 185, 3) := by decide +kernel
theorem jd_Top_about_48 : decode jm_m_Top_about.2.1 48 = .ok (.iload_n 2, 1) := by decide +kernel
theorem jd_Top_about_49 : decode jm_m_Top_about.2.1 49 = .ok (.aaload, 1) := by decide +kernel
theorem jd_Top_about_50 : decode jm_m_Top_about.2.1 50 = .ok (.iload_n 1, 1) := by decide +kernel
theorem jd_Top_about_51 : decode jm_m_Top_about.2.1 51 = .ok (.iaload, 1) := by decide +kernel
theorem jd_Top_about_52 : decode jm_m_Top_about.2.1 52 = .ok (.ireturn, 1) := by decide +kernel
theorem jd_Top_end_0 : decode jm_m_Top_end.2.1 0 = .ok (.aload_n 0, 1) := by decide +kernel
theorem jd_Top_end_1 : decode jm_m_Top_end.2.1 1 = .ok (.getfield 42, 3) := by decide +kernel
theorem jd_Top_end_4 : decode jm_m_Top_end.2.1 4 = .ok (.invokevirtual 189, 3) := by decide +kernel
theorem jd_Top_end_7 : decode jm_m_Top_end.2.1 7 = .ok (.ireturn, 1) := by decide +kernel
theorem jd_Top_ahead_0 : decode jm_m_Top_ahead.2.1 0 = .ok (.aload_n 0, 1) := by decide +kernel
theorem jd_Top_ahead_1 : decode jm_m_Top_ahead.2.1 1 = .ok (.getfield 42, 3) := by decide +kernel
theorem jd_Top_ahead_4 : decode jm_m_Top_ahead.2.1 4 = .ok (.iload_n 1, 1) := by decide +kernel
theorem jd_Top_ahead_5 : decode jm_m_Top_ahead.2.1 5 = .ok (.invokevirtual 181, 3) := by decide +kernel
theorem jd_Top_ahead_8 : decode jm_m_Top_ahead.2.1 8 = .ok (.ifCond .eq 14, 3) := by decide +kernel
theorem jd_Top_ahead_11 : decode jm_m_Top_ahead.2.1 11 = .ok (.aload_n 0, 1) := by decide +kernel
theorem jd_Top_ahead_12 : decode jm_m_Top_ahead.2.1 12 = .ok (.getfield 42, 3) := by decide +kernel
theorem jd_Top_ahead_15 : decode jm_m_Top_ahead.2.1 15 = .ok (.iload_n 2, 1) := by decide +kernel
theorem jd_Top_ahead_16 : decode jm_m_Top_ahead.2.1 16 = .ok (.invokevirtual 181, 3) := by decide +kernel
theorem jd_Top_ahead_19 : decode jm_m_Top_ahead.2.1 19 = .ok (.ifCond .ne 5, 3) := by decide +kernel
theorem jd_Top_ahead_22 : decode jm_m_Top_ahead.2.1 22 = .ok (.iconst (-1), 1) := by decide +kernel
theorem jd_Top_ahead_23 : decode jm_m_Top_ahead.2.1 23 = .ok (.ireturn, 1) := by decide +kernel
theorem jd_Top_ahead_24 : decode jm_m_Top_ahead.2.1 24 = .ok (.iload_n 1, 1) := by decide +kernel
theorem jd_Top_ahead_25 : decode jm_m_Top_ahead.2.1 25 = .ok (.iload_n 2, 1) := by decide +kernel
theorem jd_Top_ahead_26 : decode jm_m_Top_ahead.2.1 26 = .ok (.if_icmp .lt 6, 3) := by decide +kernel
theorem jd_Top_ahead_29 : decode jm_m_Top_ahead.2.1 29 = .ok (.bipush (-2), 2) := by decide +kernel
theorem jd_Top_ahead_31 : decode jm_m_Top_ahead.2.1 31 = .ok (.ireturn, 1) := by decide +kernel
theorem jd_Top_ahead_32 : decode jm_m_Top_ahead.2.1 32 = .ok (.aload_n 0, 1) := by decide +kernel
theorem jd_Top_ahead_33 : decode jm_m_Top_ahead.2.1 33 = .ok (.getfield 42, 3) := by decide +kernel
theorem jd_Top_ahead_36 : decode jm_m_Top_ahead.2.1 36 = .ok (.iload_n 1, 1) := by decide +kernel
theorem jd_Top_ahead_37 : decode jm_m_Top_ahead.2.1 37 = .ok (.iload_n 2, 1) := by decide +kernel
theorem jd_Top_ahead_38 : decode jm_m_Top_ahead.2.1 38 = .ok (.invokevirtual 192, 3) := by decide +kernel
theorem jd_Top_ahead_41 : decode jm_m_Top_ahead.2.1 41 = .ok (.ifCond .eq 7, 3) := by decide +kernel
theorem jd_Top_ahead_44 : decode jm_m_Top_ahead.2.1 44 = .ok (.iconst 1, 1) := by decide +kernel
theorem jd_Top_ahead_45 : decode jm_m_Top_ahead.2.1 45 = .ok (.goto 4, 3) := by decide +kernel
theorem jd_Top_ahead_48 : decode jm_m_Top_ahead.2.1 48 = .ok (.iconst 0, 1) := by decide +kernel
theorem jd_Top_ahead_49 : decode jm_m_Top_ahead.2.1 49 = .ok (.ireturn, 1) := by decide +kernel
theorem jd_Top_best_0 : decode jm_m_Top_best.2.1 0 = .ok (.aload_n 0, 1) := by decide +kernel
theorem jd_Top_best_1 : decode jm_m_Top_best.2.1 1 = .ok (.getfield 42, 3) := by decide +kernel
theorem jd_Top_best_4 : decode jm_m_Top_best.2.1 4 = .ok (.getfield 177, 3) := by decide +kernel
theorem jd_Top_best_7 : decode jm_m_Top_best.2.1 7 = .ok (.bipush 10, 2) := by decide +kernel
theorem jd_Top_best_9 : decode jm_m_Top_best.2.1 9 = .ok (.if_icmp .le 6, 3) := by decide +kernel
theorem jd_Top_best_12 : decode jm_m_Top_best.2.1 12 = .ok (.bipush (-3), 2) := by decide +kernel
theorem jd_Top_best_14 : decode jm_m_Top_best.2.1 14 = .ok (.ireturn, 1) := by decide +kernel
theorem jd_Top_best_15 : decode jm_m_Top_best.2.1 15 = .ok (.aload_n 0, 1) := by decide +kernel
theorem jd_Top_best_16 : decode jm_m_Top_best.2.1 16 = .ok (.getfield 51, 3) := by decide +kernel
theorem jd_Top_best_19 : decode jm_m_Top_best.2.1 19 = .ok (.invokevirtual 196, 3) := by decide +kernel
theorem jd_Top_best_22 : decode jm_m_Top_best.2.1 22 = .ok (.iload_n 1, 1) := by decide +kernel
theorem jd_Top_best_23 : decode jm_m_Top_best.2.1 23 = .ok (.iconst (-1), 1) := by decide +kernel
theorem jd_Top_best_24 : decode jm_m_Top_best.2.1 24 = .ok (.if_icmp .ne 11, 3) := by decide +kernel
theorem jd_Top_best_27 : decode jm_m_Top_best.2.1 27 = .ok (.aload_n 0, 1) := by decide +kernel
theorem jd_Top_best_28 : decode jm_m_Top_best.2.1 28 = .ok (.getfield 51, 3) := by decide +kernel
theorem jd_Top_best_31 : decode jm_m_Top_best.2.1 31 = .ok (.getfield 197, 3) := by decide +kernel
theorem jd_Top_best_34 : decode jm_m_Top_best.2.1 34 = .ok (.ireturn, 1) := by decide +kernel
theorem jd_Top_best_35 : decode jm_m_Top_best.2.1 35 = .ok (.aload_n 0, 1) := by decide +kernel
theorem jd_Top_best_36 : decode jm_m_Top_best.2.1 36 = .ok (.getfield 42, 3) := by decide +kernel
theorem jd_Top_best_39 : decode jm_m_Top_best.2.1 39 = .ok (.iload_n 1, 1) := by decide +kernel
theorem jd_Top_best_40 : decode jm_m_Top_best.2.1 40 = .ok (.invokevirtual 181, 3) := by decide +kernel
theorem jd_Top_best_43 : decode jm_m_Top_best.2.1 43 = .ok (.ifCond .eq 15, 3) := by decide +kernel
theorem jd_Top_best_46 : decode jm_m_Top_best.2.1 46 = .ok (.aload_n 0, 1) := by decide +kernel
theorem jd_Top_best_47 : decode jm_m_Top_best.2.1 47 = .ok (.getfield 51, 3) := by decide +kernel
theorem jd_Top_best_50 : decode jm_m_Top_best.2.1 50 = .ok (.getfield 200, 3) := by decide +kernel
theorem jd_Top_best_53 : decode jm_m_Top_best.2.1 53 = .ok (.iload_n 1, 1) := by decide +kernel
theorem jd_Top_best_54 : decode jm_m_Top_best.2.1 54 = .ok (.iaload, 1) := by decide +kernel
theorem jd_Top_best_55 : decode jm_m_Top_best.2.1 55 = .ok (.goto 5, 3) := by decide +kernel
theorem jd_Top_best_58 : decode jm_m_Top_best.2.1 58 = .ok (.bipush (-6), 2) := by decide +kernel
theorem jd_Top_best_60 : decode jm_m_Top_best.2.1 60 = .ok (.ireturn, 1) := by decide +kernel
theorem jd_Top_sort_0 : decode jm_m_Top_sort.2.1 0 = .ok (.aload_n 0, 1) := by decide +kernel
theorem jd_Top_sort_1 : decode jm_m_Top_sort.2.1 1 = .ok (.getfield 42, 3) := by decide +kernel
theorem jd_Top_sort_4 : decode jm_m_Top_sort.2.1 4 = .ok (.getfield 177, 3) := by decide +kernel
theorem jd_Top_sort_7 : decode jm_m_Top_sort.2.1 7 = .ok (.bipush 10, 2) := by decide +kernel
theorem jd_Top_sort_9 : decode jm_m_Top_sort.2.1 9 = .ok (.if_icmp .le 6, 3) := by decide +kernel
theorem jd_Top_sort_12 : decode jm_m_Top_sort.2.1 12 = .ok (.bipush (-3), 2) := by decide +kernel
theorem jd_Top_sort_14 : decode jm_m_Top_sort.2.1 14 = .ok (.ireturn, 1) := by decide +kernel
theorem jd_Top_sort_15 : decode jm_m_Top_sort.2.1 15 = .ok (.aload_n 0, 1) := by decide +kernel
theorem jd_Top_sort_16 : decode jm_m_Top_sort.2.1 16 = .ok (.getfield 51, 3) := by decide +kernel
theorem jd_Top_sort_19 : decode jm_m_Top_sort.2.1 19 = .ok (.invokevirtual 196, 3) := by decide +kernel
theorem jd_Top_sort_22 : decode jm_m_Top_sort.2.1 22 = .ok (.aload_n 0, 1) := by decide +kernel
theorem jd_Top_sort_23 : decode jm_m_Top_sort.2.1 23 = .ok (.getfield 42, 3) := by decide +kernel
theorem jd_Top_sort_26 : decode jm_m_Top_sort.2.1 26 = .ok (.aload_n 0, 1) := by decide +kernel
theorem jd_Top_sort_27 : decode jm_m_Top_sort.2.1 27 = .ok (.getfield 51, 3) := by decide +kernel
theorem jd_Top_sort_30 : decode jm_m_Top_sort.2.1 30 = .ok (.getfield 200, 3) := by decide +kernel
theorem jd_Top_sort_33 : decode jm_m_Top_sort.2.1 33 = .ok (.invokevirtual 203, 3) := by decide +kernel
theorem jd_Top_sort_36 : decode jm_m_Top_sort.2.1 36 = .ok (.aload_n 0, 1) := by decide +kernel
theorem jd_Top_sort_37 : decode jm_m_Top_sort.2.1 37 = .ok (.getfield 51, 3) := by decide +kernel
theorem jd_Top_sort_40 : decode jm_m_Top_sort.2.1 40 = .ok (.getfield 197, 3) := by decide +kernel
theorem jd_Top_sort_43 : decode jm_m_Top_sort.2.1 43 = .ok (.ireturn, 1) := by decide +kernel
theorem jd_Top_keep_0 : decode jm_m_Top_keep.2.1 0 = .ok (.iload_n 1, 1) := by decide +kernel
theorem jd_Top_keep_1 : decode jm_m_Top_keep.2.1 1 = .ok (.ifCond .lt 9, 3) := by decide +kernel
theorem jd_Top_keep_4 : decode jm_m_Top_keep.2.1 4 = .ok (.iload_n 1, 1) := by decide +kernel
theorem jd_Top_keep_5 : decode jm_m_Top_keep.2.1 5 = .ok (.bipush 63, 2) := by decide +kernel
theorem jd_Top_keep_7 : decode jm_m_Top_keep.2.1 7 = .ok (.if_icmp .le 6, 3) := by decide +kernel
theorem jd_Top_keep_10 : decode jm_m_Top_keep.2.1 10 = .ok (.bipush (-2), 2) := by decide +kernel
theorem jd_Top_keep_12 : decode jm_m_Top_keep.2.1 12 = .ok (.ireturn, 1) := by decide +kernel
theorem jd_Top_keep_13 : decode jm_m_Top_keep.2.1 13 = .ok (.aload_n 0, 1) := by decide +kernel
theorem jd_Top_keep_14 : decode jm_m_Top_keep.2.1 14 = .ok (.getfield 58, 3) := by decide +kernel
theorem jd_Top_keep_17 : decode jm_m_Top_keep.2.1 17 = .ok (.getfield 207, 3) := by decide +kernel
theorem jd_Top_keep_20 : decode jm_m_Top_keep.2.1 20 = .ok (.istore_n 2, 1) := by decide +kernel
theorem jd_Top_keep_21 : decode jm_m_Top_keep.2.1 21 = .ok (.aload_n 0, 1) := by decide +kernel
theorem jd_Top_keep_22 : decode jm_m_Top_keep.2.1 22 = .ok (.getfield 58, 3) := by decide +kernel
theorem jd_Top_keep_25 : decode jm_m_Top_keep.2.1 25 = .ok (.iload_n 1, 1) := by decide +kernel
theorem jd_Top_keep_26 : decode jm_m_Top_keep.2.1 26 = .ok (.putfield 207, 3) := by decide +kernel
theorem jd_Top_keep_29 : decode jm_m_Top_keep.2.1 29 = .ok (.iload_n 2, 1) := by decide +kernel
theorem jd_Top_keep_30 : decode jm_m_Top_keep.2.1 30 = .ok (.ireturn, 1) := by decide +kernel
theorem jd_Top_weigh_0 : decode jm_m_Top_weigh.2.1 0 = .ok (.aload_n 0, 1) := by decide +kernel
theorem jd_Top_weigh_1 : decode jm_m_Top_weigh.2.1 1 = .ok (.getfield 42, 3) := by decide +kernel
theorem jd_Top_weigh_4 : decode jm_m_Top_weigh.2.1 4 = .ok (.iload_n 1, 1) := by decide +kernel
theorem jd_Top_weigh_5 : decode jm_m_Top_weigh.2.1 5 = .ok (.invokevirtual 181, 3) := by decide +kernel
theorem jd_Top_weigh_8 : decode jm_m_Top_weigh.2.1 8 = .ok (.ifCond .ne 5, 3) := by decide +kernel
theorem jd_Top_weigh_11 : decode jm_m_Top_weigh.2.1 11 = .ok (.iconst (-1), 1) := by decide +kernel
theorem jd_Top_weigh_12 : decode jm_m_Top_weigh.2.1 12 = .ok (.ireturn, 1) := by decide +kernel
theorem jd_Top_weigh_13 : decode jm_m_Top_weigh.2.1 13 = .ok (.iload_n 2, 1) := by decide +kernel
theorem jd_Top_weigh_14 : decode jm_m_Top_weigh.2.1 14 = .ok (.iconst 1, 1) := by decide +kernel
theorem jd_Top_weigh_15 : decode jm_m_Top_weigh.2.1 15 = .ok (.if_icmp .lt 9, 3) := by decide +kernel
theorem jd_Top_weigh_18 : decode jm_m_Top_weigh.2.1 18 = .ok (.iload_n 2, 1) := by decide +kernel
theorem jd_Top_weigh_19 : decode jm_m_Top_weigh.2.1 19 = .ok (.bipush 100, 2) := by decide +kernel
theorem jd_Top_weigh_21 : decode jm_m_Top_weigh.2.1 21 = .ok (.if_icmp .le 6, 3) := by decide +kernel
theorem jd_Top_weigh_24 : decode jm_m_Top_weigh.2.1 24 = .ok (.bipush (-2), 2) := by decide +kernel
theorem jd_Top_weigh_26 : decode jm_m_Top_weigh.2.1 26 = .ok (.ireturn, 1) := by decide +kernel
theorem jd_Top_weigh_27 : decode jm_m_Top_weigh.2.1 27 = .ok (.aload_n 0, 1) := by decide +kernel
theorem jd_Top_weigh_28 : decode jm_m_Top_weigh.2.1 28 = .ok (.getfield 42, 3) := by decide +kernel
theorem jd_Top_weigh_31 : decode jm_m_Top_weigh.2.1 31 = .ok (.getfield 185, 3) := by decide +kernel
theorem jd_Top_weigh_34 : decode jm_m_Top_weigh.2.1 34 = .ok (.iconst 5, 1) := by decide +kernel
theorem jd_Top_weigh_35 : decode jm_m_Top_weigh.2.1 35 = .ok (.aaload, 1) := by decide +kernel
theorem jd_Top_weigh_36 : decode jm_m_Top_weigh.2.1 36 = .ok (.iload_n 1, 1) := by decide +kernel
theorem jd_Top_weigh_37 : decode jm_m_Top_weigh.2.1 37 = .ok (.iaload, 1) := by decide +kernel
theorem jd_Top_weigh_38 : decode jm_m_Top_weigh.2.1 38 = .ok (.istore_n 3, 1) := by decide +kernel
theorem jd_Top_weigh_39 : decode jm_m_Top_weigh.2.1 39 = .ok (.aload_n 0, 1) := by decide +kernel
theorem jd_Top_weigh_40 : decode jm_m_Top_weigh.2.1 40 = .ok (.getfield 42, 3) := by decide +kernel
theorem jd_Top_weigh_43 : decode jm_m_Top_weigh.2.1 43 = .ok (.getfield 185, 3) := by decide +kernel
theorem jd_Top_weigh_46 : decode jm_m_Top_weigh.2.1 46 = .ok (.iconst 5, 1) := by decide +kernel
theorem jd_Top_weigh_47 : decode jm_m_Top_weigh.2.1 47 = .ok (.aaload, 1) := by decide +kernel
theorem jd_Top_weigh_48 : decode jm_m_Top_weigh.2.1 48 = .ok (.iload_n 1, 1) := by decide +kernel
theorem jd_Top_weigh_49 : decode jm_m_Top_weigh.2.1 49 = .ok (.iload_n 2, 1) := by decide +kernel
theorem jd_Top_weigh_50 : decode jm_m_Top_weigh.2.1 50 = .ok (.iastore, 1) := by decide +kernel
theorem jd_Top_weigh_51 : decode jm_m_Top_weigh.2.1 51 = .ok (.iload_n 3, 1) := by decide +kernel
theorem jd_Top_weigh_52 : decode jm_m_Top_weigh.2.1 52 = .ok (.ireturn, 1) := by decide +kernel
theorem jd_Top_lives_0 : decode jm_m_Top_lives.2.1 0 = .ok (.aload_n 0, 1) := by decide +kernel
theorem jd_Top_lives_1 : decode jm_m_Top_lives.2.1 1 = .ok (.getfield 42, 3) := by decide +kernel
theorem jd_Top_lives_4 : decode jm_m_Top_lives.2.1 4 = .ok (.iload_n 1, 1) := by decide +kernel
theorem jd_Top_lives_5 : decode jm_m_Top_lives.2.1 5 = .ok (.invokevirtual 181, 3) := by decide +kernel
theorem jd_Top_lives_8 : decode jm_m_Top_lives.2.1 8 = .ok (.ifCond .eq 16, 3) := by decide +kernel
theorem jd_Top_lives_11 : decode jm_m_Top_lives.2.1 11 = .ok (.aload_n 0, 1) := by decide +kernel
theorem jd_Top_lives_12 : decode jm_m_Top_lives.2.1 12 = .ok (.getfield 58, 3) := by decide +kernel
theorem jd_Top_lives_15 : decode jm_m_Top_lives.2.1 15 = .ok (.iload_n 1, 1) := by decide +kernel
theorem jd_Top_lives_16 : decode jm_m_Top_lives.2.1 16 = .ok (.invokevirtual 210, 3) := by decide +kernel
theorem jd_Top_lives_19 : decode jm_m_Top_lives.2.1 19 = .ok (.iload_n 1, 1) := by decide +kernel
theorem jd_Top_lives_20 : decode jm_m_Top_lives.2.1 20 = .ok (.isub, 1) := by decide +kernel
theorem jd_Top_lives_21 : decode jm_m_Top_lives.2.1 21 = .ok (.goto 4, 3) := by decide +kernel
theorem jd_Top_lives_24 : decode jm_m_Top_lives.2.1 24 = .ok (.iconst (-1), 1) := by decide +kernel
theorem jd_Top_lives_25 : decode jm_m_Top_lives.2.1 25 = .ok (.ireturn, 1) := by decide +kernel
theorem jd_Top_place_0 : decode jm_m_Top_place.2.1 0 = .ok (.aload_n 0, 1) := by decide +kernel
theorem jd_Top_place_1 : decode jm_m_Top_place.2.1 1 = .ok (.getfield 42, 3) := by decide +kernel
theorem jd_Top_place_4 : decode jm_m_Top_place.2.1 4 = .ok (.iload_n 1, 1) := by decide +kernel
theorem jd_Top_place_5 : decode jm_m_Top_place.2.1 5 = .ok (.invokevirtual 181, 3) := by decide +kernel
theorem jd_Top_place_8 : decode jm_m_Top_place.2.1 8 = .ok (.ifCond .eq 14, 3) := by decide +kernel
theorem jd_Top_place_11 : decode jm_m_Top_place.2.1 11 = .ok (.aload_n 0, 1) := by decide +kernel
theorem jd_Top_place_12 : decode jm_m_Top_place.2.1 12 = .ok (.getfield 58, 3) := by decide +kernel
theorem jd_Top_place_15 : decode jm_m_Top_place.2.1 15 = .ok (.iload_n 1, 1) := by decide +kernel
theorem jd_Top_place_16 : decode jm_m_Top_place.2.1 16 = .ok (.invokevirtual 213, 3) := by decide +kernel
theorem jd_Top_place_19 : decode jm_m_Top_place.2.1 19 = .ok (.goto 4, 3) := by decide +kernel
theorem jd_Top_place_22 : decode jm_m_Top_place.2.1 22 = .ok (.iconst (-1), 1) := by decide +kernel
theorem jd_Top_place_23 : decode jm_m_Top_place.2.1 23 = .ok (.ireturn, 1) := by decide +kernel
theorem jd_Top_crowd_0 : decode jm_m_Top_crowd.2.1 0 = .ok (.aload_n 0, 1) := by decide +kernel
theorem jd_Top_crowd_1 : decode jm_m_Top_crowd.2.1 1 = .ok (.getfield 58, 3) := by decide +kernel
theorem jd_Top_crowd_4 : decode jm_m_Top_crowd.2.1 4 = .ok (.invokevirtual 216, 3) := by decide +kernel
theorem jd_Top_crowd_7 : decode jm_m_Top_crowd.2.1 7 = .ok (.ireturn, 1) := by decide +kernel
theorem jd_Top_spilled_0 : decode jm_m_Top_spilled.2.1 0 = .ok (.iload_n 1, 1) := by decide +kernel
theorem jd_Top_spilled_1 : decode jm_m_Top_spilled.2.1 1 = .ok (.ifCond .lt 16, 3) := by decide +kernel
theorem jd_Top_spilled_4 : decode jm_m_Top_spilled.2.1 4 = .ok (.iload_n 1, 1) := by decide +kernel
theorem jd_Top_spilled_5 : decode jm_m_Top_spilled.2.1 5 = .ok (.bipush 12, 2) := by decide +kernel
theorem jd_Top_spilled_7 : decode jm_m_Top_spilled.2.1 7 = .ok (.if_icmp .gt 10, 3) := by decide +kernel
theorem jd_Top_spilled_10 : decode jm_m_Top_spilled.2.1 10 = .ok (.iload_n 2, 1) := by decide +kernel
theorem jd_Top_spilled_11 : decode jm_m_Top_spilled.2.1 11 = .ok (.invokestatic 136, 3) := by decide +kernel
theorem jd_Top_spilled_14 : decode jm_m_Top_spilled.2.1 14 = .ok (.ifCond .ne 6, 3) := by decide +kernel
theorem jd_Top_spilled_17 : decode jm_m_Top_spilled.2.1 17 = .ok (.bipush (-2), 2) := by decide +kernel
theorem jd_Top_spilled_19 : decode jm_m_Top_spilled.2.1 19 = .ok (.ireturn, 1) := by decide +kernel
theorem jd_Top_spilled_20 : decode jm_m_Top_spilled.2.1 20 = .ok (.aload_n 0, 1) := by decide +kernel
theorem jd_Top_spilled_21 : decode jm_m_Top_spilled.2.1 21 = .ok (.getfield 58, 3) := by decide +kernel
theorem jd_Top_spilled_24 : decode jm_m_Top_spilled.2.1 24 = .ok (.iload_n 1, 1) := by decide +kernel
theorem jd_Top_spilled_25 : decode jm_m_Top_spilled.2.1 25 = .ok (.invokevirtual 219, 3) := by decide +kernel
theorem jd_Top_spilled_28 : decode jm_m_Top_spilled.2.1 28 = .ok (.iload_n 2, 1) := by decide +kernel
theorem jd_Top_spilled_29 : decode jm_m_Top_spilled.2.1 29 = .ok (.ifCond .ne 13, 3) := by decide +kernel
theorem jd_Top_spilled_32 : decode jm_m_Top_spilled.2.1 32 = .ok (.aload_n 0, 1) := by decide +kernel
theorem jd_Top_spilled_33 : decode jm_m_Top_spilled.2.1 33 = .ok (.getfield 58, 3) := by decide +kernel
theorem jd_Top_spilled_36 : decode jm_m_Top_spilled.2.1 36 = .ok (.getfield 223, 3) := by decide +kernel
theorem jd_Top_spilled_39 : decode jm_m_Top_spilled.2.1 39 = .ok (.goto 10, 3) := by decide +kernel
theorem jd_Top_spilled_42 : decode jm_m_Top_spilled.2.1 42 = .ok (.aload_n 0, 1) := by decide +kernel
theorem jd_Top_spilled_43 : decode jm_m_Top_spilled.2.1 43 = .ok (.getfield 58, 3) := by decide +kernel
theorem jd_Top_spilled_46 : decode jm_m_Top_spilled.2.1 46 = .ok (.getfield 226, 3) := by decide +kernel
theorem jd_Top_spilled_49 : decode jm_m_Top_spilled.2.1 49 = .ok (.ireturn, 1) := by decide +kernel
theorem jd_Top_run_0 : decode jm_m_Top_run.2.1 0 = .ok (.iload_n 1, 1) := by decide +kernel
theorem jd_Top_run_1 : decode jm_m_Top_run.2.1 1 = .ok (.ifCond .lt 26, 3) := by decide +kernel
theorem jd_Top_run_4 : decode jm_m_Top_run.2.1 4 = .ok (.iload_n 1, 1) := by decide +kernel
theorem jd_Top_run_5 : decode jm_m_Top_run.2.1 5 = .ok (.bipush 15, 2) := by decide +kernel
theorem jd_Top_run_7 : decode jm_m_Top_run.2.1 7 = .ok (.if_icmp .gt 20, 3) := by decide +kernel
theorem jd_Top_run_10 : decode jm_m_Top_run.2.1 10 = .ok (.iload_n 2, 1) := by decide +kernel
theorem jd_Top_run_11 : decode jm_m_Top_run.2.1 11 = .ok (.ifCond .lt 16, 3) := by decide +kernel
theorem jd_Top_run_14 : decode jm_m_Top_run.2.1 14 = .ok (.iload_n 2, 1) := by decide +kernel
theorem jd_Top_run_15 : decode jm_m_Top_run.2.1 15 = .ok (.bipush 15, 2) := by decide +kernel
theorem jd_Top_run_17 : decode jm_m_Top_run.2.1 17 = .ok (.if_icmp .gt 10, 3) := by decide +kernel
theorem jd_Top_run_20 : decode jm_m_Top_run.2.1 20 = .ok (.iload_n 3, 1) := by decide +kernel
theorem jd_Top_run_21 : decode jm_m_Top_run.2.1 21 = .ok (.invokestatic 167, 3) := by decide +kernel
theorem jd_Top_run_24 : decode jm_m_Top_run.2.1 24 = .ok (.ifCond .ne 6, 3) := by decide +kernel
theorem jd_Top_run_27 : decode jm_m_Top_run.2.1 27 = .ok (.bipush (-2), 2) := by decide +kernel
theorem jd_Top_run_29 : decode jm_m_Top_run.2.1 29 = .ok (.ireturn, 1) := by decide +kernel
theorem jd_Top_run_30 : decode jm_m_Top_run.2.1 30 = .ok (.aload_n 0, 1) := by decide +kernel
theorem jd_Top_run_31 : decode jm_m_Top_run.2.1 31 = .ok (.getfield 65, 3) := by decide +kernel
theorem jd_Top_run_34 : decode jm_m_Top_run.2.1 34 = .ok (.iload_n 1, 1) := by decide +kernel
theorem jd_Top_run_35 : decode jm_m_Top_run.2.1 35 = .ok (.i2l, 1) := by decide +kernel
theorem jd_Top_run_36 : decode jm_m_Top_run.2.1 36 = .ok (.iload_n 2, 1) := by decide +kernel
theorem jd_Top_run_37 : decode jm_m_Top_run.2.1 37 = .ok (.i2l, 1) := by decide +kernel
theorem jd_Top_run_38 : decode jm_m_Top_run.2.1 38 = .ok (.invokevirtual 229, 3) := by decide +kernel
theorem jd_Top_run_41 : decode jm_m_Top_run.2.1 41 = .ok (.aload_n 0, 1) := by decide +kernel
theorem jd_Top_run_42 : decode jm_m_Top_run.2.1 42 = .ok (.getfield 65, 3) := by decide +kernel
theorem jd_Top_run_45 : decode jm_m_Top_run.2.1 45 = .ok (.getfield 233, 3) := by decide +kernel
theorem jd_Top_run_48 : decode jm_m_Top_run.2.1 48 = .ok (.iload_n 3, 1) := by decide +kernel
theorem jd_Top_run_49 : decode jm_m_Top_run.2.1 49 = .ok (.laload, 1) := by decide +kernel
theorem jd_Top_run_50 : decode jm_m_Top_run.2.1 50 = .ok (.ldc2_w 237, 3) := by decide +kernel
theorem jd_Top_run_53 : decode jm_m_Top_run.2.1 53 = .ok (.land, 1) := by decide +kernel
theorem jd_Top_run_54 : decode jm_m_Top_run.2.1 54 = .ok (.l2i, 1) := by decide +kernel
theorem jd_Top_run_55 : decode jm_m_Top_run.2.1 55 = .ok (.ireturn, 1) := by decide +kernel
theorem jd_Top_shortest_0 : decode jm_m_Top_shortest.2.1 0 = .ok (.iload_n 1, 1) := by decide +kernel
theorem jd_Top_shortest_1 : decode jm_m_Top_shortest.2.1 1 = .ok (.ifCond .lt 8, 3) := by decide +kernel
theorem jd_Top_shortest_4 : decode jm_m_Top_shortest.2.1 4 = .ok (.iload_n 1, 1) := by decide +kernel
theorem jd_Top_shortest_5 : decode jm_m_Top_shortest.2.1 5 = .ok (.iconst 3, 1) := by decide +kernel
theorem jd_Top_shortest_6 : decode jm_m_Top_shortest.2.1 6 = .ok (.if_icmp .le 6, 3) := by decide +kernel
theorem jd_Top_shortest_9 : decode jm_m_Top_shortest.2.1 9 = .ok (.bipush (-2), 2) := by decide +kernel
theorem jd_Top_shortest_11 : decode jm_m_Top_shortest.2.1 11 = .ok (.ireturn, 1) := by decide +kernel
theorem jd_Top_shortest_12 : decode jm_m_Top_shortest.2.1 12 = .ok (.aload_n 0, 1) := by decide +kernel
theorem jd_Top_shortest_13 : decode jm_m_Top_shortest.2.1 13 = .ok (.getfield 74, 3) := by decide +kernel
theorem jd_Top_shortest_16 : decode jm_m_Top_shortest.2.1 16 = .ok (.iload_n 1, 1) := by decide +kernel
theorem jd_Top_shortest_17 : decode jm_m_Top_shortest.2.1 17 = .ok (.invokevirtual 239, 3) := by decide +kernel
theorem jd_Top_shortest_20 : decode jm_m_Top_shortest.2.1 20 = .ok (.aload_n 0, 1) := by decide +kernel
theorem jd_Top_shortest_21 : decode jm_m_Top_shortest.2.1 21 = .ok (.getfield 74, 3) := by decide +kernel
theorem jd_Top_shortest_24 : decode jm_m_Top_shortest.2.1 24 = .ok (.getfield 241, 3) := by decide +kernel
theorem jd_Top_shortest_27 : decode jm_m_Top_shortest.2.1 27 = .ok (.ifCond .lt 14, 3) := by decide +kernel
theorem jd_Top_shortest_30 : decode jm_m_Top_shortest.2.1 30 = .ok (.aload_n 0, 1) := by decide +kernel
theorem jd_Top_shortest_31 : decode jm_m_Top_shortest.2.1 31 = .ok (.getfield 74, 3) := by decide +kernel
theorem jd_Top_shortest_34 : decode jm_m_Top_shortest.2.1 34 = .ok (.getfield 241, 3) := by decide +kernel
theorem jd_Top_shortest_37 : decode jm_m_Top_shortest.2.1 37 = .ok (.iload_n 1, 1) := by decide +kernel
theorem jd_Top_shortest_38 : decode jm_m_Top_shortest.2.1 38 = .ok (.if_icmp .le 6, 3) := by decide +kernel
theorem jd_Top_shortest_41 : decode jm_m_Top_shortest.2.1 41 = .ok (.bipush (-5), 2) := by decide +kernel
theorem jd_Top_shortest_43 : decode jm_m_Top_shortest.2.1 43 = .ok (.ireturn, 1) := by decide +kernel
theorem jd_Top_shortest_44 : decode jm_m_Top_shortest.2.1 44 = .ok (.iload_n 2, 1) := by decide +kernel
theorem jd_Top_shortest_45 : decode jm_m_Top_shortest.2.1 45 = .ok (.iconst (-1), 1) := by decide +kernel
theorem jd_Top_shortest_46 : decode jm_m_Top_shortest.2.1 46 = .ok (.if_icmp .ne 11, 3) := by decide +kernel
theorem jd_Top_shortest_49 : decode jm_m_Top_shortest.2.1 49 = .ok (.aload_n 0, 1) := by decide +kernel
theorem jd_Top_shortest_50 : decode jm_m_Top_shortest.2.1 50 = .ok (.getfield 74, 3) := by decide +kernel
theorem jd_Top_shortest_53 : decode jm_m_Top_shortest.2.1 53 = .ok (.getfield 241, 3) := by decide +kernel
theorem jd_Top_shortest_56 : decode jm_m_Top_shortest.2.1 56 = .ok (.ireturn, 1) := by decide +kernel
theorem jd_Top_shortest_57 : decode jm_m_Top_shortest.2.1 57 = .ok (.iload_n 2, 1) := by decide +kernel
theorem jd_Top_shortest_58 : decode jm_m_Top_shortest.2.1 58 = .ok (.ifCond .lt 14, 3) := by decide +kernel
theorem jd_Top_shortest_61 : decode jm_m_Top_shortest.2.1 61 = .ok (.iload_n 2, 1) := by decide +kernel
theorem jd_Top_shortest_62 : decode jm_m_Top_shortest.2.1 62 = .ok (.aload_n 0, 1) := by decide +kernel
theorem jd_Top_shortest_63 : decode jm_m_Top_shortest.2.1 63 = .ok (.getfield 74, 3) := by decide +kernel
theorem jd_Top_shortest_66 : decode jm_m_Top_shortest.2.1 66 = .ok (.getfield 241, 3) := by decide +kernel
theorem jd_Top_shortest_69 : decode jm_m_Top_shortest.2.1 69 = .ok (.if_icmp .lt 8, 3) := by decide +kernel
theorem jd_Top_shortest_72 : decode jm_m_Top_shortest.2.1 72 = .ok (.bipush (-6), 2) := by decide +kernel
theorem jd_Top_shortest_74 : decode jm_m_Top_shortest.2.1 74 = .ok (.goto 11, 3) := by decide +kernel
theorem jd_Top_shortest_77 : decode jm_m_Top_shortest.2.1 77 = .ok (.aload_n 0, 1) := by decide +kernel
theorem jd_Top_shortest_78 : decode jm_m_Top_shortest.2.1 78 = .ok (.getfield 74, 3) := by decide +kernel
theorem jd_Top_shortest_81 : decode jm_m_Top_shortest.2.1 81 = .ok (.iload_n 2, 1) := by decide +kernel
theorem jd_Top_shortest_82 : decode jm_m_Top_shortest.2.1 82 = .ok (.invokevirtual 244, 3) := by decide +kernel
theorem jd_Top_shortest_85 : decode jm_m_Top_shortest.2.1 85 = .ok (.ireturn, 1) := by decide +kernel
theorem jd_Top_thin_0 : decode jm_m_Top_thin.2.1 0 = .ok (.iconst 0, 1) := by decide +kernel
theorem jd_Top_thin_1 : decode jm_m_Top_thin.2.1 1 = .ok (.istore_n 1, 1) := by decide +kernel
theorem jd_Top_thin_2 : decode jm_m_Top_thin.2.1 2 = .ok (.iconst 0, 1) := by decide +kernel
theorem jd_Top_thin_3 : decode jm_m_Top_thin.2.1 3 = .ok (.istore_n 2, 1) := by decide +kernel
theorem jd_Top_thin_4 : decode jm_m_Top_thin.2.1 4 = .ok (.iload_n 2, 1) := by decide +kernel
theorem jd_Top_thin_5 : decode jm_m_Top_thin.2.1 5 = .ok (.bipush 12, 2) := by decide +kernel
theorem jd_Top_thin_7 : decode jm_m_Top_thin.2.1 7 = .ok (.if_icmp .ge 34, 3) := by decide +kernel
theorem jd_Top_thin_10 : decode jm_m_Top_thin.2.1 10 = .ok (.aload_n 0, 1) := by decide +kernel
theorem jd_Top_thin_11 : decode jm_m_Top_thin.2.1 11 = .ok (.getfield 58, 3) := by decide +kernel
theorem jd_Top_thin_14 : decode jm_m_Top_thin.2.1 14 = .ok (.invokevirtual 247, 3) := by decide +kernel
theorem jd_Top_thin_17 : decode jm_m_Top_thin.2.1 17 = .ok (.istore_n 3, 1) := by decide +kernel
theorem jd_Top_thin_18 : decode jm_m_Top_thin.2.1 18 = .ok (.iload_n 3, 1) := by decide +kernel
theorem jd_Top_thin_19 : decode jm_m_Top_thin.2.1 19 = .ok (.ifCond .ge 5, 3) := by decide +kernel
theorem jd_Top_thin_22 : decode jm_m_Top_thin.2.1 22 = .ok (.iload_n 1, 1) := by decide +kernel
theorem jd_Top_thin_23 : decode jm_m_Top_thin.2.1 23 = .ok (.ireturn, 1) := by decide +kernel
theorem jd_Top_thin_24 : decode jm_m_Top_thin.2.1 24 = .ok (.aload_n 0, 1) := by decide +kernel
theorem jd_Top_thin_25 : decode jm_m_Top_thin.2.1 25 = .ok (.getfield 42, 3) := by decide +kernel
theorem jd_Top_thin_28 : decode jm_m_Top_thin.2.1 28 = .ok (.iload_n 3, 1) := by decide +kernel
theorem jd_Top_thin_29 : decode jm_m_Top_thin.2.1 29 = .ok (.invokevirtual 250, 3) := by decide +kernel
theorem jd_Top_thin_32 : decode jm_m_Top_thin.2.1 32 = .ok (.iinc 1 1, 3) := by decide +kernel
theorem jd_Top_thin_35 : decode jm_m_Top_thin.2.1 35 = .ok (.iinc 2 1, 3) := by decide +kernel
theorem jd_Top_thin_38 : decode jm_m_Top_thin.2.1 38 = .ok (.goto (-34), 3) := by decide +kernel
theorem jd_Top_thin_41 : decode jm_m_Top_thin.2.1 41 = .ok (.iload_n 1, 1) := by decide +kernel
theorem jd_Top_thin_42 : decode jm_m_Top_thin.2.1 42 = .ok (.ireturn, 1) := by decide +kernel
theorem jd_Top_told_0 : decode jm_m_Top_told.2.1 0 = .ok (.iload_n 1, 1) := by decide +kernel
theorem jd_Top_told_1 : decode jm_m_Top_told.2.1 1 = .ok (.tableswitch 75 0 4 #[35, 43, 51, 59, 67], 35) := by decide +kernel
theorem jd_Top_told_36 : decode jm_m_Top_told.2.1 36 = .ok (.aload_n 0, 1) := by decide +kernel
theorem jd_Top_told_37 : decode jm_m_Top_told.2.1 37 = .ok (.getfield 10, 3) := by decide +kernel
theorem jd_Top_told_40 : decode jm_m_Top_told.2.1 40 = .ok (.getfield 82, 3) := by decide +kernel
theorem jd_Top_told_43 : decode jm_m_Top_told.2.1 43 = .ok (.ireturn, 1) := by decide +kernel
theorem jd_Top_told_44 : decode jm_m_Top_told.2.1 44 = .ok (.aload_n 0, 1) := by decide +kernel
theorem jd_Top_told_45 : decode jm_m_Top_told.2.1 45 = .ok (.getfield 19, 3) := by decide +kernel
theorem jd_Top_told_48 : decode jm_m_Top_told.2.1 48 = .ok (.getfield 98, 3) := by decide +kernel
theorem jd_Top_told_51 : decode jm_m_Top_told.2.1 51 = .ok (.ireturn, 1) := by decide +kernel
theorem jd_Top_told_52 : decode jm_m_Top_told.2.1 52 = .ok (.aload_n 0, 1) := by decide +kernel
theorem jd_Top_told_53 : decode jm_m_Top_told.2.1 53 = .ok (.getfield 26, 3) := by decide +kernel
theorem jd_Top_told_56 : decode jm_m_Top_told.2.1 56 = .ok (.getfield 125, 3) := by decide +kernel
theorem jd_Top_told_59 : decode jm_m_Top_told.2.1 59 = .ok (.ireturn, 1) := by decide +kernel
theorem jd_Top_told_60 : decode jm_m_Top_told.2.1 60 = .ok (.aload_n 0, 1) := by decide +kernel
theorem jd_Top_told_61 : decode jm_m_Top_told.2.1 61 = .ok (.getfield 42, 3) := by decide +kernel
theorem jd_Top_told_64 : decode jm_m_Top_told.2.1 64 = .ok (.getfield 177, 3) := by decide +kernel
theorem jd_Top_told_67 : decode jm_m_Top_told.2.1 67 = .ok (.ireturn, 1) := by decide +kernel
theorem jd_Top_told_68 : decode jm_m_Top_told.2.1 68 = .ok (.aload_n 0, 1) := by decide +kernel
theorem jd_Top_told_69 : decode jm_m_Top_told.2.1 69 = .ok (.getfield 58, 3) := by decide +kernel
theorem jd_Top_told_72 : decode jm_m_Top_told.2.1 72 = .ok (.getfield 207, 3) := by decide +kernel
theorem jd_Top_told_75 : decode jm_m_Top_told.2.1 75 = .ok (.ireturn, 1) := by decide +kernel
theorem jd_Top_told_76 : decode jm_m_Top_told.2.1 76 = .ok (.bipush (-2), 2) := by decide +kernel
theorem jd_Top_told_78 : decode jm_m_Top_told.2.1 78 = .ok (.ireturn, 1) := by decide +kernel
theorem jd_Top_isHead_0 : decode jm_m_Top_isHead.2.1 0 = .ok (.iload_n 0, 1) := by decide +kernel
theorem jd_Top_isHead_1 : decode jm_m_Top_isHead.2.1 1 = .ok (.ifCond .eq 8, 3) := by decide +kernel
theorem jd_Top_isHead_4 : decode jm_m_Top_isHead.2.1 4 = .ok (.iload_n 0, 1) := by decide +kernel
theorem jd_Top_isHead_5 : decode jm_m_Top_isHead.2.1 5 = .ok (.iconst 1, 1) := by decide +kernel
theorem jd_Top_isHead_6 : decode jm_m_Top_isHead.2.1 6 = .ok (.if_icmp .ne 7, 3) := by decide +kernel
theorem jd_Top_isHead_9 : decode jm_m_Top_isHead.2.1 9 = .ok (.iconst 1, 1) := by decide +kernel
theorem jd_Top_isHead_10 : decode jm_m_Top_isHead.2.1 10 = .ok (.goto 4, 3) := by decide +kernel
theorem jd_Top_isHead_13 : decode jm_m_Top_isHead.2.1 13 = .ok (.iconst 0, 1) := by decide +kernel
theorem jd_Top_isHead_14 : decode jm_m_Top_isHead.2.1 14 = .ok (.ireturn, 1) := by decide +kernel
theorem jd_Top_isPrice_0 : decode jm_m_Top_isPrice.2.1 0 = .ok (.iload_n 0, 1) := by decide +kernel
theorem jd_Top_isPrice_1 : decode jm_m_Top_isPrice.2.1 1 = .ok (.ifCond .lt 13, 3) := by decide +kernel
theorem jd_Top_isPrice_4 : decode jm_m_Top_isPrice.2.1 4 = .ok (.iload_n 0, 1) := by decide +kernel
theorem jd_Top_isPrice_5 : decode jm_m_Top_isPrice.2.1 5 = .ok (.bipush 20, 2) := by decide +kernel
theorem jd_Top_isPrice_7 : decode jm_m_Top_isPrice.2.1 7 = .ok (.if_icmp .gt 7, 3) := by decide +kernel
theorem jd_Top_isPrice_10 : decode jm_m_Top_isPrice.2.1 10 = .ok (.iconst 1, 1) := by decide +kernel
theorem jd_Top_isPrice_11 : decode jm_m_Top_isPrice.2.1 11 = .ok (.goto 4, 3) := by decide +kernel
theorem jd_Top_isPrice_14 : decode jm_m_Top_isPrice.2.1 14 = .ok (.iconst 0, 1) := by decide +kernel
theorem jd_Top_isPrice_15 : decode jm_m_Top_isPrice.2.1 15 = .ok (.ireturn, 1) := by decide +kernel
theorem jd_Top_isBit_0 : decode jm_m_Top_isBit.2.1 0 = .ok (.iload_n 0, 1) := by decide +kernel
theorem jd_Top_isBit_1 : decode jm_m_Top_isBit.2.1 1 = .ok (.ifCond .eq 8, 3) := by decide +kernel
theorem jd_Top_isBit_4 : decode jm_m_Top_isBit.2.1 4 = .ok (.iload_n 0, 1) := by decide +kernel
theorem jd_Top_isBit_5 : decode jm_m_Top_isBit.2.1 5 = .ok (.iconst 1, 1) := by decide +kernel
theorem jd_Top_isBit_6 : decode jm_m_Top_isBit.2.1 6 = .ok (.if_icmp .ne 7, 3) := by decide +kernel
theorem jd_Top_isBit_9 : decode jm_m_Top_isBit.2.1 9 = .ok (.iconst 1, 1) := by decide +kernel
theorem jd_Top_isBit_10 : decode jm_m_Top_isBit.2.1 10 = .ok (.goto 4, 3) := by decide +kernel
theorem jd_Top_isBit_13 : decode jm_m_Top_isBit.2.1 13 = .ok (.iconst 0, 1) := by decide +kernel
theorem jd_Top_isBit_14 : decode jm_m_Top_isBit.2.1 14 = .ok (.ireturn, 1) := by decide +kernel
theorem jd_Integer_bitCount_0 : decode jm_m_Integer_bitCount.2.1 0 = .ok (.iload_n 0, 1) := by decide +kernel
theorem jd_Integer_bitCount_1 : decode jm_m_Integer_bitCount.2.1 1 = .ok (.iload_n 0, 1) := by decide +kernel
theorem jd_Integer_bitCount_2 : decode jm_m_Integer_bitCount.2.1 2 = .ok (.iconst 1, 1) := by decide +kernel
theorem jd_Integer_bitCount_3 : decode jm_m_Integer_bitCount.2.1 3 = .ok (.iushr, 1) := by decide +kernel
theorem jd_Integer_bitCount_4 : decode jm_m_Integer_bitCount.2.1 4 = .ok (.ldc_w 265, 3) := by decide +kernel
theorem jd_Integer_bitCount_7 : decode jm_m_Integer_bitCount.2.1 7 = .ok (.iand, 1) := by decide +kernel
theorem jd_Integer_bitCount_8 : decode jm_m_Integer_bitCount.2.1 8 = .ok (.isub, 1) := by decide +kernel
theorem jd_Integer_bitCount_9 : decode jm_m_Integer_bitCount.2.1 9 = .ok (.istore_n 0, 1) := by decide +kernel
theorem jd_Integer_bitCount_10 : decode jm_m_Integer_bitCount.2.1 10 = .ok (.iload_n 0, 1) := by decide +kernel
theorem jd_Integer_bitCount_11 : decode jm_m_Integer_bitCount.2.1 11 = .ok (.ldc_w 266, 3) := by decide +kernel
theorem jd_Integer_bitCount_14 : decode jm_m_Integer_bitCount.2.1 14 = .ok (.iand, 1) := by decide +kernel
