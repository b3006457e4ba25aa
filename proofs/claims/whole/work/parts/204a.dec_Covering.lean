theorem jd_Covering_init_0 : decode jm_m_Covering_init.2.1 0 = .ok (.aload_n 0, 1) := by decide +kernel
theorem jd_Covering_init_1 : decode jm_m_Covering_init.2.1 1 = .ok (.invokespecial 3, 3) := by decide +kernel
theorem jd_Covering_init_4 : decode jm_m_Covering_init.2.1 4 = .ok (.aload_n 0, 1) := by decide +kernel
theorem jd_Covering_init_5 : decode jm_m_Covering_init.2.1 5 = .ok (.bipush 60, 2) := by decide +kernel
theorem jd_Covering_init_7 : decode jm_m_Covering_init.2.1 7 = .ok (.newarray .int, 2) := by decide +kernel
theorem jd_Covering_init_9 : decode jm_m_Covering_init.2.1 9 = .ok (.putfield 11, 3) := by decide +kernel
theorem jd_Covering_init_12 : decode jm_m_Covering_init.2.1 12 = .ok (.aload_n 0, 1) := by decide +kernel
theorem jd_Covering_init_13 : decode jm_m_Covering_init.2.1 13 = .ok (.bipush 60, 2) := by decide +kernel
theorem jd_Covering_init_15 : decode jm_m_Covering_init.2.1 15 = .ok (.newarray .int, 2) := by decide +kernel
theorem jd_Covering_init_17 : decode jm_m_Covering_init.2.1 17 = .ok (.putfield 15, 3) := by decide +kernel
theorem jd_Covering_init_20 : decode jm_m_Covering_init.2.1 20 = .ok (.aload_n 0, 1) := by decide +kernel
theorem jd_Covering_init_21 : decode jm_m_Covering_init.2.1 21 = .ok (.bipush 60, 2) := by decide +kernel
theorem jd_Covering_init_23 : decode jm_m_Covering_init.2.1 23 = .ok (.newarray .int, 2) := by decide +kernel
theorem jd_Covering_init_25 : decode jm_m_Covering_init.2.1 25 = .ok (.putfield 18, 3) := by decide +kernel
theorem jd_Covering_init_28 : decode jm_m_Covering_init.2.1 28 = .ok (.aload_n 0, 1) := by decide +kernel
theorem jd_Covering_init_29 : decode jm_m_Covering_init.2.1 29 = .ok (.bipush 60, 2) := by decide +kernel
theorem jd_Covering_init_31 : decode jm_m_Covering_init.2.1 31 = .ok (.newarray .int, 2) := by decide +kernel
theorem jd_Covering_init_33 : decode jm_m_Covering_init.2.1 33 = .ok (.putfield 21, 3) := by decide +kernel
theorem jd_Covering_init_36 : decode jm_m_Covering_init.2.1 36 = .ok (.aload_n 0, 1) := by decide +kernel
theorem jd_Covering_init_37 : decode jm_m_Covering_init.2.1 37 = .ok (.bipush 60, 2) := by decide +kernel
theorem jd_Covering_init_39 : decode jm_m_Covering_init.2.1 39 = .ok (.newarray .int, 2) := by decide +kernel
theorem jd_Covering_init_41 : decode jm_m_Covering_init.2.1 41 = .ok (.putfield 24, 3) := by decide +kernel
theorem jd_Covering_init_44 : decode jm_m_Covering_init.2.1 44 = .ok (.aload_n 0, 1) := by decide +kernel
theorem jd_Covering_init_45 : decode jm_m_Covering_init.2.1 45 = .ok (.bipush 60, 2) := by decide +kernel
theorem jd_Covering_init_47 : decode jm_m_Covering_init.2.1 47 = .ok (.newarray .int, 2) := by decide +kernel
theorem jd_Covering_init_49 : decode jm_m_Covering_init.2.1 49 = .ok (.putfield 27, 3) := by decide +kernel
theorem jd_Covering_init_52 : decode jm_m_Covering_init.2.1 52 = .ok (.aload_n 0, 1) := by decide +kernel
theorem jd_Covering_init_53 : decode jm_m_Covering_init.2.1 53 = .ok (.aload_n 1, 1) := by decide +kernel
theorem jd_Covering_init_54 : decode jm_m_Covering_init.2.1 54 = .ok (.putfield 30, 3) := by decide +kernel
theorem jd_Covering_init_57 : decode jm_m_Covering_init.2.1 57 = .ok (.aload_n 0, 1) := by decide +kernel
theorem jd_Covering_init_58 : decode jm_m_Covering_init.2.1 58 = .ok (.aload_n 2, 1) := by decide +kernel
theorem jd_Covering_init_59 : decode jm_m_Covering_init.2.1 59 = .ok (.putfield 34, 3) := by decide +kernel
theorem jd_Covering_init_62 : decode jm_m_Covering_init.2.1 62 = .ok (.return_, 1) := by decide +kernel
theorem jd_Covering_at_0 : decode jm_m_Covering_at.2.1 0 = .ok (.iconst 2, 1) := by decide +kernel
theorem jd_Covering_at_1 : decode jm_m_Covering_at.2.1 1 = .ok (.iload_n 0, 1) := by decide +kernel
theorem jd_Covering_at_2 : decode jm_m_Covering_at.2.1 2 = .ok (.imul, 1) := by decide +kernel
theorem jd_Covering_at_3 : decode jm_m_Covering_at.2.1 3 = .ok (.iload_n 1, 1) := by decide +kernel
theorem jd_Covering_at_4 : decode jm_m_Covering_at.2.1 4 = .ok (.iadd, 1) := by decide +kernel
theorem jd_Covering_at_5 : decode jm_m_Covering_at.2.1 5 = .ok (.ireturn, 1) := by decide +kernel
theorem jd_Covering_refresh_0 : decode jm_m_Covering_refresh.2.1 0 = .ok (.aload_n 0, 1) := by decide +kernel
theorem jd_Covering_refresh_1 : decode jm_m_Covering_refresh.2.1 1 = .ok (.getfield 38, 3) := by decide +kernel
theorem jd_Covering_refresh_4 : decode jm_m_Covering_refresh.2.1 4 = .ok (.ifCond .ne 4, 3) := by decide +kernel
theorem jd_Covering_refresh_7 : decode jm_m_Covering_refresh.2.1 7 = .ok (.return_, 1) := by decide +kernel
theorem jd_Covering_refresh_8 : decode jm_m_Covering_refresh.2.1 8 = .ok (.aload_n 0, 1) := by decide +kernel
theorem jd_Covering_refresh_9 : decode jm_m_Covering_refresh.2.1 9 = .ok (.iconst 0, 1) := by decide +kernel
theorem jd_Covering_refresh_10 : decode jm_m_Covering_refresh.2.1 10 = .ok (.putfield 38, 3) := by decide +kernel
theorem jd_Covering_refresh_13 : decode jm_m_Covering_refresh.2.1 13 = .ok (.aload_n 0, 1) := by decide +kernel
theorem jd_Covering_refresh_14 : decode jm_m_Covering_refresh.2.1 14 = .ok (.getfield 30, 3) := by decide +kernel
theorem jd_Covering_refresh_17 : decode jm_m_Covering_refresh.2.1 17 = .ok (.getfield 42, 3) := by decide +kernel
theorem jd_Covering_refresh_20 : decode jm_m_Covering_refresh.2.1 20 = .ok (.iconst 1, 1) := by decide +kernel
theorem jd_Covering_refresh_21 : decode jm_m_Covering_refresh.2.1 21 = .ok (.isub, 1) := by decide +kernel
theorem jd_Covering_refresh_22 : decode jm_m_Covering_refresh.2.1 22 = .ok (.istore_n 1, 1) := by decide +kernel
theorem jd_Covering_refresh_23 : decode jm_m_Covering_refresh.2.1 23 = .ok (.iload_n 1, 1) := by decide +kernel
theorem jd_Covering_refresh_24 : decode jm_m_Covering_refresh.2.1 24 = .ok (.ifCond .lt 19, 3) := by decide +kernel
theorem jd_Covering_refresh_27 : decode jm_m_Covering_refresh.2.1 27 = .ok (.aload_n 0, 1) := by decide +kernel
theorem jd_Covering_refresh_28 : decode jm_m_Covering_refresh.2.1 28 = .ok (.iload_n 1, 1) := by decide +kernel
theorem jd_Covering_refresh_29 : decode jm_m_Covering_refresh.2.1 29 = .ok (.invokevirtual 46, 3) := by decide +kernel
theorem jd_Covering_refresh_32 : decode jm_m_Covering_refresh.2.1 32 = .ok (.aload_n 0, 1) := by decide +kernel
theorem jd_Covering_refresh_33 : decode jm_m_Covering_refresh.2.1 33 = .ok (.iload_n 1, 1) := by decide +kernel
theorem jd_Covering_refresh_34 : decode jm_m_Covering_refresh.2.1 34 = .ok (.invokevirtual 50, 3) := by decide +kernel
theorem jd_Covering_refresh_37 : decode jm_m_Covering_refresh.2.1 37 = .ok (.iinc 1 (-1), 3) := by decide +kernel
theorem jd_Covering_refresh_40 : decode jm_m_Covering_refresh.2.1 40 = .ok (.goto (-17), 3) := by decide +kernel
theorem jd_Covering_refresh_43 : decode jm_m_Covering_refresh.2.1 43 = .ok (.aload_n 0, 1) := by decide +kernel
theorem jd_Covering_refresh_44 : decode jm_m_Covering_refresh.2.1 44 = .ok (.iconst 0, 1) := by decide +kernel
theorem jd_Covering_refresh_45 : decode jm_m_Covering_refresh.2.1 45 = .ok (.putfield 53, 3) := by decide +kernel
theorem jd_Covering_refresh_48 : decode jm_m_Covering_refresh.2.1 48 = .ok (.aload_n 0, 1) := by decide +kernel
theorem jd_Covering_refresh_49 : decode jm_m_Covering_refresh.2.1 49 = .ok (.getfield 30, 3) := by decide +kernel
theorem jd_Covering_refresh_52 : decode jm_m_Covering_refresh.2.1 52 = .ok (.getfield 42, 3) := by decide +kernel
theorem jd_Covering_refresh_55 : decode jm_m_Covering_refresh.2.1 55 = .ok (.ifCond .le 10, 3) := by decide +kernel
theorem jd_Covering_refresh_58 : decode jm_m_Covering_refresh.2.1 58 = .ok (.aload_n 0, 1) := by decide +kernel
theorem jd_Covering_refresh_59 : decode jm_m_Covering_refresh.2.1 59 = .ok (.iconst 0, 1) := by decide +kernel
theorem jd_Covering_refresh_60 : decode jm_m_Covering_refresh.2.1 60 = .ok (.iconst 0, 1) := by decide +kernel
theorem jd_Covering_refresh_61 : decode jm_m_Covering_refresh.2.1 61 = .ok (.iconst 0, 1) := by decide +kernel
theorem jd_Covering_refresh_62 : decode jm_m_Covering_refresh.2.1 62 = .ok (.invokevirtual 56, 3) := by decide +kernel
theorem jd_Covering_refresh_65 : decode jm_m_Covering_refresh.2.1 65 = .ok (.return_, 1) := by decide +kernel
theorem jd_Covering_coverPlainly_0 : decode jm_m_Covering_coverPlainly.2.1 0 = .ok (.iconst 0, 1) := by decide +kernel
theorem jd_Covering_coverPlainly_1 : decode jm_m_Covering_coverPlainly.2.1 1 = .ok (.istore_n 2, 1) := by decide +kernel
theorem jd_Covering_coverPlainly_2 : decode jm_m_Covering_coverPlainly.2.1 2 = .ok (.iload_n 2, 1) := by decide +kernel
theorem jd_Covering_coverPlainly_3 : decode jm_m_Covering_coverPlainly.2.1 3 = .ok (.iconst 2, 1) := by decide +kernel
theorem jd_Covering_coverPlainly_4 : decode jm_m_Covering_coverPlainly.2.1 4 = .ok (.if_icmp .ge 32, 3) := by decide +kernel
theorem jd_Covering_coverPlainly_7 : decode jm_m_Covering_coverPlainly.2.1 7 = .ok (.aload_n 0, 1) := by decide +kernel
theorem jd_Covering_coverPlainly_8 : decode jm_m_Covering_coverPlainly.2.1 8 = .ok (.getfield 11, 3) := by decide +kernel
theorem jd_Covering_coverPlainly_11 : decode jm_m_Covering_coverPlainly.2.1 11 = .ok (.iload_n 1, 1) := by decide +kernel
theorem jd_Covering_coverPlainly_12 : decode jm_m_Covering_coverPlainly.2.1 12 = .ok (.iload_n 2, 1) := by decide +kernel
theorem jd_Covering_coverPlainly_13 : decode jm_m_Covering_coverPlainly.2.1 13 = .ok (.invokestatic 60, 3) := by decide +kernel
theorem jd_Covering_coverPlainly_16 : decode jm_m_Covering_coverPlainly.2.1 16 = .ok (.ldc 64, 2) := by decide +kernel
theorem jd_Covering_coverPlainly_18 : decode jm_m_Covering_coverPlainly.2.1 18 = .ok (.iastore, 1) := by decide +kernel
theorem jd_Covering_coverPlainly_19 : decode jm_m_Covering_coverPlainly.2.1 19 = .ok (.aload_n 0, 1) := by decide +kernel
theorem jd_Covering_coverPlainly_20 : decode jm_m_Covering_coverPlainly.2.1 20 = .ok (.getfield 15, 3) := by decide +kernel
theorem jd_Covering_coverPlainly_23 : decode jm_m_Covering_coverPlainly.2.1 23 = .ok (.iload_n 1, 1) := by decide +kernel
theorem jd_Covering_coverPlainly_24 : decode jm_m_Covering_coverPlainly.2.1 24 = .ok (.iload_n 2, 1) := by decide +kernel
theorem jd_Covering_coverPlainly_25 : decode jm_m_Covering_coverPlainly.2.1 25 = .ok (.invokestatic 60, 3) := by decide +kernel
theorem jd_Covering_coverPlainly_28 : decode jm_m_Covering_coverPlainly.2.1 28 = .ok (.iconst (-1), 1) := by decide +kernel
theorem jd_Covering_coverPlainly_29 : decode jm_m_Covering_coverPlainly.2.1 29 = .ok (.iastore, 1) := by decide +kernel
theorem jd_Covering_coverPlainly_30 : decode jm_m_Covering_coverPlainly.2.1 30 = .ok (.iinc 2 1, 3) := by decide +kernel
theorem jd_Covering_coverPlainly_33 : decode jm_m_Covering_coverPlainly.2.1 33 = .ok (.goto (-31), 3) := by decide +kernel
theorem jd_Covering_coverPlainly_36 : decode jm_m_Covering_coverPlainly.2.1 36 = .ok (.iconst 0, 1) := by decide +kernel
theorem jd_Covering_coverPlainly_37 : decode jm_m_Covering_coverPlainly.2.1 37 = .ok (.istore_n 2, 1) := by decide +kernel
theorem jd_Covering_coverPlainly_38 : decode jm_m_Covering_coverPlainly.2.1 38 = .ok (.iload_n 2, 1) := by decide +kernel
theorem jd_Covering_coverPlainly_39 : decode jm_m_Covering_coverPlainly.2.1 39 = .ok (.aload_n 0, 1) := by decide +kernel
theorem jd_Covering_coverPlainly_40 : decode jm_m_Covering_coverPlainly.2.1 40 = .ok (.getfield 34, 3) := by decide +kernel
theorem jd_Covering_coverPlainly_43 : decode jm_m_Covering_coverPlainly.2.1 43 = .ok (.getfield 65, 3) := by decide +kernel
theorem jd_Covering_coverPlainly_46 : decode jm_m_Covering_coverPlainly.2.1 46 = .ok (.if_icmp .ge 74, 3) := by decide +kernel
theorem jd_Covering_coverPlainly_49 : decode jm_m_Covering_coverPlainly.2.1 49 = .ok (.aload_n 0, 1) := by decide +kernel
theorem jd_Covering_coverPlainly_50 : decode jm_m_Covering_coverPlainly.2.1 50 = .ok (.getfield 34, 3) := by decide +kernel
theorem jd_Covering_coverPlainly_53 : decode jm_m_Covering_coverPlainly.2.1 53 = .ok (.iload_n 2, 1) := by decide +kernel
theorem jd_Covering_coverPlainly_54 : decode jm_m_Covering_coverPlainly.2.1 54 = .ok (.invokevirtual 68, 3) := by decide +kernel
theorem jd_Covering_coverPlainly_57 : decode jm_m_Covering_coverPlainly.2.1 57 = .ok (.ifCond .ge 12, 3) := by decide +kernel
theorem jd_Covering_coverPlainly_60 : decode jm_m_Covering_coverPlainly.2.1 60 = .ok (.aload_n 0, 1) := by decide +kernel
theorem jd_Covering_coverPlainly_61 : decode jm_m_Covering_coverPlainly.2.1 61 = .ok (.iload_n 2, 1) := by decide +kernel
theorem jd_Covering_coverPlainly_62 : decode jm_m_Covering_coverPlainly.2.1 62 = .ok (.iload_n 1, 1) := by decide +kernel
theorem jd_Covering_coverPlainly_63 : decode jm_m_Covering_coverPlainly.2.1 63 = .ok (.invokevirtual 72, 3) := by decide +kernel
theorem jd_Covering_coverPlainly_66 : decode jm_m_Covering_coverPlainly.2.1 66 = .ok (.goto 5, 3) := by decide +kernel
theorem jd_Covering_coverPlainly_69 : decode jm_m_Covering_coverPlainly.2.1 69 = .ok (.ldc 64, 2) := by decide +kernel
theorem jd_Covering_coverPlainly_71 : decode jm_m_Covering_coverPlainly.2.1 71 = .ok (.istore_n 3, 1) := by decide +kernel
theorem jd_Covering_coverPlainly_72 : decode jm_m_Covering_coverPlainly.2.1 72 = .ok (.iload_n 1, 1) := by decide +kernel
theorem jd_Covering_coverPlainly_73 : decode jm_m_Covering_coverPlainly.2.1 73 = .ok (.aload_n 0, 1) := by decide +kernel
theorem jd_Covering_coverPlainly_74 : decode jm_m_Covering_coverPlainly.2.1 74 = .ok (.getfield 34, 3) := by decide +kernel
theorem jd_Covering_coverPlainly_77 : decode jm_m_Covering_coverPlainly.2.1 77 = .ok (.getfield 75, 3) := by decide +kernel
theorem jd_Covering_coverPlainly_80 : decode jm_m_Covering_coverPlainly.2.1 80 = .ok (.iload_n 2, 1) := by decide +kernel
theorem jd_Covering_coverPlainly_81 : decode jm_m_Covering_coverPlainly.2.1 81 = .ok (.iaload, 1) := by decide +kernel
theorem jd_Covering_coverPlainly_82 : decode jm_m_Covering_coverPlainly.2.1 82 = .ok (.invokestatic 60, 3) := by decide +kernel
theorem jd_Covering_coverPlainly_85 : decode jm_m_Covering_coverPlainly.2.1 85 = .ok (.istore 4, 2) := by decide +kernel
theorem jd_Covering_coverPlainly_87 : decode jm_m_Covering_coverPlainly.2.1 87 = .ok (.iload_n 3, 1) := by decide +kernel
theorem jd_Covering_coverPlainly_88 : decode jm_m_Covering_coverPlainly.2.1 88 = .ok (.aload_n 0, 1) := by decide +kernel
theorem jd_Covering_coverPlainly_89 : decode jm_m_Covering_coverPlainly.2.1 89 = .ok (.getfield 11, 3) := by decide +kernel
theorem jd_Covering_coverPlainly_92 : decode jm_m_Covering_coverPlainly.2.1 92 = .ok (.iload 4, 2) := by decide +kernel
theorem jd_Covering_coverPlainly_94 : decode jm_m_Covering_coverPlainly.2.1 94 = .ok (.iaload, 1) := by decide +kernel
theorem jd_Covering_coverPlainly_95 : decode jm_m_Covering_coverPlainly.2.1 95 = .ok (.if_icmp .ge 19, 3) := by decide +kernel
theorem jd_Covering_coverPlainly_98 : decode jm_m_Covering_coverPlainly.2.1 98 = .ok (.aload_n 0, 1) := by decide +kernel
theorem jd_Covering_coverPlainly_99 : decode jm_m_Covering_coverPlainly.2.1 99 = .ok (.getfield 11, 3) := by decide +kernel
theorem jd_Covering_coverPlainly_102 : decode jm_m_Covering_coverPlainly.2.1 102 = .ok (.iload 4, 2) := by decide +kernel
theorem jd_Covering_coverPlainly_104 : decode jm_m_Covering_coverPlainly.2.1 104 = .ok (.iload_n 3, 1) := by decide +kernel
theorem jd_Covering_coverPlainly_105 : decode jm_m_Covering_coverPlainly.2.1 105 = .ok (.iastore, 1) := by decide +kernel
theorem jd_Covering_coverPlainly_106 : decode jm_m_Covering_coverPlainly.2.1 106 = .ok (.aload_n 0, 1) := by decide +kernel
theorem jd_Covering_coverPlainly_107 : decode jm_m_Covering_coverPlainly.2.1 107 = .ok (.getfield 15, 3) := by decide +kernel
theorem jd_Covering_coverPlainly_110 : decode jm_m_Covering_coverPlainly.2.1 110 = .ok (.iload 4, 2) := by decide +kernel
theorem jd_Covering_coverPlainly_112 : decode jm_m_Covering_coverPlainly.2.1 112 = .ok (.iload_n 2, 1) := by decide +kernel
theorem jd_Covering_coverPlainly_113 : decode jm_m_Covering_coverPlainly.2.1 113 = .ok (.iastore, 1) := by decide +kernel
theorem jd_Covering_coverPlainly_114 : decode jm_m_Covering_coverPlainly.2.1 114 = .ok (.iinc 2 1, 3) := by decide +kernel
theorem jd_Covering_coverPlainly_117 : decode jm_m_Covering_coverPlainly.2.1 117 = .ok (.goto (-79), 3) := by decide +kernel
theorem jd_Covering_coverPlainly_120 : decode jm_m_Covering_coverPlainly.2.1 120 = .ok (.return_, 1) := by decide +kernel
theorem jd_Covering_coverWithChains_0 : decode jm_m_Covering_coverWithChains.2.1 0 = .ok (.iconst 0, 1) := by decide +kernel
theorem jd_Covering_coverWithChains_1 : decode jm_m_Covering_coverWithChains.2.1 1 = .ok (.istore_n 2, 1) := by decide +kernel
theorem jd_Covering_coverWithChains_2 : decode jm_m_Covering_coverWithChains.2.1 2 = .ok (.iload_n 2, 1) := by decide +kernel
theorem jd_Covering_coverWithChains_3 : decode jm_m_Covering_coverWithChains.2.1 3 = .ok (.iconst 2, 1) := by decide +kernel
theorem jd_Covering_coverWithChains_4 : decode jm_m_Covering_coverWithChains.2.1 4 = .ok (.if_icmp .ge 49, 3) := by decide +kernel
theorem jd_Covering_coverWithChains_7 : decode jm_m_Covering_coverWithChains.2.1 7 = .ok (.aload_n 0, 1) := by decide +kernel
theorem jd_Covering_coverWithChains_8 : decode jm_m_Covering_coverWithChains.2.1 8 = .ok (.getfield 18, 3) := by decide +kernel
theorem jd_Covering_coverWithChains_11 : decode jm_m_Covering_coverWithChains.2.1 11 = .ok (.iload_n 1, 1) := by decide +kernel
theorem jd_Covering_coverWithChains_12 : decode jm_m_Covering_coverWithChains.2.1 12 = .ok (.iload_n 2, 1) := by decide +kernel
theorem jd_Covering_coverWithChains_13 : decode jm_m_Covering_coverWithChains.2.1 13 = .ok (.invokestatic 60, 3) := by decide +kernel
theorem jd_Covering_coverWithChains_16 : decode jm_m_Covering_coverWithChains.2.1 16 = .ok (.aload_n 0, 1) := by decide +kernel
theorem jd_Covering_coverWithChains_17 : decode jm_m_Covering_coverWithChains.2.1 17 = .ok (.getfield 11, 3) := by decide +kernel
theorem jd_Covering_coverWithChains_20 : decode jm_m_Covering_coverWithChains.2.1 20 = .ok (.iload_n 1, 1) := by decide +kernel
theorem jd_Covering_coverWithChains_21 : decode jm_m_Covering_coverWithChains.2.1 21 = .ok (.iload_n 2, 1) := by decide +kernel
theorem jd_Covering_coverWithChains_22 : decode jm_m_Covering_coverWithChains.2.1 22 = .ok (.invokestatic 60, 3) := by decide +kernel
theorem jd_Covering_coverWithChains_25 : decode jm_m_Covering_coverWithChains.2.1 25 = .ok (.iaload, 1) := by decide +kernel
theorem jd_Covering_coverWithChains_26 : decode jm_m_Covering_coverWithChains.2.1 26 = .ok (.iastore, 1) := by decide +kernel
theorem jd_Covering_coverWithChains_27 : decode jm_m_Covering_coverWithChains.2.1 27 = .ok (.aload_n 0, 1) := by decide +kernel
theorem jd_Covering_coverWithChains_28 : decode jm_m_Covering_coverWithChains.2.1 28 = .ok (.getfield 21, 3) := by decide +kernel
theorem jd_Covering_coverWithChains_31 : decode jm_m_Covering_coverWithChains.2.1 31 = .ok (.iload_n 1, 1) := by decide +kernel
theorem jd_Covering_coverWithChains_32 : decode jm_m_Covering_coverWithChains.2.1 32 = .ok (.iload_n 2, 1) := by decide +kernel
theorem jd_Covering_coverWithChains_33 : decode jm_m_Covering_coverWithChains.2.1 33 = .ok (.invokestatic 60, 3) := by decide +kernel
theorem jd_Covering_coverWithChains_36 : decode jm_m_Covering_coverWithChains.2.1 36 = .ok (.aload_n 0, 1) := by decide +kernel
theorem jd_Covering_coverWithChains_37 : decode jm_m_Covering_coverWithChains.2.1 37 = .ok (.getfield 15, 3) := by decide +kernel
theorem jd_Covering_coverWithChains_40 : decode jm_m_Covering_coverWithChains.2.1 40 = .ok (.iload_n 1, 1) := by decide +kernel
theorem jd_Covering_coverWithChains_41 : decode jm_m_Covering_coverWithChains.2.1 41 = .ok (.iload_n 2, 1) := by decide +kernel
theorem jd_Covering_coverWithChains_42 : decode jm_m_Covering_coverWithChains.2.1 42 = .ok (.invokestatic 60, 3) := by decide +kernel
theorem jd_Covering_coverWithChains_45 : decode jm_m_Covering_coverWithChains.2.1 45 = .ok (.iaload, 1) := by decide +kernel
theorem jd_Covering_coverWithChains_46 : decode jm_m_Covering_coverWithChains.2.1 46 = .ok (.iastore, 1) := by decide +kernel
theorem jd_Covering_coverWithChains_47 : decode jm_m_Covering_coverWithChains.2.1 47 = .ok (.iinc 2 1, 3) := by decide +kernel
theorem jd_Covering_coverWithChains_50 : decode jm_m_Covering_coverWithChains.2.1 50 = .ok (.goto (-48), 3) := by decide +kernel
theorem jd_Covering_coverWithChains_53 : decode jm_m_Covering_coverWithChains.2.1 53 = .ok (.iconst 0, 1) := by decide +kernel
theorem jd_Covering_coverWithChains_54 : decode jm_m_Covering_coverWithChains.2.1 54 = .ok (.istore_n 2, 1) := by decide +kernel
theorem jd_Covering_coverWithChains_55 : decode jm_m_Covering_coverWithChains.2.1 55 = .ok (.iload_n 2, 1) := by decide +kernel
theorem jd_Covering_coverWithChains_56 : decode jm_m_Covering_coverWithChains.2.1 56 = .ok (.aload_n 0, 1) := by decide +kernel
theorem jd_Covering_coverWithChains_57 : decode jm_m_Covering_coverWithChains.2.1 57 = .ok (.getfield 34, 3) := by decide +kernel
theorem jd_Covering_coverWithChains_60 : decode jm_m_Covering_coverWithChains.2.1 60 = .ok (.getfield 65, 3) := by decide +kernel
theorem jd_Covering_coverWithChains_63 : decode jm_m_Covering_coverWithChains.2.1 63 = .ok (.if_icmp .ge 127, 3) := by decide +kernel
theorem jd_Covering_coverWithChains_66 : decode jm_m_Covering_coverWithChains.2.1 66 = .ok (.aload_n 0, 1) := by decide +kernel
theorem jd_Covering_coverWithChains_67 : decode jm_m_Covering_coverWithChains.2.1 67 = .ok (.getfield 34, 3) := by decide +kernel
theorem jd_Covering_coverWithChains_70 : decode jm_m_Covering_coverWithChains.2.1 70 = .ok (.iload_n 2, 1) := by decide +kernel
theorem jd_Covering_coverWithChains_71 : decode jm_m_Covering_coverWithChains.2.1 71 = .ok (.invokevirtual 68, 3) := by decide +kernel
theorem jd_Covering_coverWithChains_74 : decode jm_m_Covering_coverWithChains.2.1 74 = .ok (.istore_n 3, 1) := by decide +kernel
theorem jd_Covering_coverWithChains_75 : decode jm_m_Covering_coverWithChains.2.1 75 = .ok (.iload_n 3, 1) := by decide +kernel
theorem jd_Covering_coverWithChains_76 : decode jm_m_Covering_coverWithChains.2.1 76 = .ok (.ifCond .lt 108, 3) := by decide +kernel
theorem jd_Covering_coverWithChains_79 : decode jm_m_Covering_coverWithChains.2.1 79 = .ok (.aload_n 0, 1) := by decide +kernel
theorem jd_Covering_coverWithChains_80 : decode jm_m_Covering_coverWithChains.2.1 80 = .ok (.getfield 15, 3) := by decide +kernel
theorem jd_Covering_coverWithChains_83 : decode jm_m_Covering_coverWithChains.2.1 83 = .ok (.iload_n 1, 1) := by decide +kernel
theorem jd_Covering_coverWithChains_84 : decode jm_m_Covering_coverWithChains.2.1 84 = .ok (.iload_n 3, 1) := by decide +kernel
theorem jd_Covering_coverWithChains_85 : decode jm_m_Covering_coverWithChains.2.1 85 = .ok (.invokestatic 60, 3) := by decide +kernel
theorem jd_Covering_coverWithChains_88 : decode jm_m_Covering_coverWithChains.2.1 88 = .ok (.iaload, 1) := by decide +kernel
theorem jd_Covering_coverWithChains_89 : decode jm_m_Covering_coverWithChains.2.1 89 = .ok (.ifCond .ge 6, 3) := by decide +kernel
theorem jd_Covering_coverWithChains_92 : decode jm_m_Covering_coverWithChains.2.1 92 = .ok (.goto 92, 3) := by decide +kernel
theorem jd_Covering_coverWithChains_95 : decode jm_m_Covering_coverWithChains.2.1 95 = .ok (.aload_n 0, 1) := by decide +kernel
theorem jd_Covering_coverWithChains_96 : decode jm_m_Covering_coverWithChains.2.1 96 = .ok (.getfield 11, 3) := by decide +kernel
theorem jd_Covering_coverWithChains_99 : decode jm_m_Covering_coverWithChains.2.1 99 = .ok (.iload_n 1, 1) := by decide +kernel
theorem jd_Covering_coverWithChains_100 : decode jm_m_Covering_coverWithChains.2.1 100 = .ok (.iload_n 3, 1) := by decide +kernel
theorem jd_Covering_coverWithChains_101 : decode jm_m_Covering_coverWithChains.2.1 101 = .ok (.invokestatic 60, 3) := by decide +kernel
theorem jd_Covering_coverWithChains_104 : decode jm_m_Covering_coverWithChains.2.1 104 = .ok (.iaload, 1) := by decide +kernel
theorem jd_Covering_coverWithChains_105 : decode jm_m_Covering_coverWithChains.2.1 105 = .ok (.aload_n 0, 1) := by decide +kernel
theorem jd_Covering_coverWithChains_106 : decode jm_m_Covering_coverWithChains.2.1 106 = .ok (.getfield 34, 3) := by decide +kernel
theorem jd_Covering_coverWithChains_109 : decode jm_m_Covering_coverWithChains.2.1 109 = .ok (.getfield 78, 3) := by decide +kernel
theorem jd_Covering_coverWithChains_112 : decode jm_m_Covering_coverWithChains.2.1 112 = .ok (.iload_n 2, 1) := by decide +kernel
theorem jd_Covering_coverWithChains_113 : decode jm_m_Covering_coverWithChains.2.1 113 = .ok (.iaload, 1) := by decide +kernel
theorem jd_Covering_coverWithChains_114 : decode jm_m_Covering_coverWithChains.2.1 114 = .ok (.iadd, 1) := by decide +kernel
theorem jd_Covering_coverWithChains_115 : decode jm_m_Covering_coverWithChains.2.1 115 = .ok (.istore 4, 2) := by decide +kernel
theorem jd_Covering_coverWithChains_117 : decode jm_m_Covering_coverWithChains.2.1 117 = .ok (.iload_n 1, 1) := by decide +kernel
theorem jd_Covering_coverWithChains_118 : decode jm_m_Covering_coverWithChains.2.1 118 = .ok (.aload_n 0, 1) := by decide +kernel
theorem jd_Covering_coverWithChains_119 : decode jm_m_Covering_coverWithChains.2.1 119 = .ok (.getfield 34, 3) := by decide +kernel
theorem jd_Covering_coverWithChains_122 : decode jm_m_Covering_coverWithChains.2.1 122 = .ok (.getfield 75, 3) := by decide +kernel
theorem jd_Covering_coverWithChains_125 : decode jm_m_Covering_coverWithChains.2.1 125 = .ok (.iload_n 2, 1) := by decide +kernel
theorem jd_Covering_coverWithChains_126 : decode jm_m_Covering_coverWithChains.2.1 126 = .ok (.iaload, 1) := by decide +kernel
theorem jd_Covering_coverWithChains_127 : decode jm_m_Covering_coverWithChains.2.1 127 = .ok (.invokestatic 60, 3) := by decide +kernel
theorem jd_Covering_coverWithChains_130 : decode jm_m_Covering_coverWithChains.2.1 130 = .ok (.istore 5, 2) := by decide +kernel
theorem jd_Covering_coverWithChains_132 : decode jm_m_Covering_coverWithChains.2.1 132 = .ok (.iload 4, 2) := by decide +kernel
theorem jd_Covering_coverWithChains_134 : decode jm_m_Covering_coverWithChains.2.1 134 = .ok (.aload_n 0, 1) := by decide +kernel
theorem jd_Covering_coverWithChains_135 : decode jm_m_Covering_coverWithChains.2.1 135 = .ok (.getfield 18, 3) := by decide +kernel
theorem jd_Covering_coverWithChains_138 : decode jm_m_Covering_coverWithChains.2.1 138 = .ok (.iload 5, 2) := by decide +kernel
theorem jd_Covering_coverWithChains_140 : decode jm_m_Covering_coverWithChains.2.1 140 = .ok (.iaload, 1) := by decide +kernel
theorem jd_Covering_coverWithChains_141 : decode jm_m_Covering_coverWithChains.2.1 141 = .ok (.if_icmp .lt 26, 3) := by decide +kernel
theorem jd_Covering_coverWithChains_144 : decode jm_m_Covering_coverWithChains.2.1 144 = .ok (.iload 4, 2) := by decide +kernel
theorem jd_Covering_coverWithChains_146 : decode jm_m_Covering_coverWithChains.2.1 146 = .ok (.aload_n 0, 1) := by decide +kernel
theorem jd_Covering_coverWithChains_147 : decode jm_m_Covering_coverWithChains.2.1 147 = .ok (.getfield 18, 3) := by decide +kernel
theorem jd_Covering_coverWithChains_150 : decode jm_m_Covering_coverWithChains.2.1 150 = .ok (.iload 5, 2) := by decide +kernel
theorem jd_Covering_coverWithChains_152 : decode jm_m_Covering_coverWithChains.2.1 152 = .ok (.iaload, 1) := by decide +kernel
theorem jd_Covering_coverWithChains_153 : decode jm_m_Covering_coverWithChains.2.1 153 = .ok (.if_icmp .ne 31, 3) := by decide +kernel
theorem jd_Covering_coverWithChains_156 : decode jm_m_Covering_coverWithChains.2.1 156 = .ok (.iload_n 2, 1) := by decide +kernel
theorem jd_Covering_coverWithChains_157 : decode jm_m_Covering_coverWithChains.2.1 157 = .ok (.aload_n 0, 1) := by decide +kernel
theorem jd_Covering_coverWithChains_158 : decode jm_m_Covering_coverWithChains.2.1 158 = .ok (.getfield 21, 3) := by decide +kernel
theorem jd_Covering_coverWithChains_161 : decode jm_m_Covering_coverWithChains.2.1 161 = .ok (.iload 5, 2) := by decide +kernel
theorem jd_Covering_coverWithChains_163 : decode jm_m_Covering_coverWithChains.2.1 163 = .ok (.iaload, 1) := by decide +kernel
theorem jd_Covering_coverWithChains_164 : decode jm_m_Covering_coverWithChains.2.1 164 = .ok (.if_icmp .ge 20, 3) := by decide +kernel
theorem jd_Covering_coverWithChains_167 : decode jm_m_Covering_coverWithChains.2.1 167 = .ok (.aload_n 0, 1) := by decide +kernel
theorem jd_Covering_coverWithChains_168 : decode jm_m_Covering_coverWithChains.2.1 168 = .ok (.getfield 18, 3) := by decide +kernel
theorem jd_Covering_coverWithChains_171 : decode jm_m_Covering_coverWithChains.2.1 171 = .ok (.iload 5, 2) := by decide +kernel
theorem jd_Covering_coverWithChains_173 : decode jm_m_Covering_coverWithChains.2.1 173 = .ok (.iload 4, 2) := by decide +kernel
theorem jd_Covering_coverWithChains_175 : decode jm_m_Covering_coverWithChains.2.1 175 = .ok (.iastore, 1) := by decide +kernel
theorem jd_Covering_coverWithChains_176 : decode jm_m_Covering_coverWithChains.2.1 176 = .ok (.aload_n 0, 1) := by decide +kernel
theorem jd_Covering_coverWithChains_177 : decode jm_m_Covering_coverWithChains.2.1 177 = .ok (.getfield 21, 3) := by decide +kernel
theorem jd_Covering_coverWithChains_180 : decode jm_m_Covering_coverWithChains.2.1 180 = .ok (.iload 5, 2) := by decide +kernel
theorem jd_Covering_coverWithChains_182 : decode jm_m_Covering_coverWithChains.2.1 182 = .ok (.iload_n 2, 1) := by decide +kernel
theorem jd_Covering_coverWithChains_183 : decode jm_m_Covering_coverWithChains.2.1 183 = .ok (.iastore, 1) := by decide +kernel
theorem jd_Covering_coverWithChains_184 : decode jm_m_Covering_coverWithChains.2.1 184 = .ok (.iinc 2 1, 3) := by decide +kernel
theorem jd_Covering_coverWithChains_187 : decode jm_m_Covering_coverWithChains.2.1 187 = .ok (.goto (-132), 3) := by decide +kernel
theorem jd_Covering_coverWithChains_190 : decode jm_m_Covering_coverWithChains.2.1 190 = .ok (.return_, 1) := by decide +kernel
theorem jd_Covering_costOf_0 : decode jm_m_Covering_costOf.2.1 0 = .ok (.aload_n 0, 1) := by decide +kernel
theorem jd_Covering_costOf_1 : decode jm_m_Covering_costOf.2.1 1 = .ok (.getfield 34, 3) := by decide +kernel
theorem jd_Covering_costOf_4 : decode jm_m_Covering_costOf.2.1 4 = .ok (.getfield 78, 3) := by decide +kernel
theorem jd_Covering_costOf_7 : decode jm_m_Covering_costOf.2.1 7 = .ok (.iload_n 1, 1) := by decide +kernel
theorem jd_Covering_costOf_8 : decode jm_m_Covering_costOf.2.1 8 = .ok (.iaload, 1) := by decide +kernel
theorem jd_Covering_costOf_9 : decode jm_m_Covering_costOf.2.1 9 = .ok (.istore_n 3, 1) := by decide +kernel
theorem jd_Covering_costOf_10 : decode jm_m_Covering_costOf.2.1 10 = .ok (.iload_n 2, 1) := by decide +kernel
theorem jd_Covering_costOf_11 : decode jm_m_Covering_costOf.2.1 11 = .ok (.istore 4, 2) := by decide +kernel
theorem jd_Covering_costOf_13 : decode jm_m_Covering_costOf.2.1 13 = .ok (.iconst 0, 1) := by decide +kernel
theorem jd_Covering_costOf_14 : decode jm_m_Covering_costOf.2.1 14 = .ok (.istore 5, 2) := by decide +kernel
theorem jd_Covering_costOf_16 : decode jm_m_Covering_costOf.2.1 16 = .ok (.iload 5, 2) := by decide +kernel
theorem jd_Covering_costOf_18 : decode jm_m_Covering_costOf.2.1 18 = .ok (.aload_n 0, 1) := by decide +kernel
theorem jd_Covering_costOf_19 : decode jm_m_Covering_costOf.2.1 19 = .ok (.getfield 34, 3) := by decide +kernel
theorem jd_Covering_costOf_22 : decode jm_m_Covering_costOf.2.1 22 = .ok (.getfield 81, 3) := by decide +kernel
theorem jd_Covering_costOf_25 : decode jm_m_Covering_costOf.2.1 25 = .ok (.iload_n 1, 1) := by decide +kernel
theorem jd_Covering_costOf_26 : decode jm_m_Covering_costOf.2.1 26 = .ok (.iaload, 1) := by decide +kernel
theorem jd_Covering_costOf_27 : decode jm_m_Covering_costOf.2.1 27 = .ok (.if_icmp .ge 115, 3) := by decide +kernel
theorem jd_Covering_costOf_30 : decode jm_m_Covering_costOf.2.1 30 = .ok (.iload 4, 2) := by decide +kernel
theorem jd_Covering_costOf_32 : decode jm_m_Covering_costOf.2.1 32 = .ok (.aload_n 0, 1) := by decide +kernel
theorem jd_Covering_costOf_33 : decode jm_m_Covering_costOf.2.1 33 = .ok (.getfield 30, 3) := by decide +kernel
theorem jd_Covering_costOf_36 : decode jm_m_Covering_costOf.2.1 36 = .ok (.getfield 42, 3) := by decide +kernel
theorem jd_Covering_costOf_39 : decode jm_m_Covering_costOf.2.1 39 = .ok (.if_icmp .lt 6, 3) := by decide +kernel
theorem jd_Covering_costOf_42 : decode jm_m_Covering_costOf.2.1 42 = .ok (.ldc 64, 2) := by decide +kernel
theorem jd_Covering_costOf_44 : decode jm_m_Covering_costOf.2.1 44 = .ok (.ireturn, 1) := by decide +kernel
theorem jd_Covering_costOf_45 : decode jm_m_Covering_costOf.2.1 45 = .ok (.aload_n 0, 1) := by decide +kernel
theorem jd_Covering_costOf_46 : decode jm_m_Covering_costOf.2.1 46 = .ok (.getfield 34, 3) := by decide +kernel
theorem jd_Covering_costOf_49 : decode jm_m_Covering_costOf.2.1 49 = .ok (.getfield 84, 3) := by decide +kernel
theorem jd_Covering_costOf_52 : decode jm_m_Covering_costOf.2.1 52 = .ok (.iload_n 1, 1) := by decide +kernel
theorem jd_Covering_costOf_53 : decode jm_m_Covering_costOf.2.1 53 = .ok (.aaload, 1) := by decide +kernel
theorem jd_Covering_costOf_54 : decode jm_m_Covering_costOf.2.1 54 = .ok (.iload 5, 2) := by decide +kernel
theorem jd_Covering_costOf_56 : decode jm_m_Covering_costOf.2.1 56 = .ok (.iaload, 1) := by decide +kernel
theorem jd_Covering_costOf_57 : decode jm_m_Covering_costOf.2.1 57 = .ok (.istore 6, 2) := by decide +kernel
theorem jd_Covering_costOf_59 : decode jm_m_Covering_costOf.2.1 59 = .ok (.iload 6, 2) := by decide +kernel
theorem jd_Covering_costOf_61 : decode jm_m_Covering_costOf.2.1 61 = .ok (.invokestatic 88, 3) := by decide +kernel
theorem jd_Covering_costOf_64 : decode jm_m_Covering_costOf.2.1 64 = .ok (.istore 7, 2) := by decide +kernel
theorem jd_Covering_costOf_66 : decode jm_m_Covering_costOf.2.1 66 = .ok (.iload 7, 2) := by decide +kernel
theorem jd_Covering_costOf_68 : decode jm_m_Covering_costOf.2.1 68 = .ok (.ifCond .lt 41, 3) := by decide +kernel
theorem jd_Covering_costOf_71 : decode jm_m_Covering_costOf.2.1 71 = .ok (.ldc 64, 2) := by decide +kernel
theorem jd_Covering_costOf_73 : decode jm_m_Covering_costOf.2.1 73 = .ok (.iload_n 3, 1) := by decide +kernel
theorem jd_Covering_costOf_74 : decode jm_m_Covering_costOf.2.1 74 = .ok (.aload_n 0, 1) := by decide +kernel
theorem jd_Covering_costOf_75 : decode jm_m_Covering_costOf.2.1 75 = .ok (.getfield 18, 3) := by decide +kernel
theorem jd_Covering_costOf_78 : decode jm_m_Covering_costOf.2.1 78 = .ok (.iload 4, 2) := by decide +kernel
theorem jd_Covering_costOf_80 : decode jm_m_Covering_costOf.2.1 80 = .ok (.iload 7, 2) := by decide +kernel
theorem jd_Covering_costOf_82 : decode jm_m_Covering_costOf.2.1 82 = .ok (.invokestatic 60, 3) := by decide +kernel
theorem jd_Covering_costOf_85 : decode jm_m_Covering_costOf.2.1 85 = .ok (.iaload, 1) := by decide +kernel
theorem jd_Covering_costOf_86 : decode jm_m_Covering_costOf.2.1 86 = .ok (.iadd, 1) := by decide +kernel
theorem jd_Covering_costOf_87 : decode jm_m_Covering_costOf.2.1 87 = .ok (.invokestatic 91, 3) := by decide +kernel
theorem jd_Covering_costOf_90 : decode jm_m_Covering_costOf.2.1 90 = .ok (.istore_n 3, 1) := by decide +kernel
theorem jd_Covering_costOf_91 : decode jm_m_Covering_costOf.2.1 91 = .ok (.iload 4, 2) := by decide +kernel
theorem jd_Covering_costOf_93 : decode jm_m_Covering_costOf.2.1 93 = .ok (.aload_n 0, 1) := by decide +kernel
theorem jd_Covering_costOf_94 : decode jm_m_Covering_costOf.2.1 94 = .ok (.getfield 30, 3) := by decide +kernel
theorem jd_Covering_costOf_97 : decode jm_m_Covering_costOf.2.1 97 = .ok (.getfield 96, 3) := by decide +kernel
theorem jd_Covering_costOf_100 : decode jm_m_Covering_costOf.2.1 100 = .ok (.iload 4, 2) := by decide +kernel
theorem jd_Covering_costOf_102 : decode jm_m_Covering_costOf.2.1 102 = .ok (.iaload, 1) := by decide +kernel
theorem jd_Covering_costOf_103 : decode jm_m_Covering_costOf.2.1 103 = .ok (.iadd, 1) := by decide +kernel
theorem jd_Covering_costOf_104 : decode jm_m_Covering_costOf.2.1 104 = .ok (.istore 4, 2) := by decide +kernel
theorem jd_Covering_costOf_106 : decode jm_m_Covering_costOf.2.1 106 = .ok (.goto 30, 3) := by decide +kernel
theorem jd_Covering_costOf_109 : decode jm_m_Covering_costOf.2.1 109 = .ok (.iload 6, 2) := by decide +kernel
theorem jd_Covering_costOf_111 : decode jm_m_Covering_costOf.2.1 111 = .ok (.aload_n 0, 1) := by decide +kernel
theorem jd_Covering_costOf_112 : decode jm_m_Covering_costOf.2.1 112 = .ok (.getfield 30, 3) := by decide +kernel
theorem jd_Covering_costOf_115 : decode jm_m_Covering_costOf.2.1 115 = .ok (.getfield 99, 3) := by decide +kernel
theorem jd_Covering_costOf_118 : decode jm_m_Covering_costOf.2.1 118 = .ok (.iload 4, 2) := by decide +kernel
theorem jd_Covering_costOf_120 : decode jm_m_Covering_costOf.2.1 120 = .ok (.iaload, 1) := by decide +kernel
theorem jd_Covering_costOf_121 : decode jm_m_Covering_costOf.2.1 121 = .ok (.invokestatic 102, 3) := by decide +kernel
theorem jd_Covering_costOf_124 : decode jm_m_Covering_costOf.2.1 124 = .ok (.ifCond .eq 9, 3) := by decide +kernel
theorem jd_Covering_costOf_127 : decode jm_m_Covering_costOf.2.1 127 = .ok (.iinc 4 1, 3) := by decide +kernel
theorem jd_Covering_costOf_130 : decode jm_m_Covering_costOf.2.1 130 = .ok (.goto 6, 3) := by decide +kernel
theorem jd_Covering_costOf_133 : decode jm_m_Covering_costOf.2.1 133 = .ok (.ldc 64, 2) := by decide +kernel
theorem jd_Covering_costOf_135 : decode jm_m_Covering_costOf.2.1 135 = .ok (.ireturn, 1) := by decide +kernel
theorem jd_Covering_costOf_136 : decode jm_m_Covering_costOf.2.1 136 = .ok (.iinc 5 1, 3) := by decide +kernel
theorem jd_Covering_costOf_139 : decode jm_m_Covering_costOf.2.1 139 = .ok (.goto (-123), 3) := by decide +kernel
theorem jd_Covering_costOf_142 : decode jm_m_Covering_costOf.2.1 142 = .ok (.iload_n 3, 1) := by decide +kernel
theorem jd_Covering_costOf_143 : decode jm_m_Covering_costOf.2.1 143 = .ok (.ireturn, 1) := by decide +kernel
theorem jd_Covering_tell_0 : decode jm_m_Covering_tell.2.1 0 = .ok (.aload_n 0, 1) := by decide +kernel
theorem jd_Covering_tell_1 : decode jm_m_Covering_tell.2.1 1 = .ok (.getfield 21, 3) := by decide +kernel
theorem jd_Covering_tell_4 : decode jm_m_Covering_tell.2.1 4 = .ok (.iload_n 1, 1) := by decide +kernel
theorem jd_Covering_tell_5 : decode jm_m_Covering_tell.2.1 5 = .ok (.iload_n 2, 1) := by decide +kernel
theorem jd_Covering_tell_6 : decode jm_m_Covering_tell.2.1 6 = .ok (.invokestatic 60, 3) := by decide +kernel
theorem jd_Covering_tell_9 : decode jm_m_Covering_tell.2.1 9 = .ok (.iaload, 1) := by decide +kernel
theorem jd_Covering_tell_10 : decode jm_m_Covering_tell.2.1 10 = .ok (.istore 4, 2) := by decide +kernel
theorem jd_Covering_tell_12 : decode jm_m_Covering_tell.2.1 12 = .ok (.iload 4, 2) := by decide +kernel
theorem jd_Covering_tell_14 : decode jm_m_Covering_tell.2.1 14 = .ok (.ifCond .ge 4, 3) := by decide +kernel
theorem jd_Covering_tell_17 : decode jm_m_Covering_tell.2.1 17 = .ok (.return_, 1) := by decide +kernel
theorem jd_Covering_tell_18 : decode jm_m_Covering_tell.2.1 18 = .ok (.aload_n 0, 1) := by decide +kernel
theorem jd_Covering_tell_19 : decode jm_m_Covering_tell.2.1 19 = .ok (.getfield 34, 3) := by decide +kernel
theorem jd_Covering_tell_22 : decode jm_m_Covering_tell.2.1 22 = .ok (.iload 4, 2) := by decide +kernel
theorem jd_Covering_tell_24 : decode jm_m_Covering_tell.2.1 24 = .ok (.invokevirtual 68, 3) := by decide +kernel
theorem jd_Covering_tell_27 : decode jm_m_Covering_tell.2.1 27 = .ok (.istore 5, 2) := by decide +kernel
theorem jd_Covering_tell_29 : decode jm_m_Covering_tell.2.1 29 = .ok (.iload 5, 2) := by decide +kernel
theorem jd_Covering_tell_31 : decode jm_m_Covering_tell.2.1 31 = .ok (.ifCond .ge 13, 3) := by decide +kernel
theorem jd_Covering_tell_34 : decode jm_m_Covering_tell.2.1 34 = .ok (.aload_n 0, 1) := by decide +kernel
theorem jd_Covering_tell_35 : decode jm_m_Covering_tell.2.1 35 = .ok (.iload_n 1, 1) := by decide +kernel
theorem jd_Covering_tell_36 : decode jm_m_Covering_tell.2.1 36 = .ok (.iload_n 2, 1) := by decide +kernel
theorem jd_Covering_tell_37 : decode jm_m_Covering_tell.2.1 37 = .ok (.iload_n 3, 1) := by decide +kernel
theorem jd_Covering_tell_38 : decode jm_m_Covering_tell.2.1 38 = .ok (.invokevirtual 106, 3) := by decide +kernel
theorem jd_Covering_tell_41 : decode jm_m_Covering_tell.2.1 41 = .ok (.goto 18, 3) := by decide +kernel
theorem jd_Covering_tell_44 : decode jm_m_Covering_tell.2.1 44 = .ok (.aload_n 0, 1) := by decide +kernel
theorem jd_Covering_tell_45 : decode jm_m_Covering_tell.2.1 45 = .ok (.iload_n 1, 1) := by decide +kernel
theorem jd_Covering_tell_46 : decode jm_m_Covering_tell.2.1 46 = .ok (.iload 5, 2) := by decide +kernel
theorem jd_Covering_tell_48 : decode jm_m_Covering_tell.2.1 48 = .ok (.iload_n 3, 1) := by decide +kernel
theorem jd_Covering_tell_49 : decode jm_m_Covering_tell.2.1 49 = .ok (.invokevirtual 106, 3) := by decide +kernel
theorem jd_Covering_tell_52 : decode jm_m_Covering_tell.2.1 52 = .ok (.aload_n 0, 1) := by decide +kernel
theorem jd_Covering_tell_53 : decode jm_m_Covering_tell.2.1 53 = .ok (.iload 4, 2) := by decide +kernel
theorem jd_Covering_tell_55 : decode jm_m_Covering_tell.2.1 55 = .ok (.iload_n 1, 1) := by decide +kernel
theorem jd_Covering_tell_56 : decode jm_m_Covering_tell.2.1 56 = .ok (.invokevirtual 109, 3) := by decide +kernel
theorem jd_Covering_tell_59 : decode jm_m_Covering_tell.2.1 59 = .ok (.return_, 1) := by decide +kernel
theorem jd_Covering_tellPlain_0 : decode jm_m_Covering_tellPlain.2.1 0 = .ok (.aload_n 0, 1) := by decide +kernel
theorem jd_Covering_tellPlain_1 : decode jm_m_Covering_tellPlain.2.1 1 = .ok (.getfield 15, 3) := by decide +kernel
theorem jd_Covering_tellPlain_4 : decode jm_m_Covering_tellPlain.2.1 4 = .ok (.iload_n 1, 1) := by decide +kernel
theorem jd_Covering_tellPlain_5 : decode jm_m_Covering_tellPlain.2.1 5 = .ok (.iload_n 2, 1) := by decide +kernel
theorem jd_Covering_tellPlain_6 : decode jm_m_Covering_tellPlain.2.1 6 = .ok (.invokestatic 60, 3) := by decide +kernel
theorem jd_Covering_tellPlain_9 : decode jm_m_Covering_tellPlain.2.1 9 = .ok (.iaload, 1) := by decide +kernel
theorem jd_Covering_tellPlain_10 : decode jm_m_Covering_tellPlain.2.1 10 = .ok (.istore 4, 2) := by decide +kernel
theorem jd_Covering_tellPlain_12 : decode jm_m_Covering_tellPlain.2.1 12 = .ok (.iload 4, 2) := by decide +kernel
theorem jd_Covering_tellPlain_14 : decode jm_m_Covering_tellPlain.2.1 14 = .ok (.ifCond .lt 9, 3) := by decide +kernel
theorem jd_Covering_tellPlain_17 : decode jm_m_Covering_tellPlain.2.1 17 = .ok (.iload_n 3, 1) := by decide +kernel
theorem jd_Covering_tellPlain_18 : decode jm_m_Covering_tellPlain.2.1 18 = .ok (.bipush 12, 2) := by decide +kernel
theorem jd_Covering_tellPlain_20 : decode jm_m_Covering_tellPlain.2.1 20 = .ok (.if_icmp .le 4, 3) := by decide +kernel
theorem jd_Covering_tellPlain_23 : decode jm_m_Covering_tellPlain.2.1 23 = .ok (.return_, 1) := by decide +kernel
theorem jd_Covering_tellPlain_24 : decode jm_m_Covering_tellPlain.2.1 24 = .ok (.iload_n 1, 1) := by decide +kernel
theorem jd_Covering_tellPlain_25 : decode jm_m_Covering_tellPlain.2.1 25 = .ok (.istore 5, 2) := by decide +kernel
theorem jd_Covering_tellPlain_27 : decode jm_m_Covering_tellPlain.2.1 27 = .ok (.iconst 0, 1) := by decide +kernel
theorem jd_Covering_tellPlain_28 : decode jm_m_Covering_tellPlain.2.1 28 = .ok (.istore 6, 2) := by decide +kernel
theorem jd_Covering_tellPlain_30 : decode jm_m_Covering_tellPlain.2.1 30 = .ok (.iload 6, 2) := by decide +kernel
theorem jd_Covering_tellPlain_32 : decode jm_m_Covering_tellPlain.2.1 32 = .ok (.aload_n 0, 1) := by decide +kernel
theorem jd_Covering_tellPlain_33 : decode jm_m_Covering_tellPlain.2.1 33 = .ok (.getfield 34, 3) := by decide +kernel
theorem jd_Covering_tellPlain_36 : decode jm_m_Covering_tellPlain.2.1 36 = .ok (.getfield 81, 3) := by decide +kernel
theorem jd_Covering_tellPlain_39 : decode jm_m_Covering_tellPlain.2.1 39 = .ok (.iload 4, 2) := by decide +kernel
theorem jd_Covering_tellPlain_41 : decode jm_m_Covering_tellPlain.2.1 41 = .ok (.iaload, 1) := by decide +kernel
theorem jd_Covering_tellPlain_42 : decode jm_m_Covering_tellPlain.2.1 42 = .ok (.if_icmp .ge 76, 3) := by decide +kernel
theorem jd_Covering_tellPlain_45 : decode jm_m_Covering_tellPlain.2.1 45 = .ok (.iload 5, 2) := by decide +kernel
theorem jd_Covering_tellPlain_47 : decode jm_m_Covering_tellPlain.2.1 47 = .ok (.aload_n 0, 1) := by decide +kernel
theorem jd_Covering_tellPlain_48 : decode jm_m_Covering_tellPlain.2.1 48 = .ok (.getfield 30, 3) := by decide +kernel
theorem jd_Covering_tellPlain_51 : decode jm_m_Covering_tellPlain.2.1 51 = .ok (.getfield 42, 3) := by decide +kernel
theorem jd_Covering_tellPlain_54 : decode jm_m_Covering_tellPlain.2.1 54 = .ok (.if_icmp .ge 64, 3) := by decide +kernel
theorem jd_Covering_tellPlain_57 : decode jm_m_Covering_tellPlain.2.1 57 = .ok (.aload_n 0, 1) := by decide +kernel
theorem jd_Covering_tellPlain_58 : decode jm_m_Covering_tellPlain.2.1 58 = .ok (.getfield 34, 3) := by decide +kernel
theorem jd_Covering_tellPlain_61 : decode jm_m_Covering_tellPlain.2.1 61 = .ok (.getfield 84, 3) := by decide +kernel
theorem jd_Covering_tellPlain_64 : decode jm_m_Covering_tellPlain.2.1 64 = .ok (.iload 4, 2) := by decide +kernel
theorem jd_Covering_tellPlain_66 : decode jm_m_Covering_tellPlain.2.1 66 = .ok (.aaload, 1) := by decide +kernel
theorem jd_Covering_tellPlain_67 : decode jm_m_Covering_tellPlain.2.1 67 = .ok (.iload 6, 2) := by decide +kernel
theorem jd_Covering_tellPlain_69 : decode jm_m_Covering_tellPlain.2.1 69 = .ok (.iaload, 1) := by decide +kernel
theorem jd_Covering_tellPlain_70 : decode jm_m_Covering_tellPlain.2.1 70 = .ok (.invokestatic 88, 3) := by decide +kernel
theorem jd_Covering_tellPlain_73 : decode jm_m_Covering_tellPlain.2.1 73 = .ok (.istore 7, 2) := by decide +kernel
theorem jd_Covering_tellPlain_75 : decode jm_m_Covering_tellPlain.2.1 75 = .ok (.iload 7, 2) := by decide +kernel
theorem jd_Covering_tellPlain_77 : decode jm_m_Covering_tellPlain.2.1 77 = .ok (.ifCond .lt 32, 3) := by decide +kernel
theorem jd_Covering_tellPlain_80 : decode jm_m_Covering_tellPlain.2.1 80 = .ok (.aload_n 0, 1) := by decide +kernel
theorem jd_Covering_tellPlain_81 : decode jm_m_Covering_tellPlain.2.1 81 = .ok (.iload 5, 2) := by decide +kernel
theorem jd_Covering_tellPlain_83 : decode jm_m_Covering_tellPlain.2.1 83 = .ok (.iload 7, 2) := by decide +kernel
theorem jd_Covering_tellPlain_85 : decode jm_m_Covering_tellPlain.2.1 85 = .ok (.iload_n 3, 1) := by decide +kernel
theorem jd_Covering_tellPlain_86 : decode jm_m_Covering_tellPlain.2.1 86 = .ok (.iconst 1, 1) := by decide +kernel
theorem jd_Covering_tellPlain_87 : decode jm_m_Covering_tellPlain.2.1 87 = .ok (.iadd, 1) := by decide +kernel
theorem jd_Covering_tellPlain_88 : decode jm_m_Covering_tellPlain.2.1 88 = .ok (.invokevirtual 56, 3) := by decide +kernel
