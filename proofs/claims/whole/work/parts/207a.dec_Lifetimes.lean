theorem jd_Lifetimes_init_0 : decode jm_m_Lifetimes_init.2.1 0 = .ok (.aload_n 0, 1) := by decide +kernel
theorem jd_Lifetimes_init_1 : decode jm_m_Lifetimes_init.2.1 1 = .ok (.invokespecial 1, 3) := by decide +kernel
theorem jd_Lifetimes_init_4 : decode jm_m_Lifetimes_init.2.1 4 = .ok (.aload_n 0, 1) := by decide +kernel
theorem jd_Lifetimes_init_5 : decode jm_m_Lifetimes_init.2.1 5 = .ok (.bipush 12, 2) := by decide +kernel
theorem jd_Lifetimes_init_7 : decode jm_m_Lifetimes_init.2.1 7 = .ok (.newarray .int, 2) := by decide +kernel
theorem jd_Lifetimes_init_9 : decode jm_m_Lifetimes_init.2.1 9 = .ok (.putfield 9, 3) := by decide +kernel
theorem jd_Lifetimes_init_12 : decode jm_m_Lifetimes_init.2.1 12 = .ok (.aload_n 0, 1) := by decide +kernel
theorem jd_Lifetimes_init_13 : decode jm_m_Lifetimes_init.2.1 13 = .ok (.bipush 12, 2) := by decide +kernel
theorem jd_Lifetimes_init_15 : decode jm_m_Lifetimes_init.2.1 15 = .ok (.newarray .int, 2) := by decide +kernel
theorem jd_Lifetimes_init_17 : decode jm_m_Lifetimes_init.2.1 17 = .ok (.putfield 15, 3) := by decide +kernel
theorem jd_Lifetimes_init_20 : decode jm_m_Lifetimes_init.2.1 20 = .ok (.aload_n 0, 1) := by decide +kernel
theorem jd_Lifetimes_init_21 : decode jm_m_Lifetimes_init.2.1 21 = .ok (.iconst 1, 1) := by decide +kernel
theorem jd_Lifetimes_init_22 : decode jm_m_Lifetimes_init.2.1 22 = .ok (.putfield 18, 3) := by decide +kernel
theorem jd_Lifetimes_init_25 : decode jm_m_Lifetimes_init.2.1 25 = .ok (.aload_n 0, 1) := by decide +kernel
theorem jd_Lifetimes_init_26 : decode jm_m_Lifetimes_init.2.1 26 = .ok (.aload_n 1, 1) := by decide +kernel
theorem jd_Lifetimes_init_27 : decode jm_m_Lifetimes_init.2.1 27 = .ok (.putfield 22, 3) := by decide +kernel
theorem jd_Lifetimes_init_30 : decode jm_m_Lifetimes_init.2.1 30 = .ok (.return_, 1) := by decide +kernel
theorem jd_Lifetimes_until_0 : decode jm_m_Lifetimes_until.2.1 0 = .ok (.aload_n 0, 1) := by decide +kernel
theorem jd_Lifetimes_until_1 : decode jm_m_Lifetimes_until.2.1 1 = .ok (.getfield 22, 3) := by decide +kernel
theorem jd_Lifetimes_until_4 : decode jm_m_Lifetimes_until.2.1 4 = .ok (.getfield 26, 3) := by decide +kernel
theorem jd_Lifetimes_until_7 : decode jm_m_Lifetimes_until.2.1 7 = .ok (.iconst 1, 1) := by decide +kernel
theorem jd_Lifetimes_until_8 : decode jm_m_Lifetimes_until.2.1 8 = .ok (.aaload, 1) := by decide +kernel
theorem jd_Lifetimes_until_9 : decode jm_m_Lifetimes_until.2.1 9 = .ok (.iload_n 1, 1) := by decide +kernel
theorem jd_Lifetimes_until_10 : decode jm_m_Lifetimes_until.2.1 10 = .ok (.iaload, 1) := by decide +kernel
theorem jd_Lifetimes_until_11 : decode jm_m_Lifetimes_until.2.1 11 = .ok (.istore_n 2, 1) := by decide +kernel
theorem jd_Lifetimes_until_12 : decode jm_m_Lifetimes_until.2.1 12 = .ok (.iload_n 1, 1) := by decide +kernel
theorem jd_Lifetimes_until_13 : decode jm_m_Lifetimes_until.2.1 13 = .ok (.istore_n 3, 1) := by decide +kernel
theorem jd_Lifetimes_until_14 : decode jm_m_Lifetimes_until.2.1 14 = .ok (.iload_n 1, 1) := by decide +kernel
theorem jd_Lifetimes_until_15 : decode jm_m_Lifetimes_until.2.1 15 = .ok (.iconst 1, 1) := by decide +kernel
theorem jd_Lifetimes_until_16 : decode jm_m_Lifetimes_until.2.1 16 = .ok (.iadd, 1) := by decide +kernel
theorem jd_Lifetimes_until_17 : decode jm_m_Lifetimes_until.2.1 17 = .ok (.istore 4, 2) := by decide +kernel
theorem jd_Lifetimes_until_19 : decode jm_m_Lifetimes_until.2.1 19 = .ok (.iload 4, 2) := by decide +kernel
theorem jd_Lifetimes_until_21 : decode jm_m_Lifetimes_until.2.1 21 = .ok (.aload_n 0, 1) := by decide +kernel
theorem jd_Lifetimes_until_22 : decode jm_m_Lifetimes_until.2.1 22 = .ok (.getfield 22, 3) := by decide +kernel
theorem jd_Lifetimes_until_25 : decode jm_m_Lifetimes_until.2.1 25 = .ok (.getfield 30, 3) := by decide +kernel
theorem jd_Lifetimes_until_28 : decode jm_m_Lifetimes_until.2.1 28 = .ok (.if_icmp .ge 43, 3) := by decide +kernel
theorem jd_Lifetimes_until_31 : decode jm_m_Lifetimes_until.2.1 31 = .ok (.aload_n 0, 1) := by decide +kernel
theorem jd_Lifetimes_until_32 : decode jm_m_Lifetimes_until.2.1 32 = .ok (.getfield 22, 3) := by decide +kernel
theorem jd_Lifetimes_until_35 : decode jm_m_Lifetimes_until.2.1 35 = .ok (.iload 4, 2) := by decide +kernel
theorem jd_Lifetimes_until_37 : decode jm_m_Lifetimes_until.2.1 37 = .ok (.iload_n 2, 1) := by decide +kernel
theorem jd_Lifetimes_until_38 : decode jm_m_Lifetimes_until.2.1 38 = .ok (.invokevirtual 33, 3) := by decide +kernel
theorem jd_Lifetimes_until_41 : decode jm_m_Lifetimes_until.2.1 41 = .ok (.ifCond .eq 6, 3) := by decide +kernel
theorem jd_Lifetimes_until_44 : decode jm_m_Lifetimes_until.2.1 44 = .ok (.iload 4, 2) := by decide +kernel
theorem jd_Lifetimes_until_46 : decode jm_m_Lifetimes_until.2.1 46 = .ok (.istore_n 3, 1) := by decide +kernel
theorem jd_Lifetimes_until_47 : decode jm_m_Lifetimes_until.2.1 47 = .ok (.aload_n 0, 1) := by decide +kernel
theorem jd_Lifetimes_until_48 : decode jm_m_Lifetimes_until.2.1 48 = .ok (.getfield 22, 3) := by decide +kernel
theorem jd_Lifetimes_until_51 : decode jm_m_Lifetimes_until.2.1 51 = .ok (.getfield 26, 3) := by decide +kernel
theorem jd_Lifetimes_until_54 : decode jm_m_Lifetimes_until.2.1 54 = .ok (.iconst 1, 1) := by decide +kernel
theorem jd_Lifetimes_until_55 : decode jm_m_Lifetimes_until.2.1 55 = .ok (.aaload, 1) := by decide +kernel
theorem jd_Lifetimes_until_56 : decode jm_m_Lifetimes_until.2.1 56 = .ok (.iload 4, 2) := by decide +kernel
theorem jd_Lifetimes_until_58 : decode jm_m_Lifetimes_until.2.1 58 = .ok (.iaload, 1) := by decide +kernel
theorem jd_Lifetimes_until_59 : decode jm_m_Lifetimes_until.2.1 59 = .ok (.iload_n 2, 1) := by decide +kernel
theorem jd_Lifetimes_until_60 : decode jm_m_Lifetimes_until.2.1 60 = .ok (.if_icmp .ne 5, 3) := by decide +kernel
theorem jd_Lifetimes_until_63 : decode jm_m_Lifetimes_until.2.1 63 = .ok (.iload_n 3, 1) := by decide +kernel
theorem jd_Lifetimes_until_64 : decode jm_m_Lifetimes_until.2.1 64 = .ok (.ireturn, 1) := by decide +kernel
theorem jd_Lifetimes_until_65 : decode jm_m_Lifetimes_until.2.1 65 = .ok (.iinc 4 1, 3) := by decide +kernel
theorem jd_Lifetimes_until_68 : decode jm_m_Lifetimes_until.2.1 68 = .ok (.goto (-49), 3) := by decide +kernel
theorem jd_Lifetimes_until_71 : decode jm_m_Lifetimes_until.2.1 71 = .ok (.aload_n 0, 1) := by decide +kernel
theorem jd_Lifetimes_until_72 : decode jm_m_Lifetimes_until.2.1 72 = .ok (.getfield 18, 3) := by decide +kernel
theorem jd_Lifetimes_until_75 : decode jm_m_Lifetimes_until.2.1 75 = .ok (.iload_n 2, 1) := by decide +kernel
theorem jd_Lifetimes_until_76 : decode jm_m_Lifetimes_until.2.1 76 = .ok (.ishr, 1) := by decide +kernel
theorem jd_Lifetimes_until_77 : decode jm_m_Lifetimes_until.2.1 77 = .ok (.iconst 1, 1) := by decide +kernel
theorem jd_Lifetimes_until_78 : decode jm_m_Lifetimes_until.2.1 78 = .ok (.iand, 1) := by decide +kernel
theorem jd_Lifetimes_until_79 : decode jm_m_Lifetimes_until.2.1 79 = .ok (.ifCond .eq 13, 3) := by decide +kernel
theorem jd_Lifetimes_until_82 : decode jm_m_Lifetimes_until.2.1 82 = .ok (.aload_n 0, 1) := by decide +kernel
theorem jd_Lifetimes_until_83 : decode jm_m_Lifetimes_until.2.1 83 = .ok (.getfield 22, 3) := by decide +kernel
theorem jd_Lifetimes_until_86 : decode jm_m_Lifetimes_until.2.1 86 = .ok (.getfield 30, 3) := by decide +kernel
theorem jd_Lifetimes_until_89 : decode jm_m_Lifetimes_until.2.1 89 = .ok (.goto 4, 3) := by decide +kernel
theorem jd_Lifetimes_until_92 : decode jm_m_Lifetimes_until.2.1 92 = .ok (.iload_n 3, 1) := by decide +kernel
theorem jd_Lifetimes_until_93 : decode jm_m_Lifetimes_until.2.1 93 = .ok (.ireturn, 1) := by decide +kernel
theorem jd_Lifetimes_livingBehind_0 : decode jm_m_Lifetimes_livingBehind.2.1 0 = .ok (.iconst 0, 1) := by decide +kernel
theorem jd_Lifetimes_livingBehind_1 : decode jm_m_Lifetimes_livingBehind.2.1 1 = .ok (.istore_n 2, 1) := by decide +kernel
theorem jd_Lifetimes_livingBehind_2 : decode jm_m_Lifetimes_livingBehind.2.1 2 = .ok (.iconst 0, 1) := by decide +kernel
theorem jd_Lifetimes_livingBehind_3 : decode jm_m_Lifetimes_livingBehind.2.1 3 = .ok (.istore_n 3, 1) := by decide +kernel
theorem jd_Lifetimes_livingBehind_4 : decode jm_m_Lifetimes_livingBehind.2.1 4 = .ok (.iload_n 3, 1) := by decide +kernel
theorem jd_Lifetimes_livingBehind_5 : decode jm_m_Lifetimes_livingBehind.2.1 5 = .ok (.iload_n 1, 1) := by decide +kernel
theorem jd_Lifetimes_livingBehind_6 : decode jm_m_Lifetimes_livingBehind.2.1 6 = .ok (.if_icmp .gt 39, 3) := by decide +kernel
theorem jd_Lifetimes_livingBehind_9 : decode jm_m_Lifetimes_livingBehind.2.1 9 = .ok (.iload_n 3, 1) := by decide +kernel
theorem jd_Lifetimes_livingBehind_10 : decode jm_m_Lifetimes_livingBehind.2.1 10 = .ok (.aload_n 0, 1) := by decide +kernel
theorem jd_Lifetimes_livingBehind_11 : decode jm_m_Lifetimes_livingBehind.2.1 11 = .ok (.getfield 22, 3) := by decide +kernel
theorem jd_Lifetimes_livingBehind_14 : decode jm_m_Lifetimes_livingBehind.2.1 14 = .ok (.getfield 30, 3) := by decide +kernel
theorem jd_Lifetimes_livingBehind_17 : decode jm_m_Lifetimes_livingBehind.2.1 17 = .ok (.if_icmp .ge 28, 3) := by decide +kernel
theorem jd_Lifetimes_livingBehind_20 : decode jm_m_Lifetimes_livingBehind.2.1 20 = .ok (.iload_n 2, 1) := by decide +kernel
theorem jd_Lifetimes_livingBehind_21 : decode jm_m_Lifetimes_livingBehind.2.1 21 = .ok (.aload_n 0, 1) := by decide +kernel
theorem jd_Lifetimes_livingBehind_22 : decode jm_m_Lifetimes_livingBehind.2.1 22 = .ok (.iload_n 3, 1) := by decide +kernel
theorem jd_Lifetimes_livingBehind_23 : decode jm_m_Lifetimes_livingBehind.2.1 23 = .ok (.invokevirtual 37, 3) := by decide +kernel
theorem jd_Lifetimes_livingBehind_26 : decode jm_m_Lifetimes_livingBehind.2.1 26 = .ok (.iload_n 1, 1) := by decide +kernel
theorem jd_Lifetimes_livingBehind_27 : decode jm_m_Lifetimes_livingBehind.2.1 27 = .ok (.if_icmp .le 9, 3) := by decide +kernel
theorem jd_Lifetimes_livingBehind_30 : decode jm_m_Lifetimes_livingBehind.2.1 30 = .ok (.iconst 1, 1) := by decide +kernel
theorem jd_Lifetimes_livingBehind_31 : decode jm_m_Lifetimes_livingBehind.2.1 31 = .ok (.iload_n 3, 1) := by decide +kernel
theorem jd_Lifetimes_livingBehind_32 : decode jm_m_Lifetimes_livingBehind.2.1 32 = .ok (.ishl, 1) := by decide +kernel
theorem jd_Lifetimes_livingBehind_33 : decode jm_m_Lifetimes_livingBehind.2.1 33 = .ok (.goto 4, 3) := by decide +kernel
theorem jd_Lifetimes_livingBehind_36 : decode jm_m_Lifetimes_livingBehind.2.1 36 = .ok (.iconst 0, 1) := by decide +kernel
theorem jd_Lifetimes_livingBehind_37 : decode jm_m_Lifetimes_livingBehind.2.1 37 = .ok (.ior, 1) := by decide +kernel
theorem jd_Lifetimes_livingBehind_38 : decode jm_m_Lifetimes_livingBehind.2.1 38 = .ok (.istore_n 2, 1) := by decide +kernel
theorem jd_Lifetimes_livingBehind_39 : decode jm_m_Lifetimes_livingBehind.2.1 39 = .ok (.iinc 3 1, 3) := by decide +kernel
theorem jd_Lifetimes_livingBehind_42 : decode jm_m_Lifetimes_livingBehind.2.1 42 = .ok (.goto (-38), 3) := by decide +kernel
theorem jd_Lifetimes_livingBehind_45 : decode jm_m_Lifetimes_livingBehind.2.1 45 = .ok (.iload_n 2, 1) := by decide +kernel
theorem jd_Lifetimes_livingBehind_46 : decode jm_m_Lifetimes_livingBehind.2.1 46 = .ok (.ireturn, 1) := by decide +kernel
theorem jd_Lifetimes_mostAtOnePlace_0 : decode jm_m_Lifetimes_mostAtOnePlace.2.1 0 = .ok (.iconst 0, 1) := by decide +kernel
theorem jd_Lifetimes_mostAtOnePlace_1 : decode jm_m_Lifetimes_mostAtOnePlace.2.1 1 = .ok (.istore_n 1, 1) := by decide +kernel
theorem jd_Lifetimes_mostAtOnePlace_2 : decode jm_m_Lifetimes_mostAtOnePlace.2.1 2 = .ok (.iconst 0, 1) := by decide +kernel
theorem jd_Lifetimes_mostAtOnePlace_3 : decode jm_m_Lifetimes_mostAtOnePlace.2.1 3 = .ok (.istore_n 2, 1) := by decide +kernel
theorem jd_Lifetimes_mostAtOnePlace_4 : decode jm_m_Lifetimes_mostAtOnePlace.2.1 4 = .ok (.iload_n 2, 1) := by decide +kernel
theorem jd_Lifetimes_mostAtOnePlace_5 : decode jm_m_Lifetimes_mostAtOnePlace.2.1 5 = .ok (.aload_n 0, 1) := by decide +kernel
theorem jd_Lifetimes_mostAtOnePlace_6 : decode jm_m_Lifetimes_mostAtOnePlace.2.1 6 = .ok (.getfield 22, 3) := by decide +kernel
theorem jd_Lifetimes_mostAtOnePlace_9 : decode jm_m_Lifetimes_mostAtOnePlace.2.1 9 = .ok (.getfield 30, 3) := by decide +kernel
theorem jd_Lifetimes_mostAtOnePlace_12 : decode jm_m_Lifetimes_mostAtOnePlace.2.1 12 = .ok (.if_icmp .ge 22, 3) := by decide +kernel
theorem jd_Lifetimes_mostAtOnePlace_15 : decode jm_m_Lifetimes_mostAtOnePlace.2.1 15 = .ok (.iload_n 1, 1) := by decide +kernel
theorem jd_Lifetimes_mostAtOnePlace_16 : decode jm_m_Lifetimes_mostAtOnePlace.2.1 16 = .ok (.aload_n 0, 1) := by decide +kernel
theorem jd_Lifetimes_mostAtOnePlace_17 : decode jm_m_Lifetimes_mostAtOnePlace.2.1 17 = .ok (.iload_n 2, 1) := by decide +kernel
theorem jd_Lifetimes_mostAtOnePlace_18 : decode jm_m_Lifetimes_mostAtOnePlace.2.1 18 = .ok (.invokevirtual 40, 3) := by decide +kernel
theorem jd_Lifetimes_mostAtOnePlace_21 : decode jm_m_Lifetimes_mostAtOnePlace.2.1 21 = .ok (.invokestatic 43, 3) := by decide +kernel
theorem jd_Lifetimes_mostAtOnePlace_24 : decode jm_m_Lifetimes_mostAtOnePlace.2.1 24 = .ok (.invokestatic 48, 3) := by decide +kernel
theorem jd_Lifetimes_mostAtOnePlace_27 : decode jm_m_Lifetimes_mostAtOnePlace.2.1 27 = .ok (.istore_n 1, 1) := by decide +kernel
theorem jd_Lifetimes_mostAtOnePlace_28 : decode jm_m_Lifetimes_mostAtOnePlace.2.1 28 = .ok (.iinc 2 1, 3) := by decide +kernel
theorem jd_Lifetimes_mostAtOnePlace_31 : decode jm_m_Lifetimes_mostAtOnePlace.2.1 31 = .ok (.goto (-27), 3) := by decide +kernel
theorem jd_Lifetimes_mostAtOnePlace_34 : decode jm_m_Lifetimes_mostAtOnePlace.2.1 34 = .ok (.iload_n 1, 1) := by decide +kernel
theorem jd_Lifetimes_mostAtOnePlace_35 : decode jm_m_Lifetimes_mostAtOnePlace.2.1 35 = .ok (.ireturn, 1) := by decide +kernel
theorem jd_Lifetimes_firstUnused_0 : decode jm_m_Lifetimes_firstUnused.2.1 0 = .ok (.iconst 0, 1) := by decide +kernel
theorem jd_Lifetimes_firstUnused_1 : decode jm_m_Lifetimes_firstUnused.2.1 1 = .ok (.istore_n 1, 1) := by decide +kernel
theorem jd_Lifetimes_firstUnused_2 : decode jm_m_Lifetimes_firstUnused.2.1 2 = .ok (.iload_n 1, 1) := by decide +kernel
theorem jd_Lifetimes_firstUnused_3 : decode jm_m_Lifetimes_firstUnused.2.1 3 = .ok (.aload_n 0, 1) := by decide +kernel
theorem jd_Lifetimes_firstUnused_4 : decode jm_m_Lifetimes_firstUnused.2.1 4 = .ok (.getfield 22, 3) := by decide +kernel
theorem jd_Lifetimes_firstUnused_7 : decode jm_m_Lifetimes_firstUnused.2.1 7 = .ok (.getfield 30, 3) := by decide +kernel
theorem jd_Lifetimes_firstUnused_10 : decode jm_m_Lifetimes_firstUnused.2.1 10 = .ok (.if_icmp .ge 20, 3) := by decide +kernel
theorem jd_Lifetimes_firstUnused_13 : decode jm_m_Lifetimes_firstUnused.2.1 13 = .ok (.aload_n 0, 1) := by decide +kernel
theorem jd_Lifetimes_firstUnused_14 : decode jm_m_Lifetimes_firstUnused.2.1 14 = .ok (.iload_n 1, 1) := by decide +kernel
theorem jd_Lifetimes_firstUnused_15 : decode jm_m_Lifetimes_firstUnused.2.1 15 = .ok (.invokevirtual 37, 3) := by decide +kernel
theorem jd_Lifetimes_firstUnused_18 : decode jm_m_Lifetimes_firstUnused.2.1 18 = .ok (.iload_n 1, 1) := by decide +kernel
theorem jd_Lifetimes_firstUnused_19 : decode jm_m_Lifetimes_firstUnused.2.1 19 = .ok (.if_icmp .ne 5, 3) := by decide +kernel
theorem jd_Lifetimes_firstUnused_22 : decode jm_m_Lifetimes_firstUnused.2.1 22 = .ok (.iload_n 1, 1) := by decide +kernel
theorem jd_Lifetimes_firstUnused_23 : decode jm_m_Lifetimes_firstUnused.2.1 23 = .ok (.ireturn, 1) := by decide +kernel
theorem jd_Lifetimes_firstUnused_24 : decode jm_m_Lifetimes_firstUnused.2.1 24 = .ok (.iinc 1 1, 3) := by decide +kernel
theorem jd_Lifetimes_firstUnused_27 : decode jm_m_Lifetimes_firstUnused.2.1 27 = .ok (.goto (-25), 3) := by decide +kernel
theorem jd_Lifetimes_firstUnused_30 : decode jm_m_Lifetimes_firstUnused.2.1 30 = .ok (.iconst (-1), 1) := by decide +kernel
theorem jd_Lifetimes_firstUnused_31 : decode jm_m_Lifetimes_firstUnused.2.1 31 = .ok (.ireturn, 1) := by decide +kernel
theorem jd_Lifetimes_spillTo_0 : decode jm_m_Lifetimes_spillTo.2.1 0 = .ok (.iconst 0, 1) := by decide +kernel
theorem jd_Lifetimes_spillTo_1 : decode jm_m_Lifetimes_spillTo.2.1 1 = .ok (.istore_n 2, 1) := by decide +kernel
theorem jd_Lifetimes_spillTo_2 : decode jm_m_Lifetimes_spillTo.2.1 2 = .ok (.iload_n 2, 1) := by decide +kernel
theorem jd_Lifetimes_spillTo_3 : decode jm_m_Lifetimes_spillTo.2.1 3 = .ok (.aload_n 0, 1) := by decide +kernel
theorem jd_Lifetimes_spillTo_4 : decode jm_m_Lifetimes_spillTo.2.1 4 = .ok (.getfield 22, 3) := by decide +kernel
theorem jd_Lifetimes_spillTo_7 : decode jm_m_Lifetimes_spillTo.2.1 7 = .ok (.getfield 30, 3) := by decide +kernel
theorem jd_Lifetimes_spillTo_10 : decode jm_m_Lifetimes_spillTo.2.1 10 = .ok (.if_icmp .ge 27, 3) := by decide +kernel
theorem jd_Lifetimes_spillTo_13 : decode jm_m_Lifetimes_spillTo.2.1 13 = .ok (.aload_n 0, 1) := by decide +kernel
theorem jd_Lifetimes_spillTo_14 : decode jm_m_Lifetimes_spillTo.2.1 14 = .ok (.getfield 9, 3) := by decide +kernel
theorem jd_Lifetimes_spillTo_17 : decode jm_m_Lifetimes_spillTo.2.1 17 = .ok (.iload_n 2, 1) := by decide +kernel
theorem jd_Lifetimes_spillTo_18 : decode jm_m_Lifetimes_spillTo.2.1 18 = .ok (.aload_n 0, 1) := by decide +kernel
theorem jd_Lifetimes_spillTo_19 : decode jm_m_Lifetimes_spillTo.2.1 19 = .ok (.iload_n 2, 1) := by decide +kernel
theorem jd_Lifetimes_spillTo_20 : decode jm_m_Lifetimes_spillTo.2.1 20 = .ok (.invokevirtual 37, 3) := by decide +kernel
theorem jd_Lifetimes_spillTo_23 : decode jm_m_Lifetimes_spillTo.2.1 23 = .ok (.iastore, 1) := by decide +kernel
theorem jd_Lifetimes_spillTo_24 : decode jm_m_Lifetimes_spillTo.2.1 24 = .ok (.aload_n 0, 1) := by decide +kernel
theorem jd_Lifetimes_spillTo_25 : decode jm_m_Lifetimes_spillTo.2.1 25 = .ok (.getfield 15, 3) := by decide +kernel
theorem jd_Lifetimes_spillTo_28 : decode jm_m_Lifetimes_spillTo.2.1 28 = .ok (.iload_n 2, 1) := by decide +kernel
theorem jd_Lifetimes_spillTo_29 : decode jm_m_Lifetimes_spillTo.2.1 29 = .ok (.iconst 0, 1) := by decide +kernel
theorem jd_Lifetimes_spillTo_30 : decode jm_m_Lifetimes_spillTo.2.1 30 = .ok (.iastore, 1) := by decide +kernel
theorem jd_Lifetimes_spillTo_31 : decode jm_m_Lifetimes_spillTo.2.1 31 = .ok (.iinc 2 1, 3) := by decide +kernel
theorem jd_Lifetimes_spillTo_34 : decode jm_m_Lifetimes_spillTo.2.1 34 = .ok (.goto (-32), 3) := by decide +kernel
theorem jd_Lifetimes_spillTo_37 : decode jm_m_Lifetimes_spillTo.2.1 37 = .ok (.aload_n 0, 1) := by decide +kernel
theorem jd_Lifetimes_spillTo_38 : decode jm_m_Lifetimes_spillTo.2.1 38 = .ok (.iconst 0, 1) := by decide +kernel
theorem jd_Lifetimes_spillTo_39 : decode jm_m_Lifetimes_spillTo.2.1 39 = .ok (.putfield 54, 3) := by decide +kernel
theorem jd_Lifetimes_spillTo_42 : decode jm_m_Lifetimes_spillTo.2.1 42 = .ok (.aload_n 0, 1) := by decide +kernel
theorem jd_Lifetimes_spillTo_43 : decode jm_m_Lifetimes_spillTo.2.1 43 = .ok (.ldc 57, 2) := by decide +kernel
theorem jd_Lifetimes_spillTo_45 : decode jm_m_Lifetimes_spillTo.2.1 45 = .ok (.putfield 58, 3) := by decide +kernel
theorem jd_Lifetimes_spillTo_48 : decode jm_m_Lifetimes_spillTo.2.1 48 = .ok (.aload_n 0, 1) := by decide +kernel
theorem jd_Lifetimes_spillTo_49 : decode jm_m_Lifetimes_spillTo.2.1 49 = .ok (.aload_n 0, 1) := by decide +kernel
theorem jd_Lifetimes_spillTo_50 : decode jm_m_Lifetimes_spillTo.2.1 50 = .ok (.getfield 22, 3) := by decide +kernel
theorem jd_Lifetimes_spillTo_53 : decode jm_m_Lifetimes_spillTo.2.1 53 = .ok (.getfield 30, 3) := by decide +kernel
theorem jd_Lifetimes_spillTo_56 : decode jm_m_Lifetimes_spillTo.2.1 56 = .ok (.iconst 1, 1) := by decide +kernel
theorem jd_Lifetimes_spillTo_57 : decode jm_m_Lifetimes_spillTo.2.1 57 = .ok (.isub, 1) := by decide +kernel
theorem jd_Lifetimes_spillTo_58 : decode jm_m_Lifetimes_spillTo.2.1 58 = .ok (.iload_n 1, 1) := by decide +kernel
theorem jd_Lifetimes_spillTo_59 : decode jm_m_Lifetimes_spillTo.2.1 59 = .ok (.iconst 0, 1) := by decide +kernel
theorem jd_Lifetimes_spillTo_60 : decode jm_m_Lifetimes_spillTo.2.1 60 = .ok (.iconst 0, 1) := by decide +kernel
theorem jd_Lifetimes_spillTo_61 : decode jm_m_Lifetimes_spillTo.2.1 61 = .ok (.invokevirtual 61, 3) := by decide +kernel
theorem jd_Lifetimes_spillTo_64 : decode jm_m_Lifetimes_spillTo.2.1 64 = .ok (.return_, 1) := by decide +kernel
theorem jd_Lifetimes_choose_0 : decode jm_m_Lifetimes_choose.2.1 0 = .ok (.iload 4, 2) := by decide +kernel
theorem jd_Lifetimes_choose_2 : decode jm_m_Lifetimes_choose.2.1 2 = .ok (.aload_n 0, 1) := by decide +kernel
theorem jd_Lifetimes_choose_3 : decode jm_m_Lifetimes_choose.2.1 3 = .ok (.getfield 58, 3) := by decide +kernel
theorem jd_Lifetimes_choose_6 : decode jm_m_Lifetimes_choose.2.1 6 = .ok (.if_icmp .lt 4, 3) := by decide +kernel
theorem jd_Lifetimes_choose_9 : decode jm_m_Lifetimes_choose.2.1 9 = .ok (.return_, 1) := by decide +kernel
theorem jd_Lifetimes_choose_10 : decode jm_m_Lifetimes_choose.2.1 10 = .ok (.iload_n 1, 1) := by decide +kernel
theorem jd_Lifetimes_choose_11 : decode jm_m_Lifetimes_choose.2.1 11 = .ok (.ifCond .ge 15, 3) := by decide +kernel
theorem jd_Lifetimes_choose_14 : decode jm_m_Lifetimes_choose.2.1 14 = .ok (.aload_n 0, 1) := by decide +kernel
theorem jd_Lifetimes_choose_15 : decode jm_m_Lifetimes_choose.2.1 15 = .ok (.iload_n 3, 1) := by decide +kernel
theorem jd_Lifetimes_choose_16 : decode jm_m_Lifetimes_choose.2.1 16 = .ok (.putfield 54, 3) := by decide +kernel
theorem jd_Lifetimes_choose_19 : decode jm_m_Lifetimes_choose.2.1 19 = .ok (.aload_n 0, 1) := by decide +kernel
theorem jd_Lifetimes_choose_20 : decode jm_m_Lifetimes_choose.2.1 20 = .ok (.iload 4, 2) := by decide +kernel
theorem jd_Lifetimes_choose_22 : decode jm_m_Lifetimes_choose.2.1 22 = .ok (.putfield 58, 3) := by decide +kernel
theorem jd_Lifetimes_choose_25 : decode jm_m_Lifetimes_choose.2.1 25 = .ok (.return_, 1) := by decide +kernel
theorem jd_Lifetimes_choose_26 : decode jm_m_Lifetimes_choose.2.1 26 = .ok (.aload_n 0, 1) := by decide +kernel
theorem jd_Lifetimes_choose_27 : decode jm_m_Lifetimes_choose.2.1 27 = .ok (.iload_n 1, 1) := by decide +kernel
theorem jd_Lifetimes_choose_28 : decode jm_m_Lifetimes_choose.2.1 28 = .ok (.iload_n 2, 1) := by decide +kernel
theorem jd_Lifetimes_choose_29 : decode jm_m_Lifetimes_choose.2.1 29 = .ok (.invokevirtual 65, 3) := by decide +kernel
theorem jd_Lifetimes_choose_32 : decode jm_m_Lifetimes_choose.2.1 32 = .ok (.ifCond .eq 26, 3) := by decide +kernel
theorem jd_Lifetimes_choose_35 : decode jm_m_Lifetimes_choose.2.1 35 = .ok (.aload_n 0, 1) := by decide +kernel
theorem jd_Lifetimes_choose_36 : decode jm_m_Lifetimes_choose.2.1 36 = .ok (.iload_n 1, 1) := by decide +kernel
theorem jd_Lifetimes_choose_37 : decode jm_m_Lifetimes_choose.2.1 37 = .ok (.iconst 1, 1) := by decide +kernel
theorem jd_Lifetimes_choose_38 : decode jm_m_Lifetimes_choose.2.1 38 = .ok (.invokevirtual 68, 3) := by decide +kernel
theorem jd_Lifetimes_choose_41 : decode jm_m_Lifetimes_choose.2.1 41 = .ok (.aload_n 0, 1) := by decide +kernel
theorem jd_Lifetimes_choose_42 : decode jm_m_Lifetimes_choose.2.1 42 = .ok (.iload_n 1, 1) := by decide +kernel
theorem jd_Lifetimes_choose_43 : decode jm_m_Lifetimes_choose.2.1 43 = .ok (.iconst 1, 1) := by decide +kernel
theorem jd_Lifetimes_choose_44 : decode jm_m_Lifetimes_choose.2.1 44 = .ok (.isub, 1) := by decide +kernel
theorem jd_Lifetimes_choose_45 : decode jm_m_Lifetimes_choose.2.1 45 = .ok (.iload_n 2, 1) := by decide +kernel
theorem jd_Lifetimes_choose_46 : decode jm_m_Lifetimes_choose.2.1 46 = .ok (.iload_n 3, 1) := by decide +kernel
theorem jd_Lifetimes_choose_47 : decode jm_m_Lifetimes_choose.2.1 47 = .ok (.iload 4, 2) := by decide +kernel
theorem jd_Lifetimes_choose_49 : decode jm_m_Lifetimes_choose.2.1 49 = .ok (.invokevirtual 61, 3) := by decide +kernel
theorem jd_Lifetimes_choose_52 : decode jm_m_Lifetimes_choose.2.1 52 = .ok (.aload_n 0, 1) := by decide +kernel
theorem jd_Lifetimes_choose_53 : decode jm_m_Lifetimes_choose.2.1 53 = .ok (.iload_n 1, 1) := by decide +kernel
theorem jd_Lifetimes_choose_54 : decode jm_m_Lifetimes_choose.2.1 54 = .ok (.iconst (-1), 1) := by decide +kernel
theorem jd_Lifetimes_choose_55 : decode jm_m_Lifetimes_choose.2.1 55 = .ok (.invokevirtual 68, 3) := by decide +kernel
theorem jd_Lifetimes_choose_58 : decode jm_m_Lifetimes_choose.2.1 58 = .ok (.aload_n 0, 1) := by decide +kernel
theorem jd_Lifetimes_choose_59 : decode jm_m_Lifetimes_choose.2.1 59 = .ok (.getfield 9, 3) := by decide +kernel
theorem jd_Lifetimes_choose_62 : decode jm_m_Lifetimes_choose.2.1 62 = .ok (.iload_n 1, 1) := by decide +kernel
theorem jd_Lifetimes_choose_63 : decode jm_m_Lifetimes_choose.2.1 63 = .ok (.iaload, 1) := by decide +kernel
theorem jd_Lifetimes_choose_64 : decode jm_m_Lifetimes_choose.2.1 64 = .ok (.iload_n 1, 1) := by decide +kernel
theorem jd_Lifetimes_choose_65 : decode jm_m_Lifetimes_choose.2.1 65 = .ok (.if_icmp .le 30, 3) := by decide +kernel
theorem jd_Lifetimes_choose_68 : decode jm_m_Lifetimes_choose.2.1 68 = .ok (.aload_n 0, 1) := by decide +kernel
theorem jd_Lifetimes_choose_69 : decode jm_m_Lifetimes_choose.2.1 69 = .ok (.iload_n 1, 1) := by decide +kernel
theorem jd_Lifetimes_choose_70 : decode jm_m_Lifetimes_choose.2.1 70 = .ok (.iconst 1, 1) := by decide +kernel
theorem jd_Lifetimes_choose_71 : decode jm_m_Lifetimes_choose.2.1 71 = .ok (.isub, 1) := by decide +kernel
theorem jd_Lifetimes_choose_72 : decode jm_m_Lifetimes_choose.2.1 72 = .ok (.iload_n 2, 1) := by decide +kernel
theorem jd_Lifetimes_choose_73 : decode jm_m_Lifetimes_choose.2.1 73 = .ok (.iload_n 3, 1) := by decide +kernel
theorem jd_Lifetimes_choose_74 : decode jm_m_Lifetimes_choose.2.1 74 = .ok (.iconst 1, 1) := by decide +kernel
theorem jd_Lifetimes_choose_75 : decode jm_m_Lifetimes_choose.2.1 75 = .ok (.iload_n 1, 1) := by decide +kernel
theorem jd_Lifetimes_choose_76 : decode jm_m_Lifetimes_choose.2.1 76 = .ok (.ishl, 1) := by decide +kernel
theorem jd_Lifetimes_choose_77 : decode jm_m_Lifetimes_choose.2.1 77 = .ok (.ior, 1) := by decide +kernel
theorem jd_Lifetimes_choose_78 : decode jm_m_Lifetimes_choose.2.1 78 = .ok (.iload 4, 2) := by decide +kernel
theorem jd_Lifetimes_choose_80 : decode jm_m_Lifetimes_choose.2.1 80 = .ok (.aload_n 0, 1) := by decide +kernel
theorem jd_Lifetimes_choose_81 : decode jm_m_Lifetimes_choose.2.1 81 = .ok (.getfield 22, 3) := by decide +kernel
theorem jd_Lifetimes_choose_84 : decode jm_m_Lifetimes_choose.2.1 84 = .ok (.getfield 26, 3) := by decide +kernel
theorem jd_Lifetimes_choose_87 : decode jm_m_Lifetimes_choose.2.1 87 = .ok (.iconst 5, 1) := by decide +kernel
theorem jd_Lifetimes_choose_88 : decode jm_m_Lifetimes_choose.2.1 88 = .ok (.aaload, 1) := by decide +kernel
theorem jd_Lifetimes_choose_89 : decode jm_m_Lifetimes_choose.2.1 89 = .ok (.iload_n 1, 1) := by decide +kernel
theorem jd_Lifetimes_choose_90 : decode jm_m_Lifetimes_choose.2.1 90 = .ok (.iaload, 1) := by decide +kernel
theorem jd_Lifetimes_choose_91 : decode jm_m_Lifetimes_choose.2.1 91 = .ok (.iadd, 1) := by decide +kernel
theorem jd_Lifetimes_choose_92 : decode jm_m_Lifetimes_choose.2.1 92 = .ok (.invokevirtual 61, 3) := by decide +kernel
theorem jd_Lifetimes_choose_95 : decode jm_m_Lifetimes_choose.2.1 95 = .ok (.return_, 1) := by decide +kernel
theorem jd_Lifetimes_hasRoom_0 : decode jm_m_Lifetimes_hasRoom.2.1 0 = .ok (.iload_n 1, 1) := by decide +kernel
theorem jd_Lifetimes_hasRoom_1 : decode jm_m_Lifetimes_hasRoom.2.1 1 = .ok (.istore_n 3, 1) := by decide +kernel
theorem jd_Lifetimes_hasRoom_2 : decode jm_m_Lifetimes_hasRoom.2.1 2 = .ok (.iload_n 3, 1) := by decide +kernel
theorem jd_Lifetimes_hasRoom_3 : decode jm_m_Lifetimes_hasRoom.2.1 3 = .ok (.aload_n 0, 1) := by decide +kernel
theorem jd_Lifetimes_hasRoom_4 : decode jm_m_Lifetimes_hasRoom.2.1 4 = .ok (.getfield 9, 3) := by decide +kernel
theorem jd_Lifetimes_hasRoom_7 : decode jm_m_Lifetimes_hasRoom.2.1 7 = .ok (.iload_n 1, 1) := by decide +kernel
theorem jd_Lifetimes_hasRoom_8 : decode jm_m_Lifetimes_hasRoom.2.1 8 = .ok (.iaload, 1) := by decide +kernel
theorem jd_Lifetimes_hasRoom_9 : decode jm_m_Lifetimes_hasRoom.2.1 9 = .ok (.if_icmp .ge 21, 3) := by decide +kernel
theorem jd_Lifetimes_hasRoom_12 : decode jm_m_Lifetimes_hasRoom.2.1 12 = .ok (.aload_n 0, 1) := by decide +kernel
theorem jd_Lifetimes_hasRoom_13 : decode jm_m_Lifetimes_hasRoom.2.1 13 = .ok (.getfield 15, 3) := by decide +kernel
theorem jd_Lifetimes_hasRoom_16 : decode jm_m_Lifetimes_hasRoom.2.1 16 = .ok (.iload_n 3, 1) := by decide +kernel
theorem jd_Lifetimes_hasRoom_17 : decode jm_m_Lifetimes_hasRoom.2.1 17 = .ok (.iaload, 1) := by decide +kernel
theorem jd_Lifetimes_hasRoom_18 : decode jm_m_Lifetimes_hasRoom.2.1 18 = .ok (.iload_n 2, 1) := by decide +kernel
theorem jd_Lifetimes_hasRoom_19 : decode jm_m_Lifetimes_hasRoom.2.1 19 = .ok (.if_icmp .lt 5, 3) := by decide +kernel
theorem jd_Lifetimes_hasRoom_22 : decode jm_m_Lifetimes_hasRoom.2.1 22 = .ok (.iconst 0, 1) := by decide +kernel
theorem jd_Lifetimes_hasRoom_23 : decode jm_m_Lifetimes_hasRoom.2.1 23 = .ok (.ireturn, 1) := by decide +kernel
theorem jd_Lifetimes_hasRoom_24 : decode jm_m_Lifetimes_hasRoom.2.1 24 = .ok (.iinc 3 1, 3) := by decide +kernel
theorem jd_Lifetimes_hasRoom_27 : decode jm_m_Lifetimes_hasRoom.2.1 27 = .ok (.goto (-25), 3) := by decide +kernel
theorem jd_Lifetimes_hasRoom_30 : decode jm_m_Lifetimes_hasRoom.2.1 30 = .ok (.iconst 1, 1) := by decide +kernel
theorem jd_Lifetimes_hasRoom_31 : decode jm_m_Lifetimes_hasRoom.2.1 31 = .ok (.ireturn, 1) := by decide +kernel
theorem jd_Lifetimes_count_0 : decode jm_m_Lifetimes_count.2.1 0 = .ok (.iload_n 1, 1) := by decide +kernel
theorem jd_Lifetimes_count_1 : decode jm_m_Lifetimes_count.2.1 1 = .ok (.istore_n 3, 1) := by decide +kernel
theorem jd_Lifetimes_count_2 : decode jm_m_Lifetimes_count.2.1 2 = .ok (.iload_n 3, 1) := by decide +kernel
theorem jd_Lifetimes_count_3 : decode jm_m_Lifetimes_count.2.1 3 = .ok (.aload_n 0, 1) := by decide +kernel
theorem jd_Lifetimes_count_4 : decode jm_m_Lifetimes_count.2.1 4 = .ok (.getfield 9, 3) := by decide +kernel
theorem jd_Lifetimes_count_7 : decode jm_m_Lifetimes_count.2.1 7 = .ok (.iload_n 1, 1) := by decide +kernel
theorem jd_Lifetimes_count_8 : decode jm_m_Lifetimes_count.2.1 8 = .ok (.iaload, 1) := by decide +kernel
theorem jd_Lifetimes_count_9 : decode jm_m_Lifetimes_count.2.1 9 = .ok (.if_icmp .ge 19, 3) := by decide +kernel
theorem jd_Lifetimes_count_12 : decode jm_m_Lifetimes_count.2.1 12 = .ok (.aload_n 0, 1) := by decide +kernel
theorem jd_Lifetimes_count_13 : decode jm_m_Lifetimes_count.2.1 13 = .ok (.getfield 15, 3) := by decide +kernel
theorem jd_Lifetimes_count_16 : decode jm_m_Lifetimes_count.2.1 16 = .ok (.iload_n 3, 1) := by decide +kernel
theorem jd_Lifetimes_count_17 : decode jm_m_Lifetimes_count.2.1 17 = .ok (.dup2, 1) := by decide +kernel
theorem jd_Lifetimes_count_18 : decode jm_m_Lifetimes_count.2.1 18 = .ok (.iaload, 1) := by decide +kernel
theorem jd_Lifetimes_count_19 : decode jm_m_Lifetimes_count.2.1 19 = .ok (.iload_n 2, 1) := by decide +kernel
theorem jd_Lifetimes_count_20 : decode jm_m_Lifetimes_count.2.1 20 = .ok (.iadd, 1) := by decide +kernel
theorem jd_Lifetimes_count_21 : decode jm_m_Lifetimes_count.2.1 21 = .ok (.iastore, 1) := by decide +kernel
theorem jd_Lifetimes_count_22 : decode jm_m_Lifetimes_count.2.1 22 = .ok (.iinc 3 1, 3) := by decide +kernel
theorem jd_Lifetimes_count_25 : decode jm_m_Lifetimes_count.2.1 25 = .ok (.goto (-23), 3) := by decide +kernel
theorem jd_Lifetimes_count_28 : decode jm_m_Lifetimes_count.2.1 28 = .ok (.return_, 1) := by decide +kernel
