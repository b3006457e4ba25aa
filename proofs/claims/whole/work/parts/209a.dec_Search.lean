theorem jd_Search_init_0 : decode jm_m_Search_init.2.1 0 = .ok (.aload_n 0, 1) := by decide +kernel
theorem jd_Search_init_1 : decode jm_m_Search_init.2.1 1 = .ok (.invokespecial 1, 3) := by decide +kernel
theorem jd_Search_init_4 : decode jm_m_Search_init.2.1 4 = .ok (.aload_n 0, 1) := by decide +kernel
theorem jd_Search_init_5 : decode jm_m_Search_init.2.1 5 = .ok (.new 7, 3) := by decide +kernel
theorem jd_Search_init_8 : decode jm_m_Search_init.2.1 8 = .ok (.dup, 1) := by decide +kernel
theorem jd_Search_init_9 : decode jm_m_Search_init.2.1 9 = .ok (.invokespecial 9, 3) := by decide +kernel
theorem jd_Search_init_12 : decode jm_m_Search_init.2.1 12 = .ok (.putfield 10, 3) := by decide +kernel
theorem jd_Search_init_15 : decode jm_m_Search_init.2.1 15 = .ok (.aload_n 0, 1) := by decide +kernel
theorem jd_Search_init_16 : decode jm_m_Search_init.2.1 16 = .ok (.bipush 16, 2) := by decide +kernel
theorem jd_Search_init_18 : decode jm_m_Search_init.2.1 18 = .ok (.newarray .long, 2) := by decide +kernel
theorem jd_Search_init_20 : decode jm_m_Search_init.2.1 20 = .ok (.putfield 16, 3) := by decide +kernel
theorem jd_Search_init_23 : decode jm_m_Search_init.2.1 23 = .ok (.aload_n 0, 1) := by decide +kernel
theorem jd_Search_init_24 : decode jm_m_Search_init.2.1 24 = .ok (.iconst 3, 1) := by decide +kernel
theorem jd_Search_init_25 : decode jm_m_Search_init.2.1 25 = .ok (.iconst 3, 1) := by decide +kernel
theorem jd_Search_init_26 : decode jm_m_Search_init.2.1 26 = .ok (.multianewarray 20 2, 4) := by decide +kernel
theorem jd_Search_init_30 : decode jm_m_Search_init.2.1 30 = .ok (.putfield 22, 3) := by decide +kernel
theorem jd_Search_init_33 : decode jm_m_Search_init.2.1 33 = .ok (.aload_n 0, 1) := by decide +kernel
theorem jd_Search_init_34 : decode jm_m_Search_init.2.1 34 = .ok (.iconst 3, 1) := by decide +kernel
theorem jd_Search_init_35 : decode jm_m_Search_init.2.1 35 = .ok (.newarray .long, 2) := by decide +kernel
theorem jd_Search_init_37 : decode jm_m_Search_init.2.1 37 = .ok (.putfield 25, 3) := by decide +kernel
theorem jd_Search_init_40 : decode jm_m_Search_init.2.1 40 = .ok (.aload_n 0, 1) := by decide +kernel
theorem jd_Search_init_41 : decode jm_m_Search_init.2.1 41 = .ok (.iconst 3, 1) := by decide +kernel
theorem jd_Search_init_42 : decode jm_m_Search_init.2.1 42 = .ok (.newarray .int, 2) := by decide +kernel
theorem jd_Search_init_44 : decode jm_m_Search_init.2.1 44 = .ok (.putfield 28, 3) := by decide +kernel
theorem jd_Search_init_47 : decode jm_m_Search_init.2.1 47 = .ok (.aload_n 0, 1) := by decide +kernel
theorem jd_Search_init_48 : decode jm_m_Search_init.2.1 48 = .ok (.iconst 3, 1) := by decide +kernel
theorem jd_Search_init_49 : decode jm_m_Search_init.2.1 49 = .ok (.newarray .int, 2) := by decide +kernel
theorem jd_Search_init_51 : decode jm_m_Search_init.2.1 51 = .ok (.putfield 32, 3) := by decide +kernel
theorem jd_Search_init_54 : decode jm_m_Search_init.2.1 54 = .ok (.aload_n 0, 1) := by decide +kernel
theorem jd_Search_init_55 : decode jm_m_Search_init.2.1 55 = .ok (.iconst 3, 1) := by decide +kernel
theorem jd_Search_init_56 : decode jm_m_Search_init.2.1 56 = .ok (.newarray .int, 2) := by decide +kernel
theorem jd_Search_init_58 : decode jm_m_Search_init.2.1 58 = .ok (.putfield 35, 3) := by decide +kernel
theorem jd_Search_init_61 : decode jm_m_Search_init.2.1 61 = .ok (.aload_n 0, 1) := by decide +kernel
theorem jd_Search_init_62 : decode jm_m_Search_init.2.1 62 = .ok (.iconst 3, 1) := by decide +kernel
theorem jd_Search_init_63 : decode jm_m_Search_init.2.1 63 = .ok (.newarray .int, 2) := by decide +kernel
theorem jd_Search_init_65 : decode jm_m_Search_init.2.1 65 = .ok (.putfield 38, 3) := by decide +kernel
theorem jd_Search_init_68 : decode jm_m_Search_init.2.1 68 = .ok (.aload_n 0, 1) := by decide +kernel
theorem jd_Search_init_69 : decode jm_m_Search_init.2.1 69 = .ok (.iconst (-1), 1) := by decide +kernel
theorem jd_Search_init_70 : decode jm_m_Search_init.2.1 70 = .ok (.putfield 41, 3) := by decide +kernel
theorem jd_Search_init_73 : decode jm_m_Search_init.2.1 73 = .ok (.aload_n 0, 1) := by decide +kernel
theorem jd_Search_init_74 : decode jm_m_Search_init.2.1 74 = .ok (.iconst (-1), 1) := by decide +kernel
theorem jd_Search_init_75 : decode jm_m_Search_init.2.1 75 = .ok (.putfield 45, 3) := by decide +kernel
theorem jd_Search_init_78 : decode jm_m_Search_init.2.1 78 = .ok (.aload_n 0, 1) := by decide +kernel
theorem jd_Search_init_79 : decode jm_m_Search_init.2.1 79 = .ok (.aload_n 1, 1) := by decide +kernel
theorem jd_Search_init_80 : decode jm_m_Search_init.2.1 80 = .ok (.putfield 48, 3) := by decide +kernel
theorem jd_Search_init_83 : decode jm_m_Search_init.2.1 83 = .ok (.aload_n 0, 1) := by decide +kernel
theorem jd_Search_init_84 : decode jm_m_Search_init.2.1 84 = .ok (.aload_n 2, 1) := by decide +kernel
theorem jd_Search_init_85 : decode jm_m_Search_init.2.1 85 = .ok (.putfield 52, 3) := by decide +kernel
theorem jd_Search_init_88 : decode jm_m_Search_init.2.1 88 = .ok (.return_, 1) := by decide +kernel
theorem jd_Search_codeAt_0 : decode jm_m_Search_codeAt.2.1 0 = .ok (.sipush 1000, 3) := by decide +kernel
theorem jd_Search_codeAt_3 : decode jm_m_Search_codeAt.2.1 3 = .ok (.aload_n 0, 1) := by decide +kernel
theorem jd_Search_codeAt_4 : decode jm_m_Search_codeAt.2.1 4 = .ok (.getfield 28, 3) := by decide +kernel
theorem jd_Search_codeAt_7 : decode jm_m_Search_codeAt.2.1 7 = .ok (.iload_n 1, 1) := by decide +kernel
theorem jd_Search_codeAt_8 : decode jm_m_Search_codeAt.2.1 8 = .ok (.iaload, 1) := by decide +kernel
theorem jd_Search_codeAt_9 : decode jm_m_Search_codeAt.2.1 9 = .ok (.imul, 1) := by decide +kernel
theorem jd_Search_codeAt_10 : decode jm_m_Search_codeAt.2.1 10 = .ok (.bipush 100, 2) := by decide +kernel
theorem jd_Search_codeAt_12 : decode jm_m_Search_codeAt.2.1 12 = .ok (.aload_n 0, 1) := by decide +kernel
theorem jd_Search_codeAt_13 : decode jm_m_Search_codeAt.2.1 13 = .ok (.getfield 32, 3) := by decide +kernel
theorem jd_Search_codeAt_16 : decode jm_m_Search_codeAt.2.1 16 = .ok (.iload_n 1, 1) := by decide +kernel
theorem jd_Search_codeAt_17 : decode jm_m_Search_codeAt.2.1 17 = .ok (.iaload, 1) := by decide +kernel
theorem jd_Search_codeAt_18 : decode jm_m_Search_codeAt.2.1 18 = .ok (.imul, 1) := by decide +kernel
theorem jd_Search_codeAt_19 : decode jm_m_Search_codeAt.2.1 19 = .ok (.iadd, 1) := by decide +kernel
theorem jd_Search_codeAt_20 : decode jm_m_Search_codeAt.2.1 20 = .ok (.bipush 10, 2) := by decide +kernel
theorem jd_Search_codeAt_22 : decode jm_m_Search_codeAt.2.1 22 = .ok (.aload_n 0, 1) := by decide +kernel
theorem jd_Search_codeAt_23 : decode jm_m_Search_codeAt.2.1 23 = .ok (.getfield 35, 3) := by decide +kernel
theorem jd_Search_codeAt_26 : decode jm_m_Search_codeAt.2.1 26 = .ok (.iload_n 1, 1) := by decide +kernel
theorem jd_Search_codeAt_27 : decode jm_m_Search_codeAt.2.1 27 = .ok (.iaload, 1) := by decide +kernel
theorem jd_Search_codeAt_28 : decode jm_m_Search_codeAt.2.1 28 = .ok (.imul, 1) := by decide +kernel
theorem jd_Search_codeAt_29 : decode jm_m_Search_codeAt.2.1 29 = .ok (.iadd, 1) := by decide +kernel
theorem jd_Search_codeAt_30 : decode jm_m_Search_codeAt.2.1 30 = .ok (.aload_n 0, 1) := by decide +kernel
theorem jd_Search_codeAt_31 : decode jm_m_Search_codeAt.2.1 31 = .ok (.getfield 38, 3) := by decide +kernel
theorem jd_Search_codeAt_34 : decode jm_m_Search_codeAt.2.1 34 = .ok (.iload_n 1, 1) := by decide +kernel
theorem jd_Search_codeAt_35 : decode jm_m_Search_codeAt.2.1 35 = .ok (.iaload, 1) := by decide +kernel
theorem jd_Search_codeAt_36 : decode jm_m_Search_codeAt.2.1 36 = .ok (.iadd, 1) := by decide +kernel
theorem jd_Search_codeAt_37 : decode jm_m_Search_codeAt.2.1 37 = .ok (.ireturn, 1) := by decide +kernel
theorem jd_Search_refresh_0 : decode jm_m_Search_refresh.2.1 0 = .ok (.aload_n 0, 1) := by decide +kernel
theorem jd_Search_refresh_1 : decode jm_m_Search_refresh.2.1 1 = .ok (.getfield 56, 3) := by decide +kernel
theorem jd_Search_refresh_4 : decode jm_m_Search_refresh.2.1 4 = .ok (.aload_n 0, 1) := by decide +kernel
theorem jd_Search_refresh_5 : decode jm_m_Search_refresh.2.1 5 = .ok (.getfield 48, 3) := by decide +kernel
theorem jd_Search_refresh_8 : decode jm_m_Search_refresh.2.1 8 = .ok (.getfield 59, 3) := by decide +kernel
theorem jd_Search_refresh_11 : decode jm_m_Search_refresh.2.1 11 = .ok (.if_icmp .eq 77, 3) := by decide +kernel
theorem jd_Search_refresh_14 : decode jm_m_Search_refresh.2.1 14 = .ok (.aload_n 0, 1) := by decide +kernel
theorem jd_Search_refresh_15 : decode jm_m_Search_refresh.2.1 15 = .ok (.aload_n 0, 1) := by decide +kernel
theorem jd_Search_refresh_16 : decode jm_m_Search_refresh.2.1 16 = .ok (.getfield 48, 3) := by decide +kernel
theorem jd_Search_refresh_19 : decode jm_m_Search_refresh.2.1 19 = .ok (.getfield 59, 3) := by decide +kernel
theorem jd_Search_refresh_22 : decode jm_m_Search_refresh.2.1 22 = .ok (.putfield 56, 3) := by decide +kernel
theorem jd_Search_refresh_25 : decode jm_m_Search_refresh.2.1 25 = .ok (.aload_n 0, 1) := by decide +kernel
theorem jd_Search_refresh_26 : decode jm_m_Search_refresh.2.1 26 = .ok (.iconst (-1), 1) := by decide +kernel
theorem jd_Search_refresh_27 : decode jm_m_Search_refresh.2.1 27 = .ok (.putfield 41, 3) := by decide +kernel
theorem jd_Search_refresh_30 : decode jm_m_Search_refresh.2.1 30 = .ok (.aload_n 0, 1) := by decide +kernel
theorem jd_Search_refresh_31 : decode jm_m_Search_refresh.2.1 31 = .ok (.iconst (-1), 1) := by decide +kernel
theorem jd_Search_refresh_32 : decode jm_m_Search_refresh.2.1 32 = .ok (.putfield 45, 3) := by decide +kernel
theorem jd_Search_refresh_35 : decode jm_m_Search_refresh.2.1 35 = .ok (.aload_n 0, 1) := by decide +kernel
theorem jd_Search_refresh_36 : decode jm_m_Search_refresh.2.1 36 = .ok (.getfield 22, 3) := by decide +kernel
theorem jd_Search_refresh_39 : decode jm_m_Search_refresh.2.1 39 = .ok (.iconst 0, 1) := by decide +kernel
theorem jd_Search_refresh_40 : decode jm_m_Search_refresh.2.1 40 = .ok (.aaload, 1) := by decide +kernel
theorem jd_Search_refresh_41 : decode jm_m_Search_refresh.2.1 41 = .ok (.iconst 0, 1) := by decide +kernel
theorem jd_Search_refresh_42 : decode jm_m_Search_refresh.2.1 42 = .ok (.invokestatic 62, 3) := by decide +kernel
theorem jd_Search_refresh_45 : decode jm_m_Search_refresh.2.1 45 = .ok (.iconst 0, 1) := by decide +kernel
theorem jd_Search_refresh_46 : decode jm_m_Search_refresh.2.1 46 = .ok (.istore_n 2, 1) := by decide +kernel
theorem jd_Search_refresh_47 : decode jm_m_Search_refresh.2.1 47 = .ok (.iload_n 2, 1) := by decide +kernel
theorem jd_Search_refresh_48 : decode jm_m_Search_refresh.2.1 48 = .ok (.bipush 16, 2) := by decide +kernel
theorem jd_Search_refresh_50 : decode jm_m_Search_refresh.2.1 50 = .ok (.if_icmp .ge 38, 3) := by decide +kernel
theorem jd_Search_refresh_53 : decode jm_m_Search_refresh.2.1 53 = .ok (.aload_n 0, 1) := by decide +kernel
theorem jd_Search_refresh_54 : decode jm_m_Search_refresh.2.1 54 = .ok (.getfield 52, 3) := by decide +kernel
theorem jd_Search_refresh_57 : decode jm_m_Search_refresh.2.1 57 = .ok (.ldc2_w 66, 3) := by decide +kernel
theorem jd_Search_refresh_60 : decode jm_m_Search_refresh.2.1 60 = .ok (.iload_n 2, 1) := by decide +kernel
theorem jd_Search_refresh_61 : decode jm_m_Search_refresh.2.1 61 = .ok (.invokestatic 68, 3) := by decide +kernel
theorem jd_Search_refresh_64 : decode jm_m_Search_refresh.2.1 64 = .ok (.invokevirtual 72, 3) := by decide +kernel
theorem jd_Search_refresh_67 : decode jm_m_Search_refresh.2.1 67 = .ok (.aload_n 0, 1) := by decide +kernel
theorem jd_Search_refresh_68 : decode jm_m_Search_refresh.2.1 68 = .ok (.getfield 16, 3) := by decide +kernel
theorem jd_Search_refresh_71 : decode jm_m_Search_refresh.2.1 71 = .ok (.iload_n 2, 1) := by decide +kernel
theorem jd_Search_refresh_72 : decode jm_m_Search_refresh.2.1 72 = .ok (.aload_n 0, 1) := by decide +kernel
theorem jd_Search_refresh_73 : decode jm_m_Search_refresh.2.1 73 = .ok (.getfield 52, 3) := by decide +kernel
theorem jd_Search_refresh_76 : decode jm_m_Search_refresh.2.1 76 = .ok (.getfield 78, 3) := by decide +kernel
theorem jd_Search_refresh_79 : decode jm_m_Search_refresh.2.1 79 = .ok (.iconst 0, 1) := by decide +kernel
theorem jd_Search_refresh_80 : decode jm_m_Search_refresh.2.1 80 = .ok (.laload, 1) := by decide +kernel
theorem jd_Search_refresh_81 : decode jm_m_Search_refresh.2.1 81 = .ok (.lastore, 1) := by decide +kernel
theorem jd_Search_refresh_82 : decode jm_m_Search_refresh.2.1 82 = .ok (.iinc 2 1, 3) := by decide +kernel
theorem jd_Search_refresh_85 : decode jm_m_Search_refresh.2.1 85 = .ok (.goto (-38), 3) := by decide +kernel
theorem jd_Search_refresh_88 : decode jm_m_Search_refresh.2.1 88 = .ok (.aload_n 0, 1) := by decide +kernel
theorem jd_Search_refresh_89 : decode jm_m_Search_refresh.2.1 89 = .ok (.getfield 41, 3) := by decide +kernel
theorem jd_Search_refresh_92 : decode jm_m_Search_refresh.2.1 92 = .ok (.ifCond .ge 71, 3) := by decide +kernel
theorem jd_Search_refresh_95 : decode jm_m_Search_refresh.2.1 95 = .ok (.aload_n 0, 1) := by decide +kernel
theorem jd_Search_refresh_96 : decode jm_m_Search_refresh.2.1 96 = .ok (.getfield 45, 3) := by decide +kernel
theorem jd_Search_refresh_99 : decode jm_m_Search_refresh.2.1 99 = .ok (.iload_n 1, 1) := by decide +kernel
theorem jd_Search_refresh_100 : decode jm_m_Search_refresh.2.1 100 = .ok (.if_icmp .ge 63, 3) := by decide +kernel
theorem jd_Search_refresh_103 : decode jm_m_Search_refresh.2.1 103 = .ok (.aload_n 0, 1) := by decide +kernel
theorem jd_Search_refresh_104 : decode jm_m_Search_refresh.2.1 104 = .ok (.getfield 45, 3) := by decide +kernel
theorem jd_Search_refresh_107 : decode jm_m_Search_refresh.2.1 107 = .ok (.iconst 3, 1) := by decide +kernel
theorem jd_Search_refresh_108 : decode jm_m_Search_refresh.2.1 108 = .ok (.if_icmp .ge 55, 3) := by decide +kernel
theorem jd_Search_refresh_111 : decode jm_m_Search_refresh.2.1 111 = .ok (.aload_n 0, 1) := by decide +kernel
theorem jd_Search_refresh_112 : decode jm_m_Search_refresh.2.1 112 = .ok (.dup, 1) := by decide +kernel
theorem jd_Search_refresh_113 : decode jm_m_Search_refresh.2.1 113 = .ok (.getfield 45, 3) := by decide +kernel
theorem jd_Search_refresh_116 : decode jm_m_Search_refresh.2.1 116 = .ok (.iconst 1, 1) := by decide +kernel
theorem jd_Search_refresh_117 : decode jm_m_Search_refresh.2.1 117 = .ok (.iadd, 1) := by decide +kernel
theorem jd_Search_refresh_118 : decode jm_m_Search_refresh.2.1 118 = .ok (.putfield 45, 3) := by decide +kernel
theorem jd_Search_refresh_121 : decode jm_m_Search_refresh.2.1 121 = .ok (.aload_n 0, 1) := by decide +kernel
theorem jd_Search_refresh_122 : decode jm_m_Search_refresh.2.1 122 = .ok (.getfield 45, 3) := by decide +kernel
theorem jd_Search_refresh_125 : decode jm_m_Search_refresh.2.1 125 = .ok (.ifCond .ne 14, 3) := by decide +kernel
theorem jd_Search_refresh_128 : decode jm_m_Search_refresh.2.1 128 = .ok (.aload_n 0, 1) := by decide +kernel
theorem jd_Search_refresh_129 : decode jm_m_Search_refresh.2.1 129 = .ok (.iconst 0, 1) := by decide +kernel
theorem jd_Search_refresh_130 : decode jm_m_Search_refresh.2.1 130 = .ok (.invokevirtual 81, 3) := by decide +kernel
theorem jd_Search_refresh_133 : decode jm_m_Search_refresh.2.1 133 = .ok (.ifCond .eq (-45), 3) := by decide +kernel
theorem jd_Search_refresh_136 : decode jm_m_Search_refresh.2.1 136 = .ok (.goto 16, 3) := by decide +kernel
theorem jd_Search_refresh_139 : decode jm_m_Search_refresh.2.1 139 = .ok (.aload_n 0, 1) := by decide +kernel
theorem jd_Search_refresh_140 : decode jm_m_Search_refresh.2.1 140 = .ok (.iconst 0, 1) := by decide +kernel
theorem jd_Search_refresh_141 : decode jm_m_Search_refresh.2.1 141 = .ok (.aload_n 0, 1) := by decide +kernel
theorem jd_Search_refresh_142 : decode jm_m_Search_refresh.2.1 142 = .ok (.getfield 45, 3) := by decide +kernel
theorem jd_Search_refresh_145 : decode jm_m_Search_refresh.2.1 145 = .ok (.iconst 0, 1) := by decide +kernel
theorem jd_Search_refresh_146 : decode jm_m_Search_refresh.2.1 146 = .ok (.invokevirtual 85, 3) := by decide +kernel
theorem jd_Search_refresh_149 : decode jm_m_Search_refresh.2.1 149 = .ok (.ifCond .eq (-61), 3) := by decide +kernel
theorem jd_Search_refresh_152 : decode jm_m_Search_refresh.2.1 152 = .ok (.aload_n 0, 1) := by decide +kernel
theorem jd_Search_refresh_153 : decode jm_m_Search_refresh.2.1 153 = .ok (.aload_n 0, 1) := by decide +kernel
theorem jd_Search_refresh_154 : decode jm_m_Search_refresh.2.1 154 = .ok (.getfield 45, 3) := by decide +kernel
theorem jd_Search_refresh_157 : decode jm_m_Search_refresh.2.1 157 = .ok (.putfield 41, 3) := by decide +kernel
theorem jd_Search_refresh_160 : decode jm_m_Search_refresh.2.1 160 = .ok (.goto (-72), 3) := by decide +kernel
theorem jd_Search_refresh_163 : decode jm_m_Search_refresh.2.1 163 = .ok (.return_, 1) := by decide +kernel
theorem jd_Search_wordsOfB_0 : decode jm_m_Search_wordsOfB.2.1 0 = .ok (.ldc2_w 89, 3) := by decide +kernel
theorem jd_Search_wordsOfB_3 : decode jm_m_Search_wordsOfB.2.1 3 = .ok (.iload_n 0, 1) := by decide +kernel
theorem jd_Search_wordsOfB_4 : decode jm_m_Search_wordsOfB.2.1 4 = .ok (.i2l, 1) := by decide +kernel
theorem jd_Search_wordsOfB_5 : decode jm_m_Search_wordsOfB.2.1 5 = .ok (.ldc2_w 91, 3) := by decide +kernel
theorem jd_Search_wordsOfB_8 : decode jm_m_Search_wordsOfB.2.1 8 = .ok (.lmul, 1) := by decide +kernel
theorem jd_Search_wordsOfB_9 : decode jm_m_Search_wordsOfB.2.1 9 = .ok (.lxor, 1) := by decide +kernel
theorem jd_Search_wordsOfB_10 : decode jm_m_Search_wordsOfB.2.1 10 = .ok (.lreturn, 1) := by decide +kernel
theorem jd_Search_begin_0 : decode jm_m_Search_begin.2.1 0 = .ok (.aload_n 0, 1) := by decide +kernel
theorem jd_Search_begin_1 : decode jm_m_Search_begin.2.1 1 = .ok (.iconst 0, 1) := by decide +kernel
theorem jd_Search_begin_2 : decode jm_m_Search_begin.2.1 2 = .ok (.ldc2_w 66, 3) := by decide +kernel
theorem jd_Search_begin_5 : decode jm_m_Search_begin.2.1 5 = .ok (.lastore, 1) := by decide +kernel
theorem jd_Search_begin_6 : decode jm_m_Search_begin.2.1 6 = .ok (.aload_n 0, 1) := by decide +kernel
theorem jd_Search_begin_7 : decode jm_m_Search_begin.2.1 7 = .ok (.iconst 1, 1) := by decide +kernel
theorem jd_Search_begin_8 : decode jm_m_Search_begin.2.1 8 = .ok (.iload_n 1, 1) := by decide +kernel
theorem jd_Search_begin_9 : decode jm_m_Search_begin.2.1 9 = .ok (.invokestatic 68, 3) := by decide +kernel
theorem jd_Search_begin_12 : decode jm_m_Search_begin.2.1 12 = .ok (.lastore, 1) := by decide +kernel
theorem jd_Search_begin_13 : decode jm_m_Search_begin.2.1 13 = .ok (.aload_n 0, 1) := by decide +kernel
theorem jd_Search_begin_14 : decode jm_m_Search_begin.2.1 14 = .ok (.iconst 2, 1) := by decide +kernel
theorem jd_Search_begin_15 : decode jm_m_Search_begin.2.1 15 = .ok (.lconst 0, 1) := by decide +kernel
theorem jd_Search_begin_16 : decode jm_m_Search_begin.2.1 16 = .ok (.lastore, 1) := by decide +kernel
theorem jd_Search_begin_17 : decode jm_m_Search_begin.2.1 17 = .ok (.return_, 1) := by decide +kernel
theorem jd_Search_find_0 : decode jm_m_Search_find.2.1 0 = .ok (.iload_n 2, 1) := by decide +kernel
theorem jd_Search_find_1 : decode jm_m_Search_find.2.1 1 = .ok (.iconst 1, 1) := by decide +kernel
theorem jd_Search_find_2 : decode jm_m_Search_find.2.1 2 = .ok (.isub, 1) := by decide +kernel
theorem jd_Search_find_3 : decode jm_m_Search_find.2.1 3 = .ok (.istore 4, 2) := by decide +kernel
theorem jd_Search_find_5 : decode jm_m_Search_find.2.1 5 = .ok (.iload_n 1, 1) := by decide +kernel
theorem jd_Search_find_6 : decode jm_m_Search_find.2.1 6 = .ok (.iload 4, 2) := by decide +kernel
theorem jd_Search_find_8 : decode jm_m_Search_find.2.1 8 = .ok (.if_icmp .le 5, 3) := by decide +kernel
theorem jd_Search_find_11 : decode jm_m_Search_find.2.1 11 = .ok (.iconst 0, 1) := by decide +kernel
theorem jd_Search_find_12 : decode jm_m_Search_find.2.1 12 = .ok (.ireturn, 1) := by decide +kernel
theorem jd_Search_find_13 : decode jm_m_Search_find.2.1 13 = .ok (.iload_n 1, 1) := by decide +kernel
theorem jd_Search_find_14 : decode jm_m_Search_find.2.1 14 = .ok (.iload 4, 2) := by decide +kernel
theorem jd_Search_find_16 : decode jm_m_Search_find.2.1 16 = .ok (.if_icmp .ne 7, 3) := by decide +kernel
theorem jd_Search_find_19 : decode jm_m_Search_find.2.1 19 = .ok (.iconst 1, 1) := by decide +kernel
theorem jd_Search_find_20 : decode jm_m_Search_find.2.1 20 = .ok (.goto 4, 3) := by decide +kernel
theorem jd_Search_find_23 : decode jm_m_Search_find.2.1 23 = .ok (.iconst 3, 1) := by decide +kernel
theorem jd_Search_find_24 : decode jm_m_Search_find.2.1 24 = .ok (.istore 5, 2) := by decide +kernel
theorem jd_Search_find_26 : decode jm_m_Search_find.2.1 26 = .ok (.iconst 0, 1) := by decide +kernel
theorem jd_Search_find_27 : decode jm_m_Search_find.2.1 27 = .ok (.istore 6, 2) := by decide +kernel
theorem jd_Search_find_29 : decode jm_m_Search_find.2.1 29 = .ok (.iload 6, 2) := by decide +kernel
theorem jd_Search_find_31 : decode jm_m_Search_find.2.1 31 = .ok (.bipush 7, 2) := by decide +kernel
theorem jd_Search_find_33 : decode jm_m_Search_find.2.1 33 = .ok (.if_icmp .ge 74, 3) := by decide +kernel
theorem jd_Search_find_36 : decode jm_m_Search_find.2.1 36 = .ok (.iconst 0, 1) := by decide +kernel
theorem jd_Search_find_37 : decode jm_m_Search_find.2.1 37 = .ok (.istore 7, 2) := by decide +kernel
theorem jd_Search_find_39 : decode jm_m_Search_find.2.1 39 = .ok (.iload 7, 2) := by decide +kernel
theorem jd_Search_find_41 : decode jm_m_Search_find.2.1 41 = .ok (.iload 5, 2) := by decide +kernel
theorem jd_Search_find_43 : decode jm_m_Search_find.2.1 43 = .ok (.if_icmp .ge 58, 3) := by decide +kernel
theorem jd_Search_find_46 : decode jm_m_Search_find.2.1 46 = .ok (.aload_n 0, 1) := by decide +kernel
theorem jd_Search_find_47 : decode jm_m_Search_find.2.1 47 = .ok (.getfield 28, 3) := by decide +kernel
theorem jd_Search_find_50 : decode jm_m_Search_find.2.1 50 = .ok (.iload_n 1, 1) := by decide +kernel
theorem jd_Search_find_51 : decode jm_m_Search_find.2.1 51 = .ok (.iload 6, 2) := by decide +kernel
theorem jd_Search_find_53 : decode jm_m_Search_find.2.1 53 = .ok (.iastore, 1) := by decide +kernel
theorem jd_Search_find_54 : decode jm_m_Search_find.2.1 54 = .ok (.aload_n 0, 1) := by decide +kernel
theorem jd_Search_find_55 : decode jm_m_Search_find.2.1 55 = .ok (.getfield 32, 3) := by decide +kernel
theorem jd_Search_find_58 : decode jm_m_Search_find.2.1 58 = .ok (.iload_n 1, 1) := by decide +kernel
theorem jd_Search_find_59 : decode jm_m_Search_find.2.1 59 = .ok (.iload 7, 2) := by decide +kernel
theorem jd_Search_find_61 : decode jm_m_Search_find.2.1 61 = .ok (.iastore, 1) := by decide +kernel
theorem jd_Search_find_62 : decode jm_m_Search_find.2.1 62 = .ok (.iload_n 1, 1) := by decide +kernel
theorem jd_Search_find_63 : decode jm_m_Search_find.2.1 63 = .ok (.iload 4, 2) := by decide +kernel
theorem jd_Search_find_65 : decode jm_m_Search_find.2.1 65 = .ok (.if_icmp .ne 14, 3) := by decide +kernel
theorem jd_Search_find_68 : decode jm_m_Search_find.2.1 68 = .ok (.aload_n 0, 1) := by decide +kernel
theorem jd_Search_find_69 : decode jm_m_Search_find.2.1 69 = .ok (.iload 6, 2) := by decide +kernel
theorem jd_Search_find_71 : decode jm_m_Search_find.2.1 71 = .ok (.iload_n 2, 1) := by decide +kernel
theorem jd_Search_find_72 : decode jm_m_Search_find.2.1 72 = .ok (.iload_n 3, 1) := by decide +kernel
theorem jd_Search_find_73 : decode jm_m_Search_find.2.1 73 = .ok (.invokevirtual 93, 3) := by decide +kernel
theorem jd_Search_find_76 : decode jm_m_Search_find.2.1 76 = .ok (.goto 10, 3) := by decide +kernel
theorem jd_Search_find_79 : decode jm_m_Search_find.2.1 79 = .ok (.aload_n 0, 1) := by decide +kernel
theorem jd_Search_find_80 : decode jm_m_Search_find.2.1 80 = .ok (.iload_n 1, 1) := by decide +kernel
theorem jd_Search_find_81 : decode jm_m_Search_find.2.1 81 = .ok (.iload_n 2, 1) := by decide +kernel
theorem jd_Search_find_82 : decode jm_m_Search_find.2.1 82 = .ok (.iload_n 3, 1) := by decide +kernel
theorem jd_Search_find_83 : decode jm_m_Search_find.2.1 83 = .ok (.invokevirtual 96, 3) := by decide +kernel
theorem jd_Search_find_86 : decode jm_m_Search_find.2.1 86 = .ok (.istore 8, 2) := by decide +kernel
theorem jd_Search_find_88 : decode jm_m_Search_find.2.1 88 = .ok (.iload 8, 2) := by decide +kernel
theorem jd_Search_find_90 : decode jm_m_Search_find.2.1 90 = .ok (.ifCond .eq 5, 3) := by decide +kernel
theorem jd_Search_find_93 : decode jm_m_Search_find.2.1 93 = .ok (.iconst 1, 1) := by decide +kernel
theorem jd_Search_find_94 : decode jm_m_Search_find.2.1 94 = .ok (.ireturn, 1) := by decide +kernel
theorem jd_Search_find_95 : decode jm_m_Search_find.2.1 95 = .ok (.iinc 7 1, 3) := by decide +kernel
theorem jd_Search_find_98 : decode jm_m_Search_find.2.1 98 = .ok (.goto (-59), 3) := by decide +kernel
theorem jd_Search_find_101 : decode jm_m_Search_find.2.1 101 = .ok (.iinc 6 1, 3) := by decide +kernel
theorem jd_Search_find_104 : decode jm_m_Search_find.2.1 104 = .ok (.goto (-75), 3) := by decide +kernel
theorem jd_Search_find_107 : decode jm_m_Search_find.2.1 107 = .ok (.iconst 0, 1) := by decide +kernel
theorem jd_Search_find_108 : decode jm_m_Search_find.2.1 108 = .ok (.ireturn, 1) := by decide +kernel
theorem jd_Search_goesOn_0 : decode jm_m_Search_goesOn.2.1 0 = .ok (.aload_n 0, 1) := by decide +kernel
theorem jd_Search_goesOn_1 : decode jm_m_Search_goesOn.2.1 1 = .ok (.getfield 32, 3) := by decide +kernel
theorem jd_Search_goesOn_4 : decode jm_m_Search_goesOn.2.1 4 = .ok (.iload_n 1, 1) := by decide +kernel
theorem jd_Search_goesOn_5 : decode jm_m_Search_goesOn.2.1 5 = .ok (.iaload, 1) := by decide +kernel
theorem jd_Search_goesOn_6 : decode jm_m_Search_goesOn.2.1 6 = .ok (.istore 4, 2) := by decide +kernel
theorem jd_Search_goesOn_8 : decode jm_m_Search_goesOn.2.1 8 = .ok (.aload_n 0, 1) := by decide +kernel
theorem jd_Search_goesOn_9 : decode jm_m_Search_goesOn.2.1 9 = .ok (.getfield 10, 3) := by decide +kernel
theorem jd_Search_goesOn_12 : decode jm_m_Search_goesOn.2.1 12 = .ok (.getfield 99, 3) := by decide +kernel
theorem jd_Search_goesOn_15 : decode jm_m_Search_goesOn.2.1 15 = .ok (.aload_n 0, 1) := by decide +kernel
theorem jd_Search_goesOn_16 : decode jm_m_Search_goesOn.2.1 16 = .ok (.getfield 28, 3) := by decide +kernel
theorem jd_Search_goesOn_19 : decode jm_m_Search_goesOn.2.1 19 = .ok (.iload_n 1, 1) := by decide +kernel
theorem jd_Search_goesOn_20 : decode jm_m_Search_goesOn.2.1 20 = .ok (.iaload, 1) := by decide +kernel
theorem jd_Search_goesOn_21 : decode jm_m_Search_goesOn.2.1 21 = .ok (.iconst 1, 1) := by decide +kernel
theorem jd_Search_goesOn_22 : decode jm_m_Search_goesOn.2.1 22 = .ok (.iadd, 1) := by decide +kernel
theorem jd_Search_goesOn_23 : decode jm_m_Search_goesOn.2.1 23 = .ok (.iaload, 1) := by decide +kernel
theorem jd_Search_goesOn_24 : decode jm_m_Search_goesOn.2.1 24 = .ok (.istore 5, 2) := by decide +kernel
theorem jd_Search_goesOn_26 : decode jm_m_Search_goesOn.2.1 26 = .ok (.aload_n 0, 1) := by decide +kernel
theorem jd_Search_goesOn_27 : decode jm_m_Search_goesOn.2.1 27 = .ok (.getfield 10, 3) := by decide +kernel
theorem jd_Search_goesOn_30 : decode jm_m_Search_goesOn.2.1 30 = .ok (.getfield 99, 3) := by decide +kernel
theorem jd_Search_goesOn_33 : decode jm_m_Search_goesOn.2.1 33 = .ok (.aload_n 0, 1) := by decide +kernel
theorem jd_Search_goesOn_34 : decode jm_m_Search_goesOn.2.1 34 = .ok (.getfield 28, 3) := by decide +kernel
theorem jd_Search_goesOn_37 : decode jm_m_Search_goesOn.2.1 37 = .ok (.iload_n 1, 1) := by decide +kernel
theorem jd_Search_goesOn_38 : decode jm_m_Search_goesOn.2.1 38 = .ok (.iaload, 1) := by decide +kernel
theorem jd_Search_goesOn_39 : decode jm_m_Search_goesOn.2.1 39 = .ok (.iaload, 1) := by decide +kernel
theorem jd_Search_goesOn_40 : decode jm_m_Search_goesOn.2.1 40 = .ok (.istore 6, 2) := by decide +kernel
theorem jd_Search_goesOn_42 : decode jm_m_Search_goesOn.2.1 42 = .ok (.iload 6, 2) := by decide +kernel
theorem jd_Search_goesOn_44 : decode jm_m_Search_goesOn.2.1 44 = .ok (.iload 5, 2) := by decide +kernel
theorem jd_Search_goesOn_46 : decode jm_m_Search_goesOn.2.1 46 = .ok (.if_icmp .ge 173, 3) := by decide +kernel
theorem jd_Search_goesOn_49 : decode jm_m_Search_goesOn.2.1 49 = .ok (.iload_n 3, 1) := by decide +kernel
theorem jd_Search_goesOn_50 : decode jm_m_Search_goesOn.2.1 50 = .ok (.aload_n 0, 1) := by decide +kernel
theorem jd_Search_goesOn_51 : decode jm_m_Search_goesOn.2.1 51 = .ok (.getfield 10, 3) := by decide +kernel
theorem jd_Search_goesOn_54 : decode jm_m_Search_goesOn.2.1 54 = .ok (.getfield 101, 3) := by decide +kernel
theorem jd_Search_goesOn_57 : decode jm_m_Search_goesOn.2.1 57 = .ok (.iload 6, 2) := by decide +kernel
theorem jd_Search_goesOn_59 : decode jm_m_Search_goesOn.2.1 59 = .ok (.iaload, 1) := by decide +kernel
theorem jd_Search_goesOn_60 : decode jm_m_Search_goesOn.2.1 60 = .ok (.iconst (-1), 1) := by decide +kernel
theorem jd_Search_goesOn_61 : decode jm_m_Search_goesOn.2.1 61 = .ok (.ixor, 1) := by decide +kernel
theorem jd_Search_goesOn_62 : decode jm_m_Search_goesOn.2.1 62 = .ok (.iand, 1) := by decide +kernel
theorem jd_Search_goesOn_63 : decode jm_m_Search_goesOn.2.1 63 = .ok (.istore 7, 2) := by decide +kernel
theorem jd_Search_goesOn_65 : decode jm_m_Search_goesOn.2.1 65 = .ok (.iload_n 1, 1) := by decide +kernel
theorem jd_Search_goesOn_66 : decode jm_m_Search_goesOn.2.1 66 = .ok (.ifCond .ne 16, 3) := by decide +kernel
theorem jd_Search_goesOn_69 : decode jm_m_Search_goesOn.2.1 69 = .ok (.aload_n 0, 1) := by decide +kernel
theorem jd_Search_goesOn_70 : decode jm_m_Search_goesOn.2.1 70 = .ok (.getfield 10, 3) := by decide +kernel
theorem jd_Search_goesOn_73 : decode jm_m_Search_goesOn.2.1 73 = .ok (.getfield 104, 3) := by decide +kernel
theorem jd_Search_goesOn_76 : decode jm_m_Search_goesOn.2.1 76 = .ok (.iload 6, 2) := by decide +kernel
theorem jd_Search_goesOn_78 : decode jm_m_Search_goesOn.2.1 78 = .ok (.baload, 1) := by decide +kernel
theorem jd_Search_goesOn_79 : decode jm_m_Search_goesOn.2.1 79 = .ok (.ifCond .eq 134, 3) := by decide +kernel
theorem jd_Search_goesOn_82 : decode jm_m_Search_goesOn.2.1 82 = .ok (.iload 7, 2) := by decide +kernel
theorem jd_Search_goesOn_84 : decode jm_m_Search_goesOn.2.1 84 = .ok (.iload 4, 2) := by decide +kernel
theorem jd_Search_goesOn_86 : decode jm_m_Search_goesOn.2.1 86 = .ok (.ishr, 1) := by decide +kernel
theorem jd_Search_goesOn_87 : decode jm_m_Search_goesOn.2.1 87 = .ok (.iconst 1, 1) := by decide +kernel
theorem jd_Search_goesOn_88 : decode jm_m_Search_goesOn.2.1 88 = .ok (.iand, 1) := by decide +kernel
theorem jd_Search_goesOn_89 : decode jm_m_Search_goesOn.2.1 89 = .ok (.ifCond .eq 6, 3) := by decide +kernel
theorem jd_Search_goesOn_92 : decode jm_m_Search_goesOn.2.1 92 = .ok (.goto 121, 3) := by decide +kernel
theorem jd_Search_goesOn_95 : decode jm_m_Search_goesOn.2.1 95 = .ok (.aload_n 0, 1) := by decide +kernel
theorem jd_Search_goesOn_96 : decode jm_m_Search_goesOn.2.1 96 = .ok (.getfield 35, 3) := by decide +kernel
theorem jd_Search_goesOn_99 : decode jm_m_Search_goesOn.2.1 99 = .ok (.iload_n 1, 1) := by decide +kernel
theorem jd_Search_goesOn_100 : decode jm_m_Search_goesOn.2.1 100 = .ok (.aload_n 0, 1) := by decide +kernel
theorem jd_Search_goesOn_101 : decode jm_m_Search_goesOn.2.1 101 = .ok (.getfield 10, 3) := by decide +kernel
theorem jd_Search_goesOn_104 : decode jm_m_Search_goesOn.2.1 104 = .ok (.getfield 108, 3) := by decide +kernel
theorem jd_Search_goesOn_107 : decode jm_m_Search_goesOn.2.1 107 = .ok (.iload 6, 2) := by decide +kernel
theorem jd_Search_goesOn_109 : decode jm_m_Search_goesOn.2.1 109 = .ok (.iaload, 1) := by decide +kernel
theorem jd_Search_goesOn_110 : decode jm_m_Search_goesOn.2.1 110 = .ok (.iastore, 1) := by decide +kernel
theorem jd_Search_goesOn_111 : decode jm_m_Search_goesOn.2.1 111 = .ok (.aload_n 0, 1) := by decide +kernel
theorem jd_Search_goesOn_112 : decode jm_m_Search_goesOn.2.1 112 = .ok (.getfield 38, 3) := by decide +kernel
theorem jd_Search_goesOn_115 : decode jm_m_Search_goesOn.2.1 115 = .ok (.iload_n 1, 1) := by decide +kernel
theorem jd_Search_goesOn_116 : decode jm_m_Search_goesOn.2.1 116 = .ok (.aload_n 0, 1) := by decide +kernel
theorem jd_Search_goesOn_117 : decode jm_m_Search_goesOn.2.1 117 = .ok (.getfield 10, 3) := by decide +kernel
theorem jd_Search_goesOn_120 : decode jm_m_Search_goesOn.2.1 120 = .ok (.getfield 109, 3) := by decide +kernel
theorem jd_Search_goesOn_123 : decode jm_m_Search_goesOn.2.1 123 = .ok (.iload 6, 2) := by decide +kernel
theorem jd_Search_goesOn_125 : decode jm_m_Search_goesOn.2.1 125 = .ok (.iaload, 1) := by decide +kernel
theorem jd_Search_goesOn_126 : decode jm_m_Search_goesOn.2.1 126 = .ok (.iastore, 1) := by decide +kernel
theorem jd_Search_goesOn_127 : decode jm_m_Search_goesOn.2.1 127 = .ok (.aload_n 0, 1) := by decide +kernel
theorem jd_Search_goesOn_128 : decode jm_m_Search_goesOn.2.1 128 = .ok (.getfield 22, 3) := by decide +kernel
theorem jd_Search_goesOn_131 : decode jm_m_Search_goesOn.2.1 131 = .ok (.iload_n 1, 1) := by decide +kernel
theorem jd_Search_goesOn_132 : decode jm_m_Search_goesOn.2.1 132 = .ok (.aaload, 1) := by decide +kernel
theorem jd_Search_goesOn_133 : decode jm_m_Search_goesOn.2.1 133 = .ok (.iconst 0, 1) := by decide +kernel
theorem jd_Search_goesOn_134 : decode jm_m_Search_goesOn.2.1 134 = .ok (.aload_n 0, 1) := by decide +kernel
theorem jd_Search_goesOn_135 : decode jm_m_Search_goesOn.2.1 135 = .ok (.getfield 22, 3) := by decide +kernel
theorem jd_Search_goesOn_138 : decode jm_m_Search_goesOn.2.1 138 = .ok (.iload_n 1, 1) := by decide +kernel
theorem jd_Search_goesOn_139 : decode jm_m_Search_goesOn.2.1 139 = .ok (.iconst 1, 1) := by decide +kernel
theorem jd_Search_goesOn_140 : decode jm_m_Search_goesOn.2.1 140 = .ok (.iadd, 1) := by decide +kernel
theorem jd_Search_goesOn_141 : decode jm_m_Search_goesOn.2.1 141 = .ok (.aaload, 1) := by decide +kernel
theorem jd_Search_goesOn_142 : decode jm_m_Search_goesOn.2.1 142 = .ok (.iconst 0, 1) := by decide +kernel
theorem jd_Search_goesOn_143 : decode jm_m_Search_goesOn.2.1 143 = .ok (.iconst 3, 1) := by decide +kernel
theorem jd_Search_goesOn_144 : decode jm_m_Search_goesOn.2.1 144 = .ok (.invokestatic 110, 3) := by decide +kernel
theorem jd_Search_goesOn_147 : decode jm_m_Search_goesOn.2.1 147 = .ok (.aload_n 0, 1) := by decide +kernel
theorem jd_Search_goesOn_148 : decode jm_m_Search_goesOn.2.1 148 = .ok (.getfield 22, 3) := by decide +kernel
theorem jd_Search_goesOn_151 : decode jm_m_Search_goesOn.2.1 151 = .ok (.iload_n 1, 1) := by decide +kernel
theorem jd_Search_goesOn_152 : decode jm_m_Search_goesOn.2.1 152 = .ok (.iconst 1, 1) := by decide +kernel
theorem jd_Search_goesOn_153 : decode jm_m_Search_goesOn.2.1 153 = .ok (.iadd, 1) := by decide +kernel
theorem jd_Search_goesOn_154 : decode jm_m_Search_goesOn.2.1 154 = .ok (.aaload, 1) := by decide +kernel
theorem jd_Search_goesOn_155 : decode jm_m_Search_goesOn.2.1 155 = .ok (.iload 4, 2) := by decide +kernel
theorem jd_Search_goesOn_157 : decode jm_m_Search_goesOn.2.1 157 = .ok (.aload_n 0, 1) := by decide +kernel
theorem jd_Search_goesOn_158 : decode jm_m_Search_goesOn.2.1 158 = .ok (.getfield 28, 3) := by decide +kernel
theorem jd_Search_goesOn_161 : decode jm_m_Search_goesOn.2.1 161 = .ok (.iload_n 1, 1) := by decide +kernel
theorem jd_Search_goesOn_162 : decode jm_m_Search_goesOn.2.1 162 = .ok (.iaload, 1) := by decide +kernel
theorem jd_Search_goesOn_163 : decode jm_m_Search_goesOn.2.1 163 = .ok (.aload_n 0, 1) := by decide +kernel
theorem jd_Search_goesOn_164 : decode jm_m_Search_goesOn.2.1 164 = .ok (.getfield 22, 3) := by decide +kernel
theorem jd_Search_goesOn_167 : decode jm_m_Search_goesOn.2.1 167 = .ok (.iload_n 1, 1) := by decide +kernel
theorem jd_Search_goesOn_168 : decode jm_m_Search_goesOn.2.1 168 = .ok (.aaload, 1) := by decide +kernel
theorem jd_Search_goesOn_169 : decode jm_m_Search_goesOn.2.1 169 = .ok (.aload_n 0, 1) := by decide +kernel
theorem jd_Search_goesOn_170 : decode jm_m_Search_goesOn.2.1 170 = .ok (.getfield 35, 3) := by decide +kernel
theorem jd_Search_goesOn_173 : decode jm_m_Search_goesOn.2.1 173 = .ok (.iload_n 1, 1) := by decide +kernel
theorem jd_Search_goesOn_174 : decode jm_m_Search_goesOn.2.1 174 = .ok (.iaload, 1) := by decide +kernel
theorem jd_Search_goesOn_175 : decode jm_m_Search_goesOn.2.1 175 = .ok (.laload, 1) := by decide +kernel
theorem jd_Search_goesOn_176 : decode jm_m_Search_goesOn.2.1 176 = .ok (.aload_n 0, 1) := by decide +kernel
theorem jd_Search_goesOn_177 : decode jm_m_Search_goesOn.2.1 177 = .ok (.getfield 22, 3) := by decide +kernel
theorem jd_Search_goesOn_180 : decode jm_m_Search_goesOn.2.1 180 = .ok (.iload_n 1, 1) := by decide +kernel
theorem jd_Search_goesOn_181 : decode jm_m_Search_goesOn.2.1 181 = .ok (.aaload, 1) := by decide +kernel
theorem jd_Search_goesOn_182 : decode jm_m_Search_goesOn.2.1 182 = .ok (.aload_n 0, 1) := by decide +kernel
theorem jd_Search_goesOn_183 : decode jm_m_Search_goesOn.2.1 183 = .ok (.getfield 38, 3) := by decide +kernel
theorem jd_Search_goesOn_186 : decode jm_m_Search_goesOn.2.1 186 = .ok (.iload_n 1, 1) := by decide +kernel
theorem jd_Search_goesOn_187 : decode jm_m_Search_goesOn.2.1 187 = .ok (.iaload, 1) := by decide +kernel
theorem jd_Search_goesOn_188 : decode jm_m_Search_goesOn.2.1 188 = .ok (.laload, 1) := by decide +kernel
theorem jd_Search_goesOn_189 : decode jm_m_Search_goesOn.2.1 189 = .ok (.invokestatic 116, 3) := by decide +kernel
theorem jd_Search_goesOn_192 : decode jm_m_Search_goesOn.2.1 192 = .ok (.lastore, 1) := by decide +kernel
theorem jd_Search_goesOn_193 : decode jm_m_Search_goesOn.2.1 193 = .ok (.aload_n 0, 1) := by decide +kernel
theorem jd_Search_goesOn_194 : decode jm_m_Search_goesOn.2.1 194 = .ok (.iload_n 1, 1) := by decide +kernel
theorem jd_Search_goesOn_195 : decode jm_m_Search_goesOn.2.1 195 = .ok (.iconst 1, 1) := by decide +kernel
theorem jd_Search_goesOn_196 : decode jm_m_Search_goesOn.2.1 196 = .ok (.iadd, 1) := by decide +kernel
theorem jd_Search_goesOn_197 : decode jm_m_Search_goesOn.2.1 197 = .ok (.iload_n 2, 1) := by decide +kernel
theorem jd_Search_goesOn_198 : decode jm_m_Search_goesOn.2.1 198 = .ok (.iload 7, 2) := by decide +kernel
theorem jd_Search_goesOn_200 : decode jm_m_Search_goesOn.2.1 200 = .ok (.iconst 1, 1) := by decide +kernel
theorem jd_Search_goesOn_201 : decode jm_m_Search_goesOn.2.1 201 = .ok (.iload 4, 2) := by decide +kernel
theorem jd_Search_goesOn_203 : decode jm_m_Search_goesOn.2.1 203 = .ok (.ishl, 1) := by decide +kernel
theorem jd_Search_goesOn_204 : decode jm_m_Search_goesOn.2.1 204 = .ok (.ior, 1) := by decide +kernel
theorem jd_Search_goesOn_205 : decode jm_m_Search_goesOn.2.1 205 = .ok (.invokevirtual 85, 3) := by decide +kernel
theorem jd_Search_goesOn_208 : decode jm_m_Search_goesOn.2.1 208 = .ok (.ifCond .eq 5, 3) := by decide +kernel
theorem jd_Search_goesOn_211 : decode jm_m_Search_goesOn.2.1 211 = .ok (.iconst 1, 1) := by decide +kernel
theorem jd_Search_goesOn_212 : decode jm_m_Search_goesOn.2.1 212 = .ok (.ireturn, 1) := by decide +kernel
theorem jd_Search_goesOn_213 : decode jm_m_Search_goesOn.2.1 213 = .ok (.iinc 6 1, 3) := by decide +kernel
theorem jd_Search_goesOn_216 : decode jm_m_Search_goesOn.2.1 216 = .ok (.goto (-174), 3) := by decide +kernel
theorem jd_Search_goesOn_219 : decode jm_m_Search_goesOn.2.1 219 = .ok (.iconst 0, 1) := by decide +kernel
theorem jd_Search_goesOn_220 : decode jm_m_Search_goesOn.2.1 220 = .ok (.ireturn, 1) := by decide +kernel
theorem jd_Search_endsWith_0 : decode jm_m_Search_endsWith.2.1 0 = .ok (.iload_n 2, 1) := by decide +kernel
theorem jd_Search_endsWith_1 : decode jm_m_Search_endsWith.2.1 1 = .ok (.iconst 1, 1) := by decide +kernel
theorem jd_Search_endsWith_2 : decode jm_m_Search_endsWith.2.1 2 = .ok (.isub, 1) := by decide +kernel
theorem jd_Search_endsWith_3 : decode jm_m_Search_endsWith.2.1 3 = .ok (.istore 4, 2) := by decide +kernel
theorem jd_Search_endsWith_5 : decode jm_m_Search_endsWith.2.1 5 = .ok (.aload_n 0, 1) := by decide +kernel
theorem jd_Search_endsWith_6 : decode jm_m_Search_endsWith.2.1 6 = .ok (.getfield 22, 3) := by decide +kernel
theorem jd_Search_endsWith_9 : decode jm_m_Search_endsWith.2.1 9 = .ok (.iload 4, 2) := by decide +kernel
theorem jd_Search_endsWith_11 : decode jm_m_Search_endsWith.2.1 11 = .ok (.aaload, 1) := by decide +kernel
theorem jd_Search_endsWith_12 : decode jm_m_Search_endsWith.2.1 12 = .ok (.astore 5, 2) := by decide +kernel
theorem jd_Search_endsWith_14 : decode jm_m_Search_endsWith.2.1 14 = .ok (.aload_n 0, 1) := by decide +kernel
theorem jd_Search_endsWith_15 : decode jm_m_Search_endsWith.2.1 15 = .ok (.getfield 10, 3) := by decide +kernel
theorem jd_Search_endsWith_18 : decode jm_m_Search_endsWith.2.1 18 = .ok (.getfield 99, 3) := by decide +kernel
theorem jd_Search_endsWith_21 : decode jm_m_Search_endsWith.2.1 21 = .ok (.iload_n 1, 1) := by decide +kernel
theorem jd_Search_endsWith_22 : decode jm_m_Search_endsWith.2.1 22 = .ok (.iconst 1, 1) := by decide +kernel
theorem jd_Search_endsWith_23 : decode jm_m_Search_endsWith.2.1 23 = .ok (.iadd, 1) := by decide +kernel
theorem jd_Search_endsWith_24 : decode jm_m_Search_endsWith.2.1 24 = .ok (.iaload, 1) := by decide +kernel
theorem jd_Search_endsWith_25 : decode jm_m_Search_endsWith.2.1 25 = .ok (.istore 6, 2) := by decide +kernel
theorem jd_Search_endsWith_27 : decode jm_m_Search_endsWith.2.1 27 = .ok (.aload_n 0, 1) := by decide +kernel
theorem jd_Search_endsWith_28 : decode jm_m_Search_endsWith.2.1 28 = .ok (.getfield 10, 3) := by decide +kernel
theorem jd_Search_endsWith_31 : decode jm_m_Search_endsWith.2.1 31 = .ok (.getfield 99, 3) := by decide +kernel
theorem jd_Search_endsWith_34 : decode jm_m_Search_endsWith.2.1 34 = .ok (.iload_n 1, 1) := by decide +kernel
theorem jd_Search_endsWith_35 : decode jm_m_Search_endsWith.2.1 35 = .ok (.iaload, 1) := by decide +kernel
theorem jd_Search_endsWith_36 : decode jm_m_Search_endsWith.2.1 36 = .ok (.istore 7, 2) := by decide +kernel
theorem jd_Search_endsWith_38 : decode jm_m_Search_endsWith.2.1 38 = .ok (.iload 7, 2) := by decide +kernel
theorem jd_Search_endsWith_40 : decode jm_m_Search_endsWith.2.1 40 = .ok (.iload 6, 2) := by decide +kernel
theorem jd_Search_endsWith_42 : decode jm_m_Search_endsWith.2.1 42 = .ok (.if_icmp .ge 131, 3) := by decide +kernel
