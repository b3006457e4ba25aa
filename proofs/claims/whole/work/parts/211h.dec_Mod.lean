theorem jd_Mod_isAlike_115 : decode jm_m_Mod_isAlike.2.1 115 = .ok (.iconst 1, 1) := by decide +kernel
theorem jd_Mod_isAlike_116 : decode jm_m_Mod_isAlike.2.1 116 = .ok (.ireturn, 1) := by decide +kernel
theorem jd_Mod_findRow_0 : decode jm_m_Mod_findRow.2.1 0 = .ok (.iload_n 1, 1) := by decide +kernel
theorem jd_Mod_findRow_1 : decode jm_m_Mod_findRow.2.1 1 = .ok (.ifCond .ne 7, 3) := by decide +kernel
theorem jd_Mod_findRow_4 : decode jm_m_Mod_findRow.2.1 4 = .ok (.iconst 1, 1) := by decide +kernel
theorem jd_Mod_findRow_5 : decode jm_m_Mod_findRow.2.1 5 = .ok (.goto 28, 3) := by decide +kernel
theorem jd_Mod_findRow_8 : decode jm_m_Mod_findRow.2.1 8 = .ok (.iload_n 1, 1) := by decide +kernel
theorem jd_Mod_findRow_9 : decode jm_m_Mod_findRow.2.1 9 = .ok (.iconst 1, 1) := by decide +kernel
theorem jd_Mod_findRow_10 : decode jm_m_Mod_findRow.2.1 10 = .ok (.if_icmp .ne 9, 3) := by decide +kernel
theorem jd_Mod_findRow_13 : decode jm_m_Mod_findRow.2.1 13 = .ok (.sipush 153, 3) := by decide +kernel
theorem jd_Mod_findRow_16 : decode jm_m_Mod_findRow.2.1 16 = .ok (.goto 17, 3) := by decide +kernel
theorem jd_Mod_findRow_19 : decode jm_m_Mod_findRow.2.1 19 = .ok (.iload_n 1, 1) := by decide +kernel
theorem jd_Mod_findRow_20 : decode jm_m_Mod_findRow.2.1 20 = .ok (.iconst 2, 1) := by decide +kernel
theorem jd_Mod_findRow_21 : decode jm_m_Mod_findRow.2.1 21 = .ok (.if_icmp .ne 9, 3) := by decide +kernel
theorem jd_Mod_findRow_24 : decode jm_m_Mod_findRow.2.1 24 = .ok (.sipush 23409, 3) := by decide +kernel
theorem jd_Mod_findRow_27 : decode jm_m_Mod_findRow.2.1 27 = .ok (.goto 6, 3) := by decide +kernel
theorem jd_Mod_findRow_30 : decode jm_m_Mod_findRow.2.1 30 = .ok (.ldc_w 305, 3) := by decide +kernel
theorem jd_Mod_findRow_33 : decode jm_m_Mod_findRow.2.1 33 = .ok (.istore_n 2, 1) := by decide +kernel
theorem jd_Mod_findRow_34 : decode jm_m_Mod_findRow.2.1 34 = .ok (.iconst 0, 1) := by decide +kernel
theorem jd_Mod_findRow_35 : decode jm_m_Mod_findRow.2.1 35 = .ok (.istore_n 3, 1) := by decide +kernel
theorem jd_Mod_findRow_36 : decode jm_m_Mod_findRow.2.1 36 = .ok (.iload_n 3, 1) := by decide +kernel
theorem jd_Mod_findRow_37 : decode jm_m_Mod_findRow.2.1 37 = .ok (.iload_n 2, 1) := by decide +kernel
theorem jd_Mod_findRow_38 : decode jm_m_Mod_findRow.2.1 38 = .ok (.if_icmp .ge 59, 3) := by decide +kernel
theorem jd_Mod_findRow_41 : decode jm_m_Mod_findRow.2.1 41 = .ok (.iload_n 3, 1) := by decide +kernel
theorem jd_Mod_findRow_42 : decode jm_m_Mod_findRow.2.1 42 = .ok (.istore 4, 2) := by decide +kernel
theorem jd_Mod_findRow_44 : decode jm_m_Mod_findRow.2.1 44 = .ok (.iload_n 1, 1) := by decide +kernel
theorem jd_Mod_findRow_45 : decode jm_m_Mod_findRow.2.1 45 = .ok (.iconst 1, 1) := by decide +kernel
theorem jd_Mod_findRow_46 : decode jm_m_Mod_findRow.2.1 46 = .ok (.isub, 1) := by decide +kernel
theorem jd_Mod_findRow_47 : decode jm_m_Mod_findRow.2.1 47 = .ok (.istore 5, 2) := by decide +kernel
theorem jd_Mod_findRow_49 : decode jm_m_Mod_findRow.2.1 49 = .ok (.iload 5, 2) := by decide +kernel
theorem jd_Mod_findRow_51 : decode jm_m_Mod_findRow.2.1 51 = .ok (.ifCond .lt 30, 3) := by decide +kernel
theorem jd_Mod_findRow_54 : decode jm_m_Mod_findRow.2.1 54 = .ok (.aload_n 0, 1) := by decide +kernel
theorem jd_Mod_findRow_55 : decode jm_m_Mod_findRow.2.1 55 = .ok (.getfield 115, 3) := by decide +kernel
theorem jd_Mod_findRow_58 : decode jm_m_Mod_findRow.2.1 58 = .ok (.iload 5, 2) := by decide +kernel
theorem jd_Mod_findRow_60 : decode jm_m_Mod_findRow.2.1 60 = .ok (.iload 4, 2) := by decide +kernel
theorem jd_Mod_findRow_62 : decode jm_m_Mod_findRow.2.1 62 = .ok (.sipush 153, 3) := by decide +kernel
theorem jd_Mod_findRow_65 : decode jm_m_Mod_findRow.2.1 65 = .ok (.irem, 1) := by decide +kernel
theorem jd_Mod_findRow_66 : decode jm_m_Mod_findRow.2.1 66 = .ok (.iastore, 1) := by decide +kernel
theorem jd_Mod_findRow_67 : decode jm_m_Mod_findRow.2.1 67 = .ok (.iload 4, 2) := by decide +kernel
theorem jd_Mod_findRow_69 : decode jm_m_Mod_findRow.2.1 69 = .ok (.sipush 153, 3) := by decide +kernel
theorem jd_Mod_findRow_72 : decode jm_m_Mod_findRow.2.1 72 = .ok (.idiv, 1) := by decide +kernel
theorem jd_Mod_findRow_73 : decode jm_m_Mod_findRow.2.1 73 = .ok (.istore 4, 2) := by decide +kernel
theorem jd_Mod_findRow_75 : decode jm_m_Mod_findRow.2.1 75 = .ok (.iinc 5 (-1), 3) := by decide +kernel
theorem jd_Mod_findRow_78 : decode jm_m_Mod_findRow.2.1 78 = .ok (.goto (-29), 3) := by decide +kernel
theorem jd_Mod_findRow_81 : decode jm_m_Mod_findRow.2.1 81 = .ok (.aload_n 0, 1) := by decide +kernel
theorem jd_Mod_findRow_82 : decode jm_m_Mod_findRow.2.1 82 = .ok (.iload_n 1, 1) := by decide +kernel
theorem jd_Mod_findRow_83 : decode jm_m_Mod_findRow.2.1 83 = .ok (.invokevirtual 306, 3) := by decide +kernel
theorem jd_Mod_findRow_86 : decode jm_m_Mod_findRow.2.1 86 = .ok (.ifCond .eq 5, 3) := by decide +kernel
theorem jd_Mod_findRow_89 : decode jm_m_Mod_findRow.2.1 89 = .ok (.iconst 1, 1) := by decide +kernel
theorem jd_Mod_findRow_90 : decode jm_m_Mod_findRow.2.1 90 = .ok (.ireturn, 1) := by decide +kernel
theorem jd_Mod_findRow_91 : decode jm_m_Mod_findRow.2.1 91 = .ok (.iinc 3 1, 3) := by decide +kernel
theorem jd_Mod_findRow_94 : decode jm_m_Mod_findRow.2.1 94 = .ok (.goto (-58), 3) := by decide +kernel
theorem jd_Mod_findRow_97 : decode jm_m_Mod_findRow.2.1 97 = .ok (.iconst 0, 1) := by decide +kernel
theorem jd_Mod_findRow_98 : decode jm_m_Mod_findRow.2.1 98 = .ok (.ireturn, 1) := by decide +kernel
theorem jd_Mod_shortest_0 : decode jm_m_Mod_shortest.2.1 0 = .ok (.iload_n 1, 1) := by decide +kernel
theorem jd_Mod_shortest_1 : decode jm_m_Mod_shortest.2.1 1 = .ok (.i2l, 1) := by decide +kernel
theorem jd_Mod_shortest_2 : decode jm_m_Mod_shortest.2.1 2 = .ok (.lconst 0, 1) := by decide +kernel
theorem jd_Mod_shortest_3 : decode jm_m_Mod_shortest.2.1 3 = .ok (.ldc2_w 309, 3) := by decide +kernel
theorem jd_Mod_shortest_6 : decode jm_m_Mod_shortest.2.1 6 = .ok (.invokestatic 126, 3) := by decide +kernel
theorem jd_Mod_shortest_9 : decode jm_m_Mod_shortest.2.1 9 = .ok (.ifCond .ne 6, 3) := by decide +kernel
theorem jd_Mod_shortest_12 : decode jm_m_Mod_shortest.2.1 12 = .ok (.bipush (-2), 2) := by decide +kernel
theorem jd_Mod_shortest_14 : decode jm_m_Mod_shortest.2.1 14 = .ok (.ireturn, 1) := by decide +kernel
theorem jd_Mod_shortest_15 : decode jm_m_Mod_shortest.2.1 15 = .ok (.aload_n 0, 1) := by decide +kernel
theorem jd_Mod_shortest_16 : decode jm_m_Mod_shortest.2.1 16 = .ok (.invokevirtual 311, 3) := by decide +kernel
theorem jd_Mod_shortest_19 : decode jm_m_Mod_shortest.2.1 19 = .ok (.iconst 0, 1) := by decide +kernel
theorem jd_Mod_shortest_20 : decode jm_m_Mod_shortest.2.1 20 = .ok (.istore_n 3, 1) := by decide +kernel
theorem jd_Mod_shortest_21 : decode jm_m_Mod_shortest.2.1 21 = .ok (.iload_n 3, 1) := by decide +kernel
theorem jd_Mod_shortest_22 : decode jm_m_Mod_shortest.2.1 22 = .ok (.sipush 256, 3) := by decide +kernel
theorem jd_Mod_shortest_25 : decode jm_m_Mod_shortest.2.1 25 = .ok (.if_icmp .ge 33, 3) := by decide +kernel
theorem jd_Mod_shortest_28 : decode jm_m_Mod_shortest.2.1 28 = .ok (.aload_n 0, 1) := by decide +kernel
theorem jd_Mod_shortest_29 : decode jm_m_Mod_shortest.2.1 29 = .ok (.iload_n 3, 1) := by decide +kernel
theorem jd_Mod_shortest_30 : decode jm_m_Mod_shortest.2.1 30 = .ok (.bipush 16, 2) := by decide +kernel
theorem jd_Mod_shortest_32 : decode jm_m_Mod_shortest.2.1 32 = .ok (.idiv, 1) := by decide +kernel
theorem jd_Mod_shortest_33 : decode jm_m_Mod_shortest.2.1 33 = .ok (.iload_n 3, 1) := by decide +kernel
theorem jd_Mod_shortest_34 : decode jm_m_Mod_shortest.2.1 34 = .ok (.bipush 16, 2) := by decide +kernel
theorem jd_Mod_shortest_36 : decode jm_m_Mod_shortest.2.1 36 = .ok (.irem, 1) := by decide +kernel
theorem jd_Mod_shortest_37 : decode jm_m_Mod_shortest.2.1 37 = .ok (.invokevirtual 302, 3) := by decide +kernel
theorem jd_Mod_shortest_40 : decode jm_m_Mod_shortest.2.1 40 = .ok (.aload_n 0, 1) := by decide +kernel
theorem jd_Mod_shortest_41 : decode jm_m_Mod_shortest.2.1 41 = .ok (.getfield 109, 3) := by decide +kernel
theorem jd_Mod_shortest_44 : decode jm_m_Mod_shortest.2.1 44 = .ok (.iload_n 3, 1) := by decide +kernel
theorem jd_Mod_shortest_45 : decode jm_m_Mod_shortest.2.1 45 = .ok (.aload_n 0, 1) := by decide +kernel
theorem jd_Mod_shortest_46 : decode jm_m_Mod_shortest.2.1 46 = .ok (.getfield 106, 3) := by decide +kernel
theorem jd_Mod_shortest_49 : decode jm_m_Mod_shortest.2.1 49 = .ok (.iconst 0, 1) := by decide +kernel
theorem jd_Mod_shortest_50 : decode jm_m_Mod_shortest.2.1 50 = .ok (.iaload, 1) := by decide +kernel
theorem jd_Mod_shortest_51 : decode jm_m_Mod_shortest.2.1 51 = .ok (.iastore, 1) := by decide +kernel
theorem jd_Mod_shortest_52 : decode jm_m_Mod_shortest.2.1 52 = .ok (.iinc 3 1, 3) := by decide +kernel
theorem jd_Mod_shortest_55 : decode jm_m_Mod_shortest.2.1 55 = .ok (.goto (-34), 3) := by decide +kernel
theorem jd_Mod_shortest_58 : decode jm_m_Mod_shortest.2.1 58 = .ok (.bipush (-6), 2) := by decide +kernel
theorem jd_Mod_shortest_60 : decode jm_m_Mod_shortest.2.1 60 = .ok (.istore_n 3, 1) := by decide +kernel
theorem jd_Mod_shortest_61 : decode jm_m_Mod_shortest.2.1 61 = .ok (.iconst 0, 1) := by decide +kernel
theorem jd_Mod_shortest_62 : decode jm_m_Mod_shortest.2.1 62 = .ok (.istore 4, 2) := by decide +kernel
theorem jd_Mod_shortest_64 : decode jm_m_Mod_shortest.2.1 64 = .ok (.iload 4, 2) := by decide +kernel
theorem jd_Mod_shortest_66 : decode jm_m_Mod_shortest.2.1 66 = .ok (.iload_n 1, 1) := by decide +kernel
theorem jd_Mod_shortest_67 : decode jm_m_Mod_shortest.2.1 67 = .ok (.if_icmp .gt 29, 3) := by decide +kernel
theorem jd_Mod_shortest_70 : decode jm_m_Mod_shortest.2.1 70 = .ok (.iload_n 3, 1) := by decide +kernel
theorem jd_Mod_shortest_71 : decode jm_m_Mod_shortest.2.1 71 = .ok (.ifCond .ge 25, 3) := by decide +kernel
theorem jd_Mod_shortest_74 : decode jm_m_Mod_shortest.2.1 74 = .ok (.aload_n 0, 1) := by decide +kernel
theorem jd_Mod_shortest_75 : decode jm_m_Mod_shortest.2.1 75 = .ok (.iload 4, 2) := by decide +kernel
theorem jd_Mod_shortest_77 : decode jm_m_Mod_shortest.2.1 77 = .ok (.invokevirtual 314, 3) := by decide +kernel
theorem jd_Mod_shortest_80 : decode jm_m_Mod_shortest.2.1 80 = .ok (.ifCond .eq 8, 3) := by decide +kernel
theorem jd_Mod_shortest_83 : decode jm_m_Mod_shortest.2.1 83 = .ok (.iload 4, 2) := by decide +kernel
theorem jd_Mod_shortest_85 : decode jm_m_Mod_shortest.2.1 85 = .ok (.goto 4, 3) := by decide +kernel
theorem jd_Mod_shortest_88 : decode jm_m_Mod_shortest.2.1 88 = .ok (.iload_n 3, 1) := by decide +kernel
theorem jd_Mod_shortest_89 : decode jm_m_Mod_shortest.2.1 89 = .ok (.istore_n 3, 1) := by decide +kernel
theorem jd_Mod_shortest_90 : decode jm_m_Mod_shortest.2.1 90 = .ok (.iinc 4 1, 3) := by decide +kernel
theorem jd_Mod_shortest_93 : decode jm_m_Mod_shortest.2.1 93 = .ok (.goto (-29), 3) := by decide +kernel
theorem jd_Mod_shortest_96 : decode jm_m_Mod_shortest.2.1 96 = .ok (.iload_n 3, 1) := by decide +kernel
theorem jd_Mod_shortest_97 : decode jm_m_Mod_shortest.2.1 97 = .ok (.ifCond .ge 8, 3) := by decide +kernel
theorem jd_Mod_shortest_100 : decode jm_m_Mod_shortest.2.1 100 = .ok (.bipush (-5), 2) := by decide +kernel
theorem jd_Mod_shortest_102 : decode jm_m_Mod_shortest.2.1 102 = .ok (.goto 41, 3) := by decide +kernel
theorem jd_Mod_shortest_105 : decode jm_m_Mod_shortest.2.1 105 = .ok (.iload_n 2, 1) := by decide +kernel
theorem jd_Mod_shortest_106 : decode jm_m_Mod_shortest.2.1 106 = .ok (.iconst (-1), 1) := by decide +kernel
theorem jd_Mod_shortest_107 : decode jm_m_Mod_shortest.2.1 107 = .ok (.if_icmp .ne 7, 3) := by decide +kernel
theorem jd_Mod_shortest_110 : decode jm_m_Mod_shortest.2.1 110 = .ok (.iload_n 3, 1) := by decide +kernel
theorem jd_Mod_shortest_111 : decode jm_m_Mod_shortest.2.1 111 = .ok (.goto 32, 3) := by decide +kernel
theorem jd_Mod_shortest_114 : decode jm_m_Mod_shortest.2.1 114 = .ok (.iload_n 2, 1) := by decide +kernel
theorem jd_Mod_shortest_115 : decode jm_m_Mod_shortest.2.1 115 = .ok (.i2l, 1) := by decide +kernel
theorem jd_Mod_shortest_116 : decode jm_m_Mod_shortest.2.1 116 = .ok (.lconst 0, 1) := by decide +kernel
theorem jd_Mod_shortest_117 : decode jm_m_Mod_shortest.2.1 117 = .ok (.iload_n 3, 1) := by decide +kernel
theorem jd_Mod_shortest_118 : decode jm_m_Mod_shortest.2.1 118 = .ok (.iconst 1, 1) := by decide +kernel
theorem jd_Mod_shortest_119 : decode jm_m_Mod_shortest.2.1 119 = .ok (.isub, 1) := by decide +kernel
theorem jd_Mod_shortest_120 : decode jm_m_Mod_shortest.2.1 120 = .ok (.i2l, 1) := by decide +kernel
theorem jd_Mod_shortest_121 : decode jm_m_Mod_shortest.2.1 121 = .ok (.invokestatic 126, 3) := by decide +kernel
theorem jd_Mod_shortest_124 : decode jm_m_Mod_shortest.2.1 124 = .ok (.ifCond .eq 17, 3) := by decide +kernel
theorem jd_Mod_shortest_127 : decode jm_m_Mod_shortest.2.1 127 = .ok (.aload_n 0, 1) := by decide +kernel
theorem jd_Mod_shortest_128 : decode jm_m_Mod_shortest.2.1 128 = .ok (.getfield 112, 3) := by decide +kernel
theorem jd_Mod_shortest_131 : decode jm_m_Mod_shortest.2.1 131 = .ok (.aload_n 0, 1) := by decide +kernel
theorem jd_Mod_shortest_132 : decode jm_m_Mod_shortest.2.1 132 = .ok (.getfield 115, 3) := by decide +kernel
theorem jd_Mod_shortest_135 : decode jm_m_Mod_shortest.2.1 135 = .ok (.iload_n 2, 1) := by decide +kernel
theorem jd_Mod_shortest_136 : decode jm_m_Mod_shortest.2.1 136 = .ok (.iaload, 1) := by decide +kernel
theorem jd_Mod_shortest_137 : decode jm_m_Mod_shortest.2.1 137 = .ok (.iaload, 1) := by decide +kernel
theorem jd_Mod_shortest_138 : decode jm_m_Mod_shortest.2.1 138 = .ok (.goto 5, 3) := by decide +kernel
theorem jd_Mod_shortest_141 : decode jm_m_Mod_shortest.2.1 141 = .ok (.bipush (-6), 2) := by decide +kernel
theorem jd_Mod_shortest_143 : decode jm_m_Mod_shortest.2.1 143 = .ok (.ireturn, 1) := by decide +kernel
theorem jd_Mod_thin_0 : decode jm_m_Mod_thin.2.1 0 = .ok (.iconst 0, 1) := by decide +kernel
theorem jd_Mod_thin_1 : decode jm_m_Mod_thin.2.1 1 = .ok (.istore_n 1, 1) := by decide +kernel
theorem jd_Mod_thin_2 : decode jm_m_Mod_thin.2.1 2 = .ok (.iconst 0, 1) := by decide +kernel
theorem jd_Mod_thin_3 : decode jm_m_Mod_thin.2.1 3 = .ok (.istore_n 2, 1) := by decide +kernel
theorem jd_Mod_thin_4 : decode jm_m_Mod_thin.2.1 4 = .ok (.iload_n 2, 1) := by decide +kernel
theorem jd_Mod_thin_5 : decode jm_m_Mod_thin.2.1 5 = .ok (.aload_n 0, 1) := by decide +kernel
theorem jd_Mod_thin_6 : decode jm_m_Mod_thin.2.1 6 = .ok (.getfield 231, 3) := by decide +kernel
theorem jd_Mod_thin_9 : decode jm_m_Mod_thin.2.1 9 = .ok (.if_icmp .ge 64, 3) := by decide +kernel
theorem jd_Mod_thin_12 : decode jm_m_Mod_thin.2.1 12 = .ok (.aload_n 0, 1) := by decide +kernel
theorem jd_Mod_thin_13 : decode jm_m_Mod_thin.2.1 13 = .ok (.iload_n 2, 1) := by decide +kernel
theorem jd_Mod_thin_14 : decode jm_m_Mod_thin.2.1 14 = .ok (.invokevirtual 273, 3) := by decide +kernel
theorem jd_Mod_thin_17 : decode jm_m_Mod_thin.2.1 17 = .ok (.iload_n 2, 1) := by decide +kernel
theorem jd_Mod_thin_18 : decode jm_m_Mod_thin.2.1 18 = .ok (.if_icmp .ne 49, 3) := by decide +kernel
theorem jd_Mod_thin_21 : decode jm_m_Mod_thin.2.1 21 = .ok (.aload_n 0, 1) := by decide +kernel
theorem jd_Mod_thin_22 : decode jm_m_Mod_thin.2.1 22 = .ok (.invokevirtual 263, 3) := by decide +kernel
theorem jd_Mod_thin_25 : decode jm_m_Mod_thin.2.1 25 = .ok (.aload_n 0, 1) := by decide +kernel
theorem jd_Mod_thin_26 : decode jm_m_Mod_thin.2.1 26 = .ok (.dup, 1) := by decide +kernel
theorem jd_Mod_thin_27 : decode jm_m_Mod_thin.2.1 27 = .ok (.getfield 231, 3) := by decide +kernel
theorem jd_Mod_thin_30 : decode jm_m_Mod_thin.2.1 30 = .ok (.iconst 1, 1) := by decide +kernel
theorem jd_Mod_thin_31 : decode jm_m_Mod_thin.2.1 31 = .ok (.isub, 1) := by decide +kernel
theorem jd_Mod_thin_32 : decode jm_m_Mod_thin.2.1 32 = .ok (.putfield 231, 3) := by decide +kernel
theorem jd_Mod_thin_35 : decode jm_m_Mod_thin.2.1 35 = .ok (.iload_n 2, 1) := by decide +kernel
theorem jd_Mod_thin_36 : decode jm_m_Mod_thin.2.1 36 = .ok (.istore_n 3, 1) := by decide +kernel
theorem jd_Mod_thin_37 : decode jm_m_Mod_thin.2.1 37 = .ok (.iload_n 3, 1) := by decide +kernel
theorem jd_Mod_thin_38 : decode jm_m_Mod_thin.2.1 38 = .ok (.aload_n 0, 1) := by decide +kernel
theorem jd_Mod_thin_39 : decode jm_m_Mod_thin.2.1 39 = .ok (.getfield 231, 3) := by decide +kernel
theorem jd_Mod_thin_42 : decode jm_m_Mod_thin.2.1 42 = .ok (.if_icmp .ge 17, 3) := by decide +kernel
theorem jd_Mod_thin_45 : decode jm_m_Mod_thin.2.1 45 = .ok (.aload_n 0, 1) := by decide +kernel
theorem jd_Mod_thin_46 : decode jm_m_Mod_thin.2.1 46 = .ok (.iload_n 3, 1) := by decide +kernel
theorem jd_Mod_thin_47 : decode jm_m_Mod_thin.2.1 47 = .ok (.iconst 1, 1) := by decide +kernel
theorem jd_Mod_thin_48 : decode jm_m_Mod_thin.2.1 48 = .ok (.iadd, 1) := by decide +kernel
theorem jd_Mod_thin_49 : decode jm_m_Mod_thin.2.1 49 = .ok (.iload_n 3, 1) := by decide +kernel
theorem jd_Mod_thin_50 : decode jm_m_Mod_thin.2.1 50 = .ok (.invokevirtual 266, 3) := by decide +kernel
theorem jd_Mod_thin_53 : decode jm_m_Mod_thin.2.1 53 = .ok (.iinc 3 1, 3) := by decide +kernel
theorem jd_Mod_thin_56 : decode jm_m_Mod_thin.2.1 56 = .ok (.goto (-19), 3) := by decide +kernel
theorem jd_Mod_thin_59 : decode jm_m_Mod_thin.2.1 59 = .ok (.iinc 1 1, 3) := by decide +kernel
theorem jd_Mod_thin_62 : decode jm_m_Mod_thin.2.1 62 = .ok (.iconst 0, 1) := by decide +kernel
theorem jd_Mod_thin_63 : decode jm_m_Mod_thin.2.1 63 = .ok (.istore_n 2, 1) := by decide +kernel
theorem jd_Mod_thin_64 : decode jm_m_Mod_thin.2.1 64 = .ok (.goto (-60), 3) := by decide +kernel
theorem jd_Mod_thin_67 : decode jm_m_Mod_thin.2.1 67 = .ok (.iinc 2 1, 3) := by decide +kernel
theorem jd_Mod_thin_70 : decode jm_m_Mod_thin.2.1 70 = .ok (.goto (-66), 3) := by decide +kernel
theorem jd_Mod_thin_73 : decode jm_m_Mod_thin.2.1 73 = .ok (.iload_n 1, 1) := by decide +kernel
theorem jd_Mod_thin_74 : decode jm_m_Mod_thin.2.1 74 = .ok (.ireturn, 1) := by decide +kernel
theorem jd_Mod_told_0 : decode jm_m_Mod_told.2.1 0 = .ok (.iload_n 1, 1) := by decide +kernel
theorem jd_Mod_told_1 : decode jm_m_Mod_told.2.1 1 = .ok (.tableswitch 60 0 4 #[35, 40, 45, 50, 55], 35) := by decide +kernel
theorem jd_Mod_told_36 : decode jm_m_Mod_told.2.1 36 = .ok (.aload_n 0, 1) := by decide +kernel
theorem jd_Mod_told_37 : decode jm_m_Mod_told.2.1 37 = .ok (.getfield 130, 3) := by decide +kernel
theorem jd_Mod_told_40 : decode jm_m_Mod_told.2.1 40 = .ok (.ireturn, 1) := by decide +kernel
theorem jd_Mod_told_41 : decode jm_m_Mod_told.2.1 41 = .ok (.aload_n 0, 1) := by decide +kernel
theorem jd_Mod_told_42 : decode jm_m_Mod_told.2.1 42 = .ok (.getfield 169, 3) := by decide +kernel
theorem jd_Mod_told_45 : decode jm_m_Mod_told.2.1 45 = .ok (.ireturn, 1) := by decide +kernel
theorem jd_Mod_told_46 : decode jm_m_Mod_told.2.1 46 = .ok (.aload_n 0, 1) := by decide +kernel
theorem jd_Mod_told_47 : decode jm_m_Mod_told.2.1 47 = .ok (.getfield 186, 3) := by decide +kernel
theorem jd_Mod_told_50 : decode jm_m_Mod_told.2.1 50 = .ok (.ireturn, 1) := by decide +kernel
theorem jd_Mod_told_51 : decode jm_m_Mod_told.2.1 51 = .ok (.aload_n 0, 1) := by decide +kernel
theorem jd_Mod_told_52 : decode jm_m_Mod_told.2.1 52 = .ok (.getfield 231, 3) := by decide +kernel
theorem jd_Mod_told_55 : decode jm_m_Mod_told.2.1 55 = .ok (.ireturn, 1) := by decide +kernel
theorem jd_Mod_told_56 : decode jm_m_Mod_told.2.1 56 = .ok (.aload_n 0, 1) := by decide +kernel
theorem jd_Mod_told_57 : decode jm_m_Mod_told.2.1 57 = .ok (.getfield 118, 3) := by decide +kernel
theorem jd_Mod_told_60 : decode jm_m_Mod_told.2.1 60 = .ok (.ireturn, 1) := by decide +kernel
theorem jd_Mod_told_61 : decode jm_m_Mod_told.2.1 61 = .ok (.bipush (-2), 2) := by decide +kernel
theorem jd_Mod_told_63 : decode jm_m_Mod_told.2.1 63 = .ok (.ireturn, 1) := by decide +kernel
