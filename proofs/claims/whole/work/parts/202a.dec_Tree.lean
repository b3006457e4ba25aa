theorem jd_Tree_init_0 : decode jm_m_Tree_init.2.1 0 = .ok (.aload_n 0, 1) := by decide +kernel
theorem jd_Tree_init_1 : decode jm_m_Tree_init.2.1 1 = .ok (.invokespecial 1, 3) := by decide +kernel
theorem jd_Tree_init_4 : decode jm_m_Tree_init.2.1 4 = .ok (.aload_n 0, 1) := by decide +kernel
theorem jd_Tree_init_5 : decode jm_m_Tree_init.2.1 5 = .ok (.bipush 30, 2) := by decide +kernel
theorem jd_Tree_init_7 : decode jm_m_Tree_init.2.1 7 = .ok (.newarray .int, 2) := by decide +kernel
theorem jd_Tree_init_9 : decode jm_m_Tree_init.2.1 9 = .ok (.putfield 9, 3) := by decide +kernel
theorem jd_Tree_init_12 : decode jm_m_Tree_init.2.1 12 = .ok (.aload_n 0, 1) := by decide +kernel
theorem jd_Tree_init_13 : decode jm_m_Tree_init.2.1 13 = .ok (.bipush 30, 2) := by decide +kernel
theorem jd_Tree_init_15 : decode jm_m_Tree_init.2.1 15 = .ok (.newarray .int, 2) := by decide +kernel
theorem jd_Tree_init_17 : decode jm_m_Tree_init.2.1 17 = .ok (.putfield 13, 3) := by decide +kernel
theorem jd_Tree_init_20 : decode jm_m_Tree_init.2.1 20 = .ok (.aload_n 0, 1) := by decide +kernel
theorem jd_Tree_init_21 : decode jm_m_Tree_init.2.1 21 = .ok (.bipush 30, 2) := by decide +kernel
theorem jd_Tree_init_23 : decode jm_m_Tree_init.2.1 23 = .ok (.newarray .int, 2) := by decide +kernel
theorem jd_Tree_init_25 : decode jm_m_Tree_init.2.1 25 = .ok (.putfield 16, 3) := by decide +kernel
theorem jd_Tree_init_28 : decode jm_m_Tree_init.2.1 28 = .ok (.aload_n 0, 1) := by decide +kernel
theorem jd_Tree_init_29 : decode jm_m_Tree_init.2.1 29 = .ok (.bipush 30, 2) := by decide +kernel
theorem jd_Tree_init_31 : decode jm_m_Tree_init.2.1 31 = .ok (.newarray .int, 2) := by decide +kernel
theorem jd_Tree_init_33 : decode jm_m_Tree_init.2.1 33 = .ok (.putfield 19, 3) := by decide +kernel
theorem jd_Tree_init_36 : decode jm_m_Tree_init.2.1 36 = .ok (.return_, 1) := by decide +kernel
theorem jd_Tree_has_0 : decode jm_m_Tree_has.2.1 0 = .ok (.iload_n 1, 1) := by decide +kernel
theorem jd_Tree_has_1 : decode jm_m_Tree_has.2.1 1 = .ok (.ifCond .lt 15, 3) := by decide +kernel
theorem jd_Tree_has_4 : decode jm_m_Tree_has.2.1 4 = .ok (.iload_n 1, 1) := by decide +kernel
theorem jd_Tree_has_5 : decode jm_m_Tree_has.2.1 5 = .ok (.aload_n 0, 1) := by decide +kernel
theorem jd_Tree_has_6 : decode jm_m_Tree_has.2.1 6 = .ok (.getfield 22, 3) := by decide +kernel
theorem jd_Tree_has_9 : decode jm_m_Tree_has.2.1 9 = .ok (.if_icmp .ge 7, 3) := by decide +kernel
theorem jd_Tree_has_12 : decode jm_m_Tree_has.2.1 12 = .ok (.iconst 1, 1) := by decide +kernel
theorem jd_Tree_has_13 : decode jm_m_Tree_has.2.1 13 = .ok (.goto 4, 3) := by decide +kernel
theorem jd_Tree_has_16 : decode jm_m_Tree_has.2.1 16 = .ok (.iconst 0, 1) := by decide +kernel
theorem jd_Tree_has_17 : decode jm_m_Tree_has.2.1 17 = .ok (.ireturn, 1) := by decide +kernel
theorem jd_Tree_take_0 : decode jm_m_Tree_take.2.1 0 = .ok (.aload_n 0, 1) := by decide +kernel
theorem jd_Tree_take_1 : decode jm_m_Tree_take.2.1 1 = .ok (.aload_n 1, 1) := by decide +kernel
theorem jd_Tree_take_2 : decode jm_m_Tree_take.2.1 2 = .ok (.getfield 26, 3) := by decide +kernel
theorem jd_Tree_take_5 : decode jm_m_Tree_take.2.1 5 = .ok (.bipush 30, 2) := by decide +kernel
theorem jd_Tree_take_7 : decode jm_m_Tree_take.2.1 7 = .ok (.invokestatic 29, 3) := by decide +kernel
theorem jd_Tree_take_10 : decode jm_m_Tree_take.2.1 10 = .ok (.putfield 22, 3) := by decide +kernel
theorem jd_Tree_take_13 : decode jm_m_Tree_take.2.1 13 = .ok (.iconst 0, 1) := by decide +kernel
theorem jd_Tree_take_14 : decode jm_m_Tree_take.2.1 14 = .ok (.istore_n 2, 1) := by decide +kernel
theorem jd_Tree_take_15 : decode jm_m_Tree_take.2.1 15 = .ok (.iload_n 2, 1) := by decide +kernel
theorem jd_Tree_take_16 : decode jm_m_Tree_take.2.1 16 = .ok (.aload_n 0, 1) := by decide +kernel
theorem jd_Tree_take_17 : decode jm_m_Tree_take.2.1 17 = .ok (.getfield 22, 3) := by decide +kernel
theorem jd_Tree_take_20 : decode jm_m_Tree_take.2.1 20 = .ok (.if_icmp .ge 28, 3) := by decide +kernel
theorem jd_Tree_take_23 : decode jm_m_Tree_take.2.1 23 = .ok (.aload_n 0, 1) := by decide +kernel
theorem jd_Tree_take_24 : decode jm_m_Tree_take.2.1 24 = .ok (.getfield 9, 3) := by decide +kernel
theorem jd_Tree_take_27 : decode jm_m_Tree_take.2.1 27 = .ok (.iload_n 2, 1) := by decide +kernel
theorem jd_Tree_take_28 : decode jm_m_Tree_take.2.1 28 = .ok (.aload_n 1, 1) := by decide +kernel
theorem jd_Tree_take_29 : decode jm_m_Tree_take.2.1 29 = .ok (.getfield 35, 3) := by decide +kernel
theorem jd_Tree_take_32 : decode jm_m_Tree_take.2.1 32 = .ok (.iload_n 2, 1) := by decide +kernel
theorem jd_Tree_take_33 : decode jm_m_Tree_take.2.1 33 = .ok (.iaload, 1) := by decide +kernel
theorem jd_Tree_take_34 : decode jm_m_Tree_take.2.1 34 = .ok (.iastore, 1) := by decide +kernel
theorem jd_Tree_take_35 : decode jm_m_Tree_take.2.1 35 = .ok (.aload_n 0, 1) := by decide +kernel
theorem jd_Tree_take_36 : decode jm_m_Tree_take.2.1 36 = .ok (.getfield 13, 3) := by decide +kernel
theorem jd_Tree_take_39 : decode jm_m_Tree_take.2.1 39 = .ok (.iload_n 2, 1) := by decide +kernel
theorem jd_Tree_take_40 : decode jm_m_Tree_take.2.1 40 = .ok (.iconst (-1), 1) := by decide +kernel
theorem jd_Tree_take_41 : decode jm_m_Tree_take.2.1 41 = .ok (.iastore, 1) := by decide +kernel
theorem jd_Tree_take_42 : decode jm_m_Tree_take.2.1 42 = .ok (.iinc 2 1, 3) := by decide +kernel
theorem jd_Tree_take_45 : decode jm_m_Tree_take.2.1 45 = .ok (.goto (-30), 3) := by decide +kernel
theorem jd_Tree_take_48 : decode jm_m_Tree_take.2.1 48 = .ok (.aload_n 0, 1) := by decide +kernel
theorem jd_Tree_take_49 : decode jm_m_Tree_take.2.1 49 = .ok (.getfield 22, 3) := by decide +kernel
theorem jd_Tree_take_52 : decode jm_m_Tree_take.2.1 52 = .ok (.iconst 1, 1) := by decide +kernel
theorem jd_Tree_take_53 : decode jm_m_Tree_take.2.1 53 = .ok (.isub, 1) := by decide +kernel
theorem jd_Tree_take_54 : decode jm_m_Tree_take.2.1 54 = .ok (.istore_n 2, 1) := by decide +kernel
theorem jd_Tree_take_55 : decode jm_m_Tree_take.2.1 55 = .ok (.iload_n 2, 1) := by decide +kernel
theorem jd_Tree_take_56 : decode jm_m_Tree_take.2.1 56 = .ok (.ifCond .lt 14, 3) := by decide +kernel
theorem jd_Tree_take_59 : decode jm_m_Tree_take.2.1 59 = .ok (.aload_n 0, 1) := by decide +kernel
theorem jd_Tree_take_60 : decode jm_m_Tree_take.2.1 60 = .ok (.iload_n 2, 1) := by decide +kernel
theorem jd_Tree_take_61 : decode jm_m_Tree_take.2.1 61 = .ok (.invokevirtual 36, 3) := by decide +kernel
theorem jd_Tree_take_64 : decode jm_m_Tree_take.2.1 64 = .ok (.iinc 2 (-1), 3) := by decide +kernel
theorem jd_Tree_take_67 : decode jm_m_Tree_take.2.1 67 = .ok (.goto (-12), 3) := by decide +kernel
theorem jd_Tree_take_70 : decode jm_m_Tree_take.2.1 70 = .ok (.return_, 1) := by decide +kernel
theorem jd_Tree_measure_0 : decode jm_m_Tree_measure.2.1 0 = .ok (.aload_n 0, 1) := by decide +kernel
theorem jd_Tree_measure_1 : decode jm_m_Tree_measure.2.1 1 = .ok (.getfield 16, 3) := by decide +kernel
theorem jd_Tree_measure_4 : decode jm_m_Tree_measure.2.1 4 = .ok (.iload_n 1, 1) := by decide +kernel
theorem jd_Tree_measure_5 : decode jm_m_Tree_measure.2.1 5 = .ok (.iconst 1, 1) := by decide +kernel
theorem jd_Tree_measure_6 : decode jm_m_Tree_measure.2.1 6 = .ok (.iastore, 1) := by decide +kernel
theorem jd_Tree_measure_7 : decode jm_m_Tree_measure.2.1 7 = .ok (.aload_n 0, 1) := by decide +kernel
theorem jd_Tree_measure_8 : decode jm_m_Tree_measure.2.1 8 = .ok (.getfield 19, 3) := by decide +kernel
theorem jd_Tree_measure_11 : decode jm_m_Tree_measure.2.1 11 = .ok (.iload_n 1, 1) := by decide +kernel
theorem jd_Tree_measure_12 : decode jm_m_Tree_measure.2.1 12 = .ok (.iconst 1, 1) := by decide +kernel
theorem jd_Tree_measure_13 : decode jm_m_Tree_measure.2.1 13 = .ok (.iastore, 1) := by decide +kernel
theorem jd_Tree_measure_14 : decode jm_m_Tree_measure.2.1 14 = .ok (.aload_n 0, 1) := by decide +kernel
theorem jd_Tree_measure_15 : decode jm_m_Tree_measure.2.1 15 = .ok (.iload_n 1, 1) := by decide +kernel
theorem jd_Tree_measure_16 : decode jm_m_Tree_measure.2.1 16 = .ok (.invokevirtual 40, 3) := by decide +kernel
theorem jd_Tree_measure_19 : decode jm_m_Tree_measure.2.1 19 = .ok (.istore_n 2, 1) := by decide +kernel
theorem jd_Tree_measure_20 : decode jm_m_Tree_measure.2.1 20 = .ok (.iload_n 2, 1) := by decide +kernel
theorem jd_Tree_measure_21 : decode jm_m_Tree_measure.2.1 21 = .ok (.ifCond .ge 4, 3) := by decide +kernel
theorem jd_Tree_measure_24 : decode jm_m_Tree_measure.2.1 24 = .ok (.return_, 1) := by decide +kernel
theorem jd_Tree_measure_25 : decode jm_m_Tree_measure.2.1 25 = .ok (.aload_n 0, 1) := by decide +kernel
theorem jd_Tree_measure_26 : decode jm_m_Tree_measure.2.1 26 = .ok (.getfield 13, 3) := by decide +kernel
theorem jd_Tree_measure_29 : decode jm_m_Tree_measure.2.1 29 = .ok (.iload_n 2, 1) := by decide +kernel
theorem jd_Tree_measure_30 : decode jm_m_Tree_measure.2.1 30 = .ok (.iload_n 1, 1) := by decide +kernel
theorem jd_Tree_measure_31 : decode jm_m_Tree_measure.2.1 31 = .ok (.iastore, 1) := by decide +kernel
theorem jd_Tree_measure_32 : decode jm_m_Tree_measure.2.1 32 = .ok (.aload_n 0, 1) := by decide +kernel
theorem jd_Tree_measure_33 : decode jm_m_Tree_measure.2.1 33 = .ok (.getfield 16, 3) := by decide +kernel
theorem jd_Tree_measure_36 : decode jm_m_Tree_measure.2.1 36 = .ok (.iload_n 1, 1) := by decide +kernel
theorem jd_Tree_measure_37 : decode jm_m_Tree_measure.2.1 37 = .ok (.dup2, 1) := by decide +kernel
theorem jd_Tree_measure_38 : decode jm_m_Tree_measure.2.1 38 = .ok (.iaload, 1) := by decide +kernel
theorem jd_Tree_measure_39 : decode jm_m_Tree_measure.2.1 39 = .ok (.aload_n 0, 1) := by decide +kernel
theorem jd_Tree_measure_40 : decode jm_m_Tree_measure.2.1 40 = .ok (.getfield 16, 3) := by decide +kernel
theorem jd_Tree_measure_43 : decode jm_m_Tree_measure.2.1 43 = .ok (.iload_n 2, 1) := by decide +kernel
theorem jd_Tree_measure_44 : decode jm_m_Tree_measure.2.1 44 = .ok (.iaload, 1) := by decide +kernel
theorem jd_Tree_measure_45 : decode jm_m_Tree_measure.2.1 45 = .ok (.iadd, 1) := by decide +kernel
theorem jd_Tree_measure_46 : decode jm_m_Tree_measure.2.1 46 = .ok (.iastore, 1) := by decide +kernel
theorem jd_Tree_measure_47 : decode jm_m_Tree_measure.2.1 47 = .ok (.aload_n 0, 1) := by decide +kernel
theorem jd_Tree_measure_48 : decode jm_m_Tree_measure.2.1 48 = .ok (.getfield 19, 3) := by decide +kernel
theorem jd_Tree_measure_51 : decode jm_m_Tree_measure.2.1 51 = .ok (.iload_n 1, 1) := by decide +kernel
theorem jd_Tree_measure_52 : decode jm_m_Tree_measure.2.1 52 = .ok (.aload_n 0, 1) := by decide +kernel
theorem jd_Tree_measure_53 : decode jm_m_Tree_measure.2.1 53 = .ok (.getfield 19, 3) := by decide +kernel
theorem jd_Tree_measure_56 : decode jm_m_Tree_measure.2.1 56 = .ok (.iload_n 2, 1) := by decide +kernel
theorem jd_Tree_measure_57 : decode jm_m_Tree_measure.2.1 57 = .ok (.iaload, 1) := by decide +kernel
theorem jd_Tree_measure_58 : decode jm_m_Tree_measure.2.1 58 = .ok (.iastore, 1) := by decide +kernel
theorem jd_Tree_measure_59 : decode jm_m_Tree_measure.2.1 59 = .ok (.aload_n 0, 1) := by decide +kernel
theorem jd_Tree_measure_60 : decode jm_m_Tree_measure.2.1 60 = .ok (.iload_n 1, 1) := by decide +kernel
theorem jd_Tree_measure_61 : decode jm_m_Tree_measure.2.1 61 = .ok (.invokevirtual 44, 3) := by decide +kernel
theorem jd_Tree_measure_64 : decode jm_m_Tree_measure.2.1 64 = .ok (.istore_n 3, 1) := by decide +kernel
theorem jd_Tree_measure_65 : decode jm_m_Tree_measure.2.1 65 = .ok (.iload_n 3, 1) := by decide +kernel
theorem jd_Tree_measure_66 : decode jm_m_Tree_measure.2.1 66 = .ok (.ifCond .ge 4, 3) := by decide +kernel
theorem jd_Tree_measure_69 : decode jm_m_Tree_measure.2.1 69 = .ok (.return_, 1) := by decide +kernel
theorem jd_Tree_measure_70 : decode jm_m_Tree_measure.2.1 70 = .ok (.aload_n 0, 1) := by decide +kernel
theorem jd_Tree_measure_71 : decode jm_m_Tree_measure.2.1 71 = .ok (.getfield 13, 3) := by decide +kernel
theorem jd_Tree_measure_74 : decode jm_m_Tree_measure.2.1 74 = .ok (.iload_n 3, 1) := by decide +kernel
theorem jd_Tree_measure_75 : decode jm_m_Tree_measure.2.1 75 = .ok (.iload_n 1, 1) := by decide +kernel
theorem jd_Tree_measure_76 : decode jm_m_Tree_measure.2.1 76 = .ok (.iastore, 1) := by decide +kernel
theorem jd_Tree_measure_77 : decode jm_m_Tree_measure.2.1 77 = .ok (.aload_n 0, 1) := by decide +kernel
theorem jd_Tree_measure_78 : decode jm_m_Tree_measure.2.1 78 = .ok (.getfield 16, 3) := by decide +kernel
theorem jd_Tree_measure_81 : decode jm_m_Tree_measure.2.1 81 = .ok (.iload_n 1, 1) := by decide +kernel
theorem jd_Tree_measure_82 : decode jm_m_Tree_measure.2.1 82 = .ok (.dup2, 1) := by decide +kernel
theorem jd_Tree_measure_83 : decode jm_m_Tree_measure.2.1 83 = .ok (.iaload, 1) := by decide +kernel
theorem jd_Tree_measure_84 : decode jm_m_Tree_measure.2.1 84 = .ok (.aload_n 0, 1) := by decide +kernel
theorem jd_Tree_measure_85 : decode jm_m_Tree_measure.2.1 85 = .ok (.getfield 16, 3) := by decide +kernel
theorem jd_Tree_measure_88 : decode jm_m_Tree_measure.2.1 88 = .ok (.iload_n 3, 1) := by decide +kernel
theorem jd_Tree_measure_89 : decode jm_m_Tree_measure.2.1 89 = .ok (.iaload, 1) := by decide +kernel
theorem jd_Tree_measure_90 : decode jm_m_Tree_measure.2.1 90 = .ok (.iadd, 1) := by decide +kernel
theorem jd_Tree_measure_91 : decode jm_m_Tree_measure.2.1 91 = .ok (.iastore, 1) := by decide +kernel
theorem jd_Tree_measure_92 : decode jm_m_Tree_measure.2.1 92 = .ok (.aload_n 0, 1) := by decide +kernel
theorem jd_Tree_measure_93 : decode jm_m_Tree_measure.2.1 93 = .ok (.getfield 19, 3) := by decide +kernel
theorem jd_Tree_measure_96 : decode jm_m_Tree_measure.2.1 96 = .ok (.iload_n 1, 1) := by decide +kernel
theorem jd_Tree_measure_97 : decode jm_m_Tree_measure.2.1 97 = .ok (.aload_n 0, 1) := by decide +kernel
theorem jd_Tree_measure_98 : decode jm_m_Tree_measure.2.1 98 = .ok (.getfield 19, 3) := by decide +kernel
theorem jd_Tree_measure_101 : decode jm_m_Tree_measure.2.1 101 = .ok (.iload_n 2, 1) := by decide +kernel
theorem jd_Tree_measure_102 : decode jm_m_Tree_measure.2.1 102 = .ok (.iaload, 1) := by decide +kernel
theorem jd_Tree_measure_103 : decode jm_m_Tree_measure.2.1 103 = .ok (.aload_n 0, 1) := by decide +kernel
theorem jd_Tree_measure_104 : decode jm_m_Tree_measure.2.1 104 = .ok (.getfield 19, 3) := by decide +kernel
theorem jd_Tree_measure_107 : decode jm_m_Tree_measure.2.1 107 = .ok (.iload_n 3, 1) := by decide +kernel
theorem jd_Tree_measure_108 : decode jm_m_Tree_measure.2.1 108 = .ok (.iaload, 1) := by decide +kernel
theorem jd_Tree_measure_109 : decode jm_m_Tree_measure.2.1 109 = .ok (.if_icmp .ne 14, 3) := by decide +kernel
theorem jd_Tree_measure_112 : decode jm_m_Tree_measure.2.1 112 = .ok (.aload_n 0, 1) := by decide +kernel
theorem jd_Tree_measure_113 : decode jm_m_Tree_measure.2.1 113 = .ok (.getfield 19, 3) := by decide +kernel
theorem jd_Tree_measure_116 : decode jm_m_Tree_measure.2.1 116 = .ok (.iload_n 2, 1) := by decide +kernel
theorem jd_Tree_measure_117 : decode jm_m_Tree_measure.2.1 117 = .ok (.iaload, 1) := by decide +kernel
theorem jd_Tree_measure_118 : decode jm_m_Tree_measure.2.1 118 = .ok (.iconst 1, 1) := by decide +kernel
theorem jd_Tree_measure_119 : decode jm_m_Tree_measure.2.1 119 = .ok (.iadd, 1) := by decide +kernel
theorem jd_Tree_measure_120 : decode jm_m_Tree_measure.2.1 120 = .ok (.goto 18, 3) := by decide +kernel
theorem jd_Tree_measure_123 : decode jm_m_Tree_measure.2.1 123 = .ok (.aload_n 0, 1) := by decide +kernel
theorem jd_Tree_measure_124 : decode jm_m_Tree_measure.2.1 124 = .ok (.getfield 19, 3) := by decide +kernel
theorem jd_Tree_measure_127 : decode jm_m_Tree_measure.2.1 127 = .ok (.iload_n 2, 1) := by decide +kernel
theorem jd_Tree_measure_128 : decode jm_m_Tree_measure.2.1 128 = .ok (.iaload, 1) := by decide +kernel
theorem jd_Tree_measure_129 : decode jm_m_Tree_measure.2.1 129 = .ok (.aload_n 0, 1) := by decide +kernel
theorem jd_Tree_measure_130 : decode jm_m_Tree_measure.2.1 130 = .ok (.getfield 19, 3) := by decide +kernel
theorem jd_Tree_measure_133 : decode jm_m_Tree_measure.2.1 133 = .ok (.iload_n 3, 1) := by decide +kernel
theorem jd_Tree_measure_134 : decode jm_m_Tree_measure.2.1 134 = .ok (.iaload, 1) := by decide +kernel
theorem jd_Tree_measure_135 : decode jm_m_Tree_measure.2.1 135 = .ok (.invokestatic 47, 3) := by decide +kernel
theorem jd_Tree_measure_138 : decode jm_m_Tree_measure.2.1 138 = .ok (.iastore, 1) := by decide +kernel
theorem jd_Tree_measure_139 : decode jm_m_Tree_measure.2.1 139 = .ok (.return_, 1) := by decide +kernel
theorem jd_Tree_firstPart_0 : decode jm_m_Tree_firstPart.2.1 0 = .ok (.aload_n 0, 1) := by decide +kernel
theorem jd_Tree_firstPart_1 : decode jm_m_Tree_firstPart.2.1 1 = .ok (.getfield 9, 3) := by decide +kernel
theorem jd_Tree_firstPart_4 : decode jm_m_Tree_firstPart.2.1 4 = .ok (.iload_n 1, 1) := by decide +kernel
theorem jd_Tree_firstPart_5 : decode jm_m_Tree_firstPart.2.1 5 = .ok (.iaload, 1) := by decide +kernel
theorem jd_Tree_firstPart_6 : decode jm_m_Tree_firstPart.2.1 6 = .ok (.invokestatic 50, 3) := by decide +kernel
theorem jd_Tree_firstPart_9 : decode jm_m_Tree_firstPart.2.1 9 = .ok (.iconst 1, 1) := by decide +kernel
theorem jd_Tree_firstPart_10 : decode jm_m_Tree_firstPart.2.1 10 = .ok (.if_icmp .lt 19, 3) := by decide +kernel
theorem jd_Tree_firstPart_13 : decode jm_m_Tree_firstPart.2.1 13 = .ok (.iload_n 1, 1) := by decide +kernel
theorem jd_Tree_firstPart_14 : decode jm_m_Tree_firstPart.2.1 14 = .ok (.iconst 1, 1) := by decide +kernel
theorem jd_Tree_firstPart_15 : decode jm_m_Tree_firstPart.2.1 15 = .ok (.iadd, 1) := by decide +kernel
theorem jd_Tree_firstPart_16 : decode jm_m_Tree_firstPart.2.1 16 = .ok (.aload_n 0, 1) := by decide +kernel
theorem jd_Tree_firstPart_17 : decode jm_m_Tree_firstPart.2.1 17 = .ok (.getfield 22, 3) := by decide +kernel
theorem jd_Tree_firstPart_20 : decode jm_m_Tree_firstPart.2.1 20 = .ok (.if_icmp .ge 9, 3) := by decide +kernel
theorem jd_Tree_firstPart_23 : decode jm_m_Tree_firstPart.2.1 23 = .ok (.iload_n 1, 1) := by decide +kernel
theorem jd_Tree_firstPart_24 : decode jm_m_Tree_firstPart.2.1 24 = .ok (.iconst 1, 1) := by decide +kernel
theorem jd_Tree_firstPart_25 : decode jm_m_Tree_firstPart.2.1 25 = .ok (.iadd, 1) := by decide +kernel
theorem jd_Tree_firstPart_26 : decode jm_m_Tree_firstPart.2.1 26 = .ok (.goto 4, 3) := by decide +kernel
theorem jd_Tree_firstPart_29 : decode jm_m_Tree_firstPart.2.1 29 = .ok (.iconst (-1), 1) := by decide +kernel
theorem jd_Tree_firstPart_30 : decode jm_m_Tree_firstPart.2.1 30 = .ok (.ireturn, 1) := by decide +kernel
theorem jd_Tree_secondPart_0 : decode jm_m_Tree_secondPart.2.1 0 = .ok (.aload_n 0, 1) := by decide +kernel
theorem jd_Tree_secondPart_1 : decode jm_m_Tree_secondPart.2.1 1 = .ok (.getfield 9, 3) := by decide +kernel
theorem jd_Tree_secondPart_4 : decode jm_m_Tree_secondPart.2.1 4 = .ok (.iload_n 1, 1) := by decide +kernel
theorem jd_Tree_secondPart_5 : decode jm_m_Tree_secondPart.2.1 5 = .ok (.iaload, 1) := by decide +kernel
theorem jd_Tree_secondPart_6 : decode jm_m_Tree_secondPart.2.1 6 = .ok (.invokestatic 50, 3) := by decide +kernel
theorem jd_Tree_secondPart_9 : decode jm_m_Tree_secondPart.2.1 9 = .ok (.iconst 2, 1) := by decide +kernel
theorem jd_Tree_secondPart_10 : decode jm_m_Tree_secondPart.2.1 10 = .ok (.if_icmp .lt 13, 3) := by decide +kernel
theorem jd_Tree_secondPart_13 : decode jm_m_Tree_secondPart.2.1 13 = .ok (.iload_n 1, 1) := by decide +kernel
theorem jd_Tree_secondPart_14 : decode jm_m_Tree_secondPart.2.1 14 = .ok (.iconst 1, 1) := by decide +kernel
theorem jd_Tree_secondPart_15 : decode jm_m_Tree_secondPart.2.1 15 = .ok (.iadd, 1) := by decide +kernel
theorem jd_Tree_secondPart_16 : decode jm_m_Tree_secondPart.2.1 16 = .ok (.aload_n 0, 1) := by decide +kernel
theorem jd_Tree_secondPart_17 : decode jm_m_Tree_secondPart.2.1 17 = .ok (.getfield 22, 3) := by decide +kernel
theorem jd_Tree_secondPart_20 : decode jm_m_Tree_secondPart.2.1 20 = .ok (.if_icmp .lt 5, 3) := by decide +kernel
theorem jd_Tree_secondPart_23 : decode jm_m_Tree_secondPart.2.1 23 = .ok (.iconst (-1), 1) := by decide +kernel
theorem jd_Tree_secondPart_24 : decode jm_m_Tree_secondPart.2.1 24 = .ok (.ireturn, 1) := by decide +kernel
theorem jd_Tree_secondPart_25 : decode jm_m_Tree_secondPart.2.1 25 = .ok (.iload_n 1, 1) := by decide +kernel
theorem jd_Tree_secondPart_26 : decode jm_m_Tree_secondPart.2.1 26 = .ok (.iconst 1, 1) := by decide +kernel
theorem jd_Tree_secondPart_27 : decode jm_m_Tree_secondPart.2.1 27 = .ok (.iadd, 1) := by decide +kernel
theorem jd_Tree_secondPart_28 : decode jm_m_Tree_secondPart.2.1 28 = .ok (.aload_n 0, 1) := by decide +kernel
theorem jd_Tree_secondPart_29 : decode jm_m_Tree_secondPart.2.1 29 = .ok (.getfield 16, 3) := by decide +kernel
theorem jd_Tree_secondPart_32 : decode jm_m_Tree_secondPart.2.1 32 = .ok (.iload_n 1, 1) := by decide +kernel
theorem jd_Tree_secondPart_33 : decode jm_m_Tree_secondPart.2.1 33 = .ok (.iconst 1, 1) := by decide +kernel
theorem jd_Tree_secondPart_34 : decode jm_m_Tree_secondPart.2.1 34 = .ok (.iadd, 1) := by decide +kernel
theorem jd_Tree_secondPart_35 : decode jm_m_Tree_secondPart.2.1 35 = .ok (.iaload, 1) := by decide +kernel
theorem jd_Tree_secondPart_36 : decode jm_m_Tree_secondPart.2.1 36 = .ok (.iadd, 1) := by decide +kernel
theorem jd_Tree_secondPart_37 : decode jm_m_Tree_secondPart.2.1 37 = .ok (.istore_n 2, 1) := by decide +kernel
theorem jd_Tree_secondPart_38 : decode jm_m_Tree_secondPart.2.1 38 = .ok (.iload_n 2, 1) := by decide +kernel
theorem jd_Tree_secondPart_39 : decode jm_m_Tree_secondPart.2.1 39 = .ok (.aload_n 0, 1) := by decide +kernel
theorem jd_Tree_secondPart_40 : decode jm_m_Tree_secondPart.2.1 40 = .ok (.getfield 22, 3) := by decide +kernel
theorem jd_Tree_secondPart_43 : decode jm_m_Tree_secondPart.2.1 43 = .ok (.if_icmp .ge 7, 3) := by decide +kernel
theorem jd_Tree_secondPart_46 : decode jm_m_Tree_secondPart.2.1 46 = .ok (.iload_n 2, 1) := by decide +kernel
theorem jd_Tree_secondPart_47 : decode jm_m_Tree_secondPart.2.1 47 = .ok (.goto 4, 3) := by decide +kernel
theorem jd_Tree_secondPart_50 : decode jm_m_Tree_secondPart.2.1 50 = .ok (.iconst (-1), 1) := by decide +kernel
theorem jd_Tree_secondPart_51 : decode jm_m_Tree_secondPart.2.1 51 = .ok (.ireturn, 1) := by decide +kernel
theorem jd_Tree_storesWith_0 : decode jm_m_Tree_storesWith.2.1 0 = .ok (.iconst 0, 1) := by decide +kernel
theorem jd_Tree_storesWith_1 : decode jm_m_Tree_storesWith.2.1 1 = .ok (.istore_n 2, 1) := by decide +kernel
theorem jd_Tree_storesWith_2 : decode jm_m_Tree_storesWith.2.1 2 = .ok (.iconst 0, 1) := by decide +kernel
theorem jd_Tree_storesWith_3 : decode jm_m_Tree_storesWith.2.1 3 = .ok (.istore_n 3, 1) := by decide +kernel
theorem jd_Tree_storesWith_4 : decode jm_m_Tree_storesWith.2.1 4 = .ok (.iload_n 3, 1) := by decide +kernel
theorem jd_Tree_storesWith_5 : decode jm_m_Tree_storesWith.2.1 5 = .ok (.aload_n 0, 1) := by decide +kernel
theorem jd_Tree_storesWith_6 : decode jm_m_Tree_storesWith.2.1 6 = .ok (.getfield 22, 3) := by decide +kernel
theorem jd_Tree_storesWith_9 : decode jm_m_Tree_storesWith.2.1 9 = .ok (.if_icmp .ge 58, 3) := by decide +kernel
theorem jd_Tree_storesWith_12 : decode jm_m_Tree_storesWith.2.1 12 = .ok (.aload_n 0, 1) := by decide +kernel
theorem jd_Tree_storesWith_13 : decode jm_m_Tree_storesWith.2.1 13 = .ok (.iload_n 3, 1) := by decide +kernel
theorem jd_Tree_storesWith_14 : decode jm_m_Tree_storesWith.2.1 14 = .ok (.invokevirtual 40, 3) := by decide +kernel
theorem jd_Tree_storesWith_17 : decode jm_m_Tree_storesWith.2.1 17 = .ok (.istore 4, 2) := by decide +kernel
theorem jd_Tree_storesWith_19 : decode jm_m_Tree_storesWith.2.1 19 = .ok (.aload_n 0, 1) := by decide +kernel
theorem jd_Tree_storesWith_20 : decode jm_m_Tree_storesWith.2.1 20 = .ok (.iload_n 3, 1) := by decide +kernel
theorem jd_Tree_storesWith_21 : decode jm_m_Tree_storesWith.2.1 21 = .ok (.invokevirtual 44, 3) := by decide +kernel
theorem jd_Tree_storesWith_24 : decode jm_m_Tree_storesWith.2.1 24 = .ok (.istore 5, 2) := by decide +kernel
theorem jd_Tree_storesWith_26 : decode jm_m_Tree_storesWith.2.1 26 = .ok (.iload 4, 2) := by decide +kernel
theorem jd_Tree_storesWith_28 : decode jm_m_Tree_storesWith.2.1 28 = .ok (.ifCond .lt 33, 3) := by decide +kernel
theorem jd_Tree_storesWith_31 : decode jm_m_Tree_storesWith.2.1 31 = .ok (.iload 5, 2) := by decide +kernel
theorem jd_Tree_storesWith_33 : decode jm_m_Tree_storesWith.2.1 33 = .ok (.ifCond .lt 28, 3) := by decide +kernel
theorem jd_Tree_storesWith_36 : decode jm_m_Tree_storesWith.2.1 36 = .ok (.aload_n 0, 1) := by decide +kernel
theorem jd_Tree_storesWith_37 : decode jm_m_Tree_storesWith.2.1 37 = .ok (.getfield 19, 3) := by decide +kernel
theorem jd_Tree_storesWith_40 : decode jm_m_Tree_storesWith.2.1 40 = .ok (.iload 4, 2) := by decide +kernel
theorem jd_Tree_storesWith_42 : decode jm_m_Tree_storesWith.2.1 42 = .ok (.iaload, 1) := by decide +kernel
theorem jd_Tree_storesWith_43 : decode jm_m_Tree_storesWith.2.1 43 = .ok (.iload_n 1, 1) := by decide +kernel
theorem jd_Tree_storesWith_44 : decode jm_m_Tree_storesWith.2.1 44 = .ok (.if_icmp .lt 17, 3) := by decide +kernel
theorem jd_Tree_storesWith_47 : decode jm_m_Tree_storesWith.2.1 47 = .ok (.aload_n 0, 1) := by decide +kernel
theorem jd_Tree_storesWith_48 : decode jm_m_Tree_storesWith.2.1 48 = .ok (.getfield 19, 3) := by decide +kernel
theorem jd_Tree_storesWith_51 : decode jm_m_Tree_storesWith.2.1 51 = .ok (.iload 5, 2) := by decide +kernel
theorem jd_Tree_storesWith_53 : decode jm_m_Tree_storesWith.2.1 53 = .ok (.iaload, 1) := by decide +kernel
theorem jd_Tree_storesWith_54 : decode jm_m_Tree_storesWith.2.1 54 = .ok (.iload_n 1, 1) := by decide +kernel
theorem jd_Tree_storesWith_55 : decode jm_m_Tree_storesWith.2.1 55 = .ok (.if_icmp .lt 6, 3) := by decide +kernel
theorem jd_Tree_storesWith_58 : decode jm_m_Tree_storesWith.2.1 58 = .ok (.iinc 2 1, 3) := by decide +kernel
theorem jd_Tree_storesWith_61 : decode jm_m_Tree_storesWith.2.1 61 = .ok (.iinc 3 1, 3) := by decide +kernel
theorem jd_Tree_storesWith_64 : decode jm_m_Tree_storesWith.2.1 64 = .ok (.goto (-60), 3) := by decide +kernel
theorem jd_Tree_storesWith_67 : decode jm_m_Tree_storesWith.2.1 67 = .ok (.iload_n 2, 1) := by decide +kernel
theorem jd_Tree_storesWith_68 : decode jm_m_Tree_storesWith.2.1 68 = .ok (.ireturn, 1) := by decide +kernel
