theorem jd_Mod_findCode_59 : decode jm_m_Mod_findCode.2.1 59 = .ok (.aload_n 0, 1) := by decide +kernel
theorem jd_Mod_findCode_60 : decode jm_m_Mod_findCode.2.1 60 = .ok (.getfield 64, 3) := by decide +kernel
theorem jd_Mod_findCode_63 : decode jm_m_Mod_findCode.2.1 63 = .ok (.aload_n 0, 1) := by decide +kernel
theorem jd_Mod_findCode_64 : decode jm_m_Mod_findCode.2.1 64 = .ok (.getfield 210, 3) := by decide +kernel
theorem jd_Mod_findCode_67 : decode jm_m_Mod_findCode.2.1 67 = .ok (.aload_n 0, 1) := by decide +kernel
theorem jd_Mod_findCode_68 : decode jm_m_Mod_findCode.2.1 68 = .ok (.getfield 61, 3) := by decide +kernel
theorem jd_Mod_findCode_71 : decode jm_m_Mod_findCode.2.1 71 = .ok (.aload_n 0, 1) := by decide +kernel
theorem jd_Mod_findCode_72 : decode jm_m_Mod_findCode.2.1 72 = .ok (.getfield 203, 3) := by decide +kernel
theorem jd_Mod_findCode_75 : decode jm_m_Mod_findCode.2.1 75 = .ok (.iaload, 1) := by decide +kernel
theorem jd_Mod_findCode_76 : decode jm_m_Mod_findCode.2.1 76 = .ok (.iastore, 1) := by decide +kernel
theorem jd_Mod_findCode_77 : decode jm_m_Mod_findCode.2.1 77 = .ok (.aload_n 0, 1) := by decide +kernel
theorem jd_Mod_findCode_78 : decode jm_m_Mod_findCode.2.1 78 = .ok (.getfield 67, 3) := by decide +kernel
theorem jd_Mod_findCode_81 : decode jm_m_Mod_findCode.2.1 81 = .ok (.aload_n 0, 1) := by decide +kernel
theorem jd_Mod_findCode_82 : decode jm_m_Mod_findCode.2.1 82 = .ok (.getfield 210, 3) := by decide +kernel
theorem jd_Mod_findCode_85 : decode jm_m_Mod_findCode.2.1 85 = .ok (.iload_n 1, 1) := by decide +kernel
theorem jd_Mod_findCode_86 : decode jm_m_Mod_findCode.2.1 86 = .ok (.iastore, 1) := by decide +kernel
theorem jd_Mod_findCode_87 : decode jm_m_Mod_findCode.2.1 87 = .ok (.aload_n 0, 1) := by decide +kernel
theorem jd_Mod_findCode_88 : decode jm_m_Mod_findCode.2.1 88 = .ok (.dup, 1) := by decide +kernel
theorem jd_Mod_findCode_89 : decode jm_m_Mod_findCode.2.1 89 = .ok (.getfield 210, 3) := by decide +kernel
theorem jd_Mod_findCode_92 : decode jm_m_Mod_findCode.2.1 92 = .ok (.iconst 1, 1) := by decide +kernel
theorem jd_Mod_findCode_93 : decode jm_m_Mod_findCode.2.1 93 = .ok (.iadd, 1) := by decide +kernel
theorem jd_Mod_findCode_94 : decode jm_m_Mod_findCode.2.1 94 = .ok (.putfield 210, 3) := by decide +kernel
theorem jd_Mod_findCode_97 : decode jm_m_Mod_findCode.2.1 97 = .ok (.goto 47, 3) := by decide +kernel
theorem jd_Mod_findCode_100 : decode jm_m_Mod_findCode.2.1 100 = .ok (.iload_n 2, 1) := by decide +kernel
theorem jd_Mod_findCode_101 : decode jm_m_Mod_findCode.2.1 101 = .ok (.iconst 2, 1) := by decide +kernel
theorem jd_Mod_findCode_102 : decode jm_m_Mod_findCode.2.1 102 = .ok (.if_icmp .ge 16, 3) := by decide +kernel
theorem jd_Mod_findCode_105 : decode jm_m_Mod_findCode.2.1 105 = .ok (.aload_n 0, 1) := by decide +kernel
theorem jd_Mod_findCode_106 : decode jm_m_Mod_findCode.2.1 106 = .ok (.getfield 52, 3) := by decide +kernel
theorem jd_Mod_findCode_109 : decode jm_m_Mod_findCode.2.1 109 = .ok (.iconst 2, 1) := by decide +kernel
theorem jd_Mod_findCode_110 : decode jm_m_Mod_findCode.2.1 110 = .ok (.iload_n 1, 1) := by decide +kernel
theorem jd_Mod_findCode_111 : decode jm_m_Mod_findCode.2.1 111 = .ok (.imul, 1) := by decide +kernel
theorem jd_Mod_findCode_112 : decode jm_m_Mod_findCode.2.1 112 = .ok (.iload_n 2, 1) := by decide +kernel
theorem jd_Mod_findCode_113 : decode jm_m_Mod_findCode.2.1 113 = .ok (.iadd, 1) := by decide +kernel
theorem jd_Mod_findCode_114 : decode jm_m_Mod_findCode.2.1 114 = .ok (.iaload, 1) := by decide +kernel
theorem jd_Mod_findCode_115 : decode jm_m_Mod_findCode.2.1 115 = .ok (.goto 15, 3) := by decide +kernel
theorem jd_Mod_findCode_118 : decode jm_m_Mod_findCode.2.1 118 = .ok (.aload_n 0, 1) := by decide +kernel
theorem jd_Mod_findCode_119 : decode jm_m_Mod_findCode.2.1 119 = .ok (.getfield 46, 3) := by decide +kernel
theorem jd_Mod_findCode_122 : decode jm_m_Mod_findCode.2.1 122 = .ok (.iconst 2, 1) := by decide +kernel
theorem jd_Mod_findCode_123 : decode jm_m_Mod_findCode.2.1 123 = .ok (.iload_n 1, 1) := by decide +kernel
theorem jd_Mod_findCode_124 : decode jm_m_Mod_findCode.2.1 124 = .ok (.imul, 1) := by decide +kernel
theorem jd_Mod_findCode_125 : decode jm_m_Mod_findCode.2.1 125 = .ok (.iload_n 2, 1) := by decide +kernel
theorem jd_Mod_findCode_126 : decode jm_m_Mod_findCode.2.1 126 = .ok (.iadd, 1) := by decide +kernel
theorem jd_Mod_findCode_127 : decode jm_m_Mod_findCode.2.1 127 = .ok (.iconst 2, 1) := by decide +kernel
theorem jd_Mod_findCode_128 : decode jm_m_Mod_findCode.2.1 128 = .ok (.isub, 1) := by decide +kernel
theorem jd_Mod_findCode_129 : decode jm_m_Mod_findCode.2.1 129 = .ok (.iaload, 1) := by decide +kernel
theorem jd_Mod_findCode_130 : decode jm_m_Mod_findCode.2.1 130 = .ok (.istore_n 3, 1) := by decide +kernel
theorem jd_Mod_findCode_131 : decode jm_m_Mod_findCode.2.1 131 = .ok (.aload_n 0, 1) := by decide +kernel
theorem jd_Mod_findCode_132 : decode jm_m_Mod_findCode.2.1 132 = .ok (.iload_n 1, 1) := by decide +kernel
theorem jd_Mod_findCode_133 : decode jm_m_Mod_findCode.2.1 133 = .ok (.iconst (-1), 1) := by decide +kernel
theorem jd_Mod_findCode_134 : decode jm_m_Mod_findCode.2.1 134 = .ok (.iload_n 3, 1) := by decide +kernel
theorem jd_Mod_findCode_135 : decode jm_m_Mod_findCode.2.1 135 = .ok (.invokevirtual 206, 3) := by decide +kernel
theorem jd_Mod_findCode_138 : decode jm_m_Mod_findCode.2.1 138 = .ok (.aload_n 0, 1) := by decide +kernel
theorem jd_Mod_findCode_139 : decode jm_m_Mod_findCode.2.1 139 = .ok (.iload_n 3, 1) := by decide +kernel
theorem jd_Mod_findCode_140 : decode jm_m_Mod_findCode.2.1 140 = .ok (.iload_n 1, 1) := by decide +kernel
theorem jd_Mod_findCode_141 : decode jm_m_Mod_findCode.2.1 141 = .ok (.invokevirtual 213, 3) := by decide +kernel
theorem jd_Mod_findCode_144 : decode jm_m_Mod_findCode.2.1 144 = .ok (.goto (-126), 3) := by decide +kernel
theorem jd_Mod_findCode_147 : decode jm_m_Mod_findCode.2.1 147 = .ok (.return_, 1) := by decide +kernel
theorem jd_Mod_code_0 : decode jm_m_Mod_code.2.1 0 = .ok (.iload_n 2, 1) := by decide +kernel
theorem jd_Mod_code_1 : decode jm_m_Mod_code.2.1 1 = .ok (.i2l, 1) := by decide +kernel
theorem jd_Mod_code_2 : decode jm_m_Mod_code.2.1 2 = .ok (.lconst 0, 1) := by decide +kernel
theorem jd_Mod_code_3 : decode jm_m_Mod_code.2.1 3 = .ok (.lconst 1, 1) := by decide +kernel
theorem jd_Mod_code_4 : decode jm_m_Mod_code.2.1 4 = .ok (.invokestatic 126, 3) := by decide +kernel
theorem jd_Mod_code_7 : decode jm_m_Mod_code.2.1 7 = .ok (.ifCond .ne 6, 3) := by decide +kernel
theorem jd_Mod_code_10 : decode jm_m_Mod_code.2.1 10 = .ok (.bipush (-2), 2) := by decide +kernel
theorem jd_Mod_code_12 : decode jm_m_Mod_code.2.1 12 = .ok (.ireturn, 1) := by decide +kernel
theorem jd_Mod_code_13 : decode jm_m_Mod_code.2.1 13 = .ok (.aload_n 0, 1) := by decide +kernel
theorem jd_Mod_code_14 : decode jm_m_Mod_code.2.1 14 = .ok (.getfield 169, 3) := by decide +kernel
theorem jd_Mod_code_17 : decode jm_m_Mod_code.2.1 17 = .ok (.ifCond .ne 6, 3) := by decide +kernel
theorem jd_Mod_code_20 : decode jm_m_Mod_code.2.1 20 = .ok (.bipush (-3), 2) := by decide +kernel
theorem jd_Mod_code_22 : decode jm_m_Mod_code.2.1 22 = .ok (.ireturn, 1) := by decide +kernel
theorem jd_Mod_code_23 : decode jm_m_Mod_code.2.1 23 = .ok (.aload_n 0, 1) := by decide +kernel
theorem jd_Mod_code_24 : decode jm_m_Mod_code.2.1 24 = .ok (.invokevirtual 200, 3) := by decide +kernel
theorem jd_Mod_code_27 : decode jm_m_Mod_code.2.1 27 = .ok (.aload_n 0, 1) := by decide +kernel
theorem jd_Mod_code_28 : decode jm_m_Mod_code.2.1 28 = .ok (.getfield 52, 3) := by decide +kernel
theorem jd_Mod_code_31 : decode jm_m_Mod_code.2.1 31 = .ok (.iconst 0, 1) := by decide +kernel
theorem jd_Mod_code_32 : decode jm_m_Mod_code.2.1 32 = .ok (.iaload, 1) := by decide +kernel
theorem jd_Mod_code_33 : decode jm_m_Mod_code.2.1 33 = .ok (.ifCond .ge 6, 3) := by decide +kernel
theorem jd_Mod_code_36 : decode jm_m_Mod_code.2.1 36 = .ok (.bipush (-5), 2) := by decide +kernel
theorem jd_Mod_code_38 : decode jm_m_Mod_code.2.1 38 = .ok (.ireturn, 1) := by decide +kernel
theorem jd_Mod_code_39 : decode jm_m_Mod_code.2.1 39 = .ok (.aload_n 0, 1) := by decide +kernel
theorem jd_Mod_code_40 : decode jm_m_Mod_code.2.1 40 = .ok (.invokevirtual 217, 3) := by decide +kernel
theorem jd_Mod_code_43 : decode jm_m_Mod_code.2.1 43 = .ok (.iload_n 1, 1) := by decide +kernel
theorem jd_Mod_code_44 : decode jm_m_Mod_code.2.1 44 = .ok (.iconst (-1), 1) := by decide +kernel
theorem jd_Mod_code_45 : decode jm_m_Mod_code.2.1 45 = .ok (.if_icmp .ne 8, 3) := by decide +kernel
theorem jd_Mod_code_48 : decode jm_m_Mod_code.2.1 48 = .ok (.aload_n 0, 1) := by decide +kernel
theorem jd_Mod_code_49 : decode jm_m_Mod_code.2.1 49 = .ok (.getfield 210, 3) := by decide +kernel
theorem jd_Mod_code_52 : decode jm_m_Mod_code.2.1 52 = .ok (.ireturn, 1) := by decide +kernel
theorem jd_Mod_code_53 : decode jm_m_Mod_code.2.1 53 = .ok (.iload_n 1, 1) := by decide +kernel
theorem jd_Mod_code_54 : decode jm_m_Mod_code.2.1 54 = .ok (.i2l, 1) := by decide +kernel
theorem jd_Mod_code_55 : decode jm_m_Mod_code.2.1 55 = .ok (.lconst 0, 1) := by decide +kernel
theorem jd_Mod_code_56 : decode jm_m_Mod_code.2.1 56 = .ok (.aload_n 0, 1) := by decide +kernel
theorem jd_Mod_code_57 : decode jm_m_Mod_code.2.1 57 = .ok (.getfield 210, 3) := by decide +kernel
theorem jd_Mod_code_60 : decode jm_m_Mod_code.2.1 60 = .ok (.iconst 1, 1) := by decide +kernel
theorem jd_Mod_code_61 : decode jm_m_Mod_code.2.1 61 = .ok (.isub, 1) := by decide +kernel
theorem jd_Mod_code_62 : decode jm_m_Mod_code.2.1 62 = .ok (.i2l, 1) := by decide +kernel
theorem jd_Mod_code_63 : decode jm_m_Mod_code.2.1 63 = .ok (.invokestatic 126, 3) := by decide +kernel
theorem jd_Mod_code_66 : decode jm_m_Mod_code.2.1 66 = .ok (.ifCond .ne 8, 3) := by decide +kernel
theorem jd_Mod_code_69 : decode jm_m_Mod_code.2.1 69 = .ok (.bipush (-6), 2) := by decide +kernel
theorem jd_Mod_code_71 : decode jm_m_Mod_code.2.1 71 = .ok (.goto 22, 3) := by decide +kernel
theorem jd_Mod_code_74 : decode jm_m_Mod_code.2.1 74 = .ok (.iload_n 2, 1) := by decide +kernel
theorem jd_Mod_code_75 : decode jm_m_Mod_code.2.1 75 = .ok (.ifCond .ne 12, 3) := by decide +kernel
theorem jd_Mod_code_78 : decode jm_m_Mod_code.2.1 78 = .ok (.aload_n 0, 1) := by decide +kernel
theorem jd_Mod_code_79 : decode jm_m_Mod_code.2.1 79 = .ok (.getfield 64, 3) := by decide +kernel
theorem jd_Mod_code_82 : decode jm_m_Mod_code.2.1 82 = .ok (.iload_n 1, 1) := by decide +kernel
theorem jd_Mod_code_83 : decode jm_m_Mod_code.2.1 83 = .ok (.iaload, 1) := by decide +kernel
theorem jd_Mod_code_84 : decode jm_m_Mod_code.2.1 84 = .ok (.goto 9, 3) := by decide +kernel
theorem jd_Mod_code_87 : decode jm_m_Mod_code.2.1 87 = .ok (.aload_n 0, 1) := by decide +kernel
theorem jd_Mod_code_88 : decode jm_m_Mod_code.2.1 88 = .ok (.getfield 67, 3) := by decide +kernel
theorem jd_Mod_code_91 : decode jm_m_Mod_code.2.1 91 = .ok (.iload_n 1, 1) := by decide +kernel
theorem jd_Mod_code_92 : decode jm_m_Mod_code.2.1 92 = .ok (.iaload, 1) := by decide +kernel
theorem jd_Mod_code_93 : decode jm_m_Mod_code.2.1 93 = .ok (.ireturn, 1) := by decide +kernel
theorem jd_Mod_stores_0 : decode jm_m_Mod_stores.2.1 0 = .ok (.iload_n 1, 1) := by decide +kernel
theorem jd_Mod_stores_1 : decode jm_m_Mod_stores.2.1 1 = .ok (.i2l, 1) := by decide +kernel
theorem jd_Mod_stores_2 : decode jm_m_Mod_stores.2.1 2 = .ok (.ldc2_w 220, 3) := by decide +kernel
theorem jd_Mod_stores_5 : decode jm_m_Mod_stores.2.1 5 = .ok (.ldc2_w 222, 3) := by decide +kernel
theorem jd_Mod_stores_8 : decode jm_m_Mod_stores.2.1 8 = .ok (.invokestatic 126, 3) := by decide +kernel
theorem jd_Mod_stores_11 : decode jm_m_Mod_stores.2.1 11 = .ok (.ifCond .ne 6, 3) := by decide +kernel
theorem jd_Mod_stores_14 : decode jm_m_Mod_stores.2.1 14 = .ok (.bipush (-2), 2) := by decide +kernel
theorem jd_Mod_stores_16 : decode jm_m_Mod_stores.2.1 16 = .ok (.ireturn, 1) := by decide +kernel
theorem jd_Mod_stores_17 : decode jm_m_Mod_stores.2.1 17 = .ok (.aload_n 0, 1) := by decide +kernel
theorem jd_Mod_stores_18 : decode jm_m_Mod_stores.2.1 18 = .ok (.getfield 169, 3) := by decide +kernel
theorem jd_Mod_stores_21 : decode jm_m_Mod_stores.2.1 21 = .ok (.ifCond .ne 6, 3) := by decide +kernel
theorem jd_Mod_stores_24 : decode jm_m_Mod_stores.2.1 24 = .ok (.bipush (-3), 2) := by decide +kernel
theorem jd_Mod_stores_26 : decode jm_m_Mod_stores.2.1 26 = .ok (.ireturn, 1) := by decide +kernel
theorem jd_Mod_stores_27 : decode jm_m_Mod_stores.2.1 27 = .ok (.iconst 0, 1) := by decide +kernel
theorem jd_Mod_stores_28 : decode jm_m_Mod_stores.2.1 28 = .ok (.istore_n 2, 1) := by decide +kernel
theorem jd_Mod_stores_29 : decode jm_m_Mod_stores.2.1 29 = .ok (.aload_n 0, 1) := by decide +kernel
theorem jd_Mod_stores_30 : decode jm_m_Mod_stores.2.1 30 = .ok (.getfield 169, 3) := by decide +kernel
theorem jd_Mod_stores_33 : decode jm_m_Mod_stores.2.1 33 = .ok (.iconst 1, 1) := by decide +kernel
theorem jd_Mod_stores_34 : decode jm_m_Mod_stores.2.1 34 = .ok (.isub, 1) := by decide +kernel
theorem jd_Mod_stores_35 : decode jm_m_Mod_stores.2.1 35 = .ok (.istore_n 3, 1) := by decide +kernel
theorem jd_Mod_stores_36 : decode jm_m_Mod_stores.2.1 36 = .ok (.iload_n 3, 1) := by decide +kernel
theorem jd_Mod_stores_37 : decode jm_m_Mod_stores.2.1 37 = .ok (.ifCond .lt 137, 3) := by decide +kernel
theorem jd_Mod_stores_40 : decode jm_m_Mod_stores.2.1 40 = .ok (.aload_n 0, 1) := by decide +kernel
theorem jd_Mod_stores_41 : decode jm_m_Mod_stores.2.1 41 = .ok (.getfield 13, 3) := by decide +kernel
theorem jd_Mod_stores_44 : decode jm_m_Mod_stores.2.1 44 = .ok (.iload_n 3, 1) := by decide +kernel
theorem jd_Mod_stores_45 : decode jm_m_Mod_stores.2.1 45 = .ok (.iaload, 1) := by decide +kernel
theorem jd_Mod_stores_46 : decode jm_m_Mod_stores.2.1 46 = .ok (.invokestatic 151, 3) := by decide +kernel
theorem jd_Mod_stores_49 : decode jm_m_Mod_stores.2.1 49 = .ok (.istore 4, 2) := by decide +kernel
theorem jd_Mod_stores_51 : decode jm_m_Mod_stores.2.1 51 = .ok (.iload 4, 2) := by decide +kernel
theorem jd_Mod_stores_53 : decode jm_m_Mod_stores.2.1 53 = .ok (.ifCond .le 14, 3) := by decide +kernel
theorem jd_Mod_stores_56 : decode jm_m_Mod_stores.2.1 56 = .ok (.aload_n 0, 1) := by decide +kernel
theorem jd_Mod_stores_57 : decode jm_m_Mod_stores.2.1 57 = .ok (.getfield 28, 3) := by decide +kernel
theorem jd_Mod_stores_60 : decode jm_m_Mod_stores.2.1 60 = .ok (.iload_n 3, 1) := by decide +kernel
theorem jd_Mod_stores_61 : decode jm_m_Mod_stores.2.1 61 = .ok (.iconst 1, 1) := by decide +kernel
theorem jd_Mod_stores_62 : decode jm_m_Mod_stores.2.1 62 = .ok (.iadd, 1) := by decide +kernel
theorem jd_Mod_stores_63 : decode jm_m_Mod_stores.2.1 63 = .ok (.iaload, 1) := by decide +kernel
theorem jd_Mod_stores_64 : decode jm_m_Mod_stores.2.1 64 = .ok (.goto 4, 3) := by decide +kernel
theorem jd_Mod_stores_67 : decode jm_m_Mod_stores.2.1 67 = .ok (.iconst 1, 1) := by decide +kernel
theorem jd_Mod_stores_68 : decode jm_m_Mod_stores.2.1 68 = .ok (.istore 5, 2) := by decide +kernel
theorem jd_Mod_stores_70 : decode jm_m_Mod_stores.2.1 70 = .ok (.iload 4, 2) := by decide +kernel
theorem jd_Mod_stores_72 : decode jm_m_Mod_stores.2.1 72 = .ok (.iconst 1, 1) := by decide +kernel
theorem jd_Mod_stores_73 : decode jm_m_Mod_stores.2.1 73 = .ok (.if_icmp .le 18, 3) := by decide +kernel
theorem jd_Mod_stores_76 : decode jm_m_Mod_stores.2.1 76 = .ok (.aload_n 0, 1) := by decide +kernel
theorem jd_Mod_stores_77 : decode jm_m_Mod_stores.2.1 77 = .ok (.getfield 28, 3) := by decide +kernel
theorem jd_Mod_stores_80 : decode jm_m_Mod_stores.2.1 80 = .ok (.aload_n 0, 1) := by decide +kernel
theorem jd_Mod_stores_81 : decode jm_m_Mod_stores.2.1 81 = .ok (.iload_n 3, 1) := by decide +kernel
theorem jd_Mod_stores_82 : decode jm_m_Mod_stores.2.1 82 = .ok (.iconst 1, 1) := by decide +kernel
theorem jd_Mod_stores_83 : decode jm_m_Mod_stores.2.1 83 = .ok (.iadd, 1) := by decide +kernel
theorem jd_Mod_stores_84 : decode jm_m_Mod_stores.2.1 84 = .ok (.invokevirtual 172, 3) := by decide +kernel
theorem jd_Mod_stores_87 : decode jm_m_Mod_stores.2.1 87 = .ok (.iaload, 1) := by decide +kernel
theorem jd_Mod_stores_88 : decode jm_m_Mod_stores.2.1 88 = .ok (.goto 4, 3) := by decide +kernel
theorem jd_Mod_stores_91 : decode jm_m_Mod_stores.2.1 91 = .ok (.iconst 0, 1) := by decide +kernel
theorem jd_Mod_stores_92 : decode jm_m_Mod_stores.2.1 92 = .ok (.istore 6, 2) := by decide +kernel
theorem jd_Mod_stores_94 : decode jm_m_Mod_stores.2.1 94 = .ok (.iload_n 2, 1) := by decide +kernel
theorem jd_Mod_stores_95 : decode jm_m_Mod_stores.2.1 95 = .ok (.iload 4, 2) := by decide +kernel
theorem jd_Mod_stores_97 : decode jm_m_Mod_stores.2.1 97 = .ok (.iconst 1, 1) := by decide +kernel
theorem jd_Mod_stores_98 : decode jm_m_Mod_stores.2.1 98 = .ok (.if_icmp .le 19, 3) := by decide +kernel
theorem jd_Mod_stores_101 : decode jm_m_Mod_stores.2.1 101 = .ok (.iload 5, 2) := by decide +kernel
theorem jd_Mod_stores_103 : decode jm_m_Mod_stores.2.1 103 = .ok (.iload_n 1, 1) := by decide +kernel
theorem jd_Mod_stores_104 : decode jm_m_Mod_stores.2.1 104 = .ok (.if_icmp .lt 13, 3) := by decide +kernel
theorem jd_Mod_stores_107 : decode jm_m_Mod_stores.2.1 107 = .ok (.iload 6, 2) := by decide +kernel
theorem jd_Mod_stores_109 : decode jm_m_Mod_stores.2.1 109 = .ok (.iload_n 1, 1) := by decide +kernel
theorem jd_Mod_stores_110 : decode jm_m_Mod_stores.2.1 110 = .ok (.if_icmp .lt 7, 3) := by decide +kernel
theorem jd_Mod_stores_113 : decode jm_m_Mod_stores.2.1 113 = .ok (.iconst 1, 1) := by decide +kernel
theorem jd_Mod_stores_114 : decode jm_m_Mod_stores.2.1 114 = .ok (.goto 4, 3) := by decide +kernel
theorem jd_Mod_stores_117 : decode jm_m_Mod_stores.2.1 117 = .ok (.iconst 0, 1) := by decide +kernel
theorem jd_Mod_stores_118 : decode jm_m_Mod_stores.2.1 118 = .ok (.iadd, 1) := by decide +kernel
theorem jd_Mod_stores_119 : decode jm_m_Mod_stores.2.1 119 = .ok (.istore_n 2, 1) := by decide +kernel
theorem jd_Mod_stores_120 : decode jm_m_Mod_stores.2.1 120 = .ok (.iload 5, 2) := by decide +kernel
theorem jd_Mod_stores_122 : decode jm_m_Mod_stores.2.1 122 = .ok (.iload 6, 2) := by decide +kernel
theorem jd_Mod_stores_124 : decode jm_m_Mod_stores.2.1 124 = .ok (.if_icmp .ne 10, 3) := by decide +kernel
theorem jd_Mod_stores_127 : decode jm_m_Mod_stores.2.1 127 = .ok (.iload 5, 2) := by decide +kernel
theorem jd_Mod_stores_129 : decode jm_m_Mod_stores.2.1 129 = .ok (.iconst 1, 1) := by decide +kernel
theorem jd_Mod_stores_130 : decode jm_m_Mod_stores.2.1 130 = .ok (.iadd, 1) := by decide +kernel
theorem jd_Mod_stores_131 : decode jm_m_Mod_stores.2.1 131 = .ok (.goto 17, 3) := by decide +kernel
theorem jd_Mod_stores_134 : decode jm_m_Mod_stores.2.1 134 = .ok (.iload 5, 2) := by decide +kernel
theorem jd_Mod_stores_136 : decode jm_m_Mod_stores.2.1 136 = .ok (.iload 6, 2) := by decide +kernel
theorem jd_Mod_stores_138 : decode jm_m_Mod_stores.2.1 138 = .ok (.if_icmp .le 8, 3) := by decide +kernel
theorem jd_Mod_stores_141 : decode jm_m_Mod_stores.2.1 141 = .ok (.iload 5, 2) := by decide +kernel
theorem jd_Mod_stores_143 : decode jm_m_Mod_stores.2.1 143 = .ok (.goto 5, 3) := by decide +kernel
theorem jd_Mod_stores_146 : decode jm_m_Mod_stores.2.1 146 = .ok (.iload 6, 2) := by decide +kernel
theorem jd_Mod_stores_148 : decode jm_m_Mod_stores.2.1 148 = .ok (.istore 7, 2) := by decide +kernel
theorem jd_Mod_stores_150 : decode jm_m_Mod_stores.2.1 150 = .ok (.aload_n 0, 1) := by decide +kernel
theorem jd_Mod_stores_151 : decode jm_m_Mod_stores.2.1 151 = .ok (.getfield 28, 3) := by decide +kernel
theorem jd_Mod_stores_154 : decode jm_m_Mod_stores.2.1 154 = .ok (.iload_n 3, 1) := by decide +kernel
theorem jd_Mod_stores_155 : decode jm_m_Mod_stores.2.1 155 = .ok (.iload 7, 2) := by decide +kernel
theorem jd_Mod_stores_157 : decode jm_m_Mod_stores.2.1 157 = .ok (.iload_n 1, 1) := by decide +kernel
theorem jd_Mod_stores_158 : decode jm_m_Mod_stores.2.1 158 = .ok (.if_icmp .le 7, 3) := by decide +kernel
theorem jd_Mod_stores_161 : decode jm_m_Mod_stores.2.1 161 = .ok (.iload_n 1, 1) := by decide +kernel
theorem jd_Mod_stores_162 : decode jm_m_Mod_stores.2.1 162 = .ok (.goto 5, 3) := by decide +kernel
theorem jd_Mod_stores_165 : decode jm_m_Mod_stores.2.1 165 = .ok (.iload 7, 2) := by decide +kernel
theorem jd_Mod_stores_167 : decode jm_m_Mod_stores.2.1 167 = .ok (.iastore, 1) := by decide +kernel
theorem jd_Mod_stores_168 : decode jm_m_Mod_stores.2.1 168 = .ok (.iinc 3 (-1), 3) := by decide +kernel
theorem jd_Mod_stores_171 : decode jm_m_Mod_stores.2.1 171 = .ok (.goto (-135), 3) := by decide +kernel
theorem jd_Mod_stores_174 : decode jm_m_Mod_stores.2.1 174 = .ok (.iload_n 2, 1) := by decide +kernel
theorem jd_Mod_stores_175 : decode jm_m_Mod_stores.2.1 175 = .ok (.ireturn, 1) := by decide +kernel
theorem jd_Mod_isRegister_0 : decode jm_m_Mod_isRegister.2.1 0 = .ok (.iload_n 0, 1) := by decide +kernel
theorem jd_Mod_isRegister_1 : decode jm_m_Mod_isRegister.2.1 1 = .ok (.i2l, 1) := by decide +kernel
theorem jd_Mod_isRegister_2 : decode jm_m_Mod_isRegister.2.1 2 = .ok (.lconst 0, 1) := by decide +kernel
theorem jd_Mod_isRegister_3 : decode jm_m_Mod_isRegister.2.1 3 = .ok (.ldc2_w 224, 3) := by decide +kernel
theorem jd_Mod_isRegister_6 : decode jm_m_Mod_isRegister.2.1 6 = .ok (.invokestatic 126, 3) := by decide +kernel
theorem jd_Mod_isRegister_9 : decode jm_m_Mod_isRegister.2.1 9 = .ok (.ireturn, 1) := by decide +kernel
theorem jd_Mod_add_0 : decode jm_m_Mod_add.2.1 0 = .ok (.iload_n 1, 1) := by decide +kernel
theorem jd_Mod_add_1 : decode jm_m_Mod_add.2.1 1 = .ok (.i2l, 1) := by decide +kernel
theorem jd_Mod_add_2 : decode jm_m_Mod_add.2.1 2 = .ok (.lconst 0, 1) := by decide +kernel
theorem jd_Mod_add_3 : decode jm_m_Mod_add.2.1 3 = .ok (.ldc2_w 226, 3) := by decide +kernel
theorem jd_Mod_add_6 : decode jm_m_Mod_add.2.1 6 = .ok (.invokestatic 126, 3) := by decide +kernel
theorem jd_Mod_add_9 : decode jm_m_Mod_add.2.1 9 = .ok (.ifCond .eq 48, 3) := by decide +kernel
theorem jd_Mod_add_12 : decode jm_m_Mod_add.2.1 12 = .ok (.iload_n 2, 1) := by decide +kernel
theorem jd_Mod_add_13 : decode jm_m_Mod_add.2.1 13 = .ok (.invokestatic 228, 3) := by decide +kernel
theorem jd_Mod_add_16 : decode jm_m_Mod_add.2.1 16 = .ok (.ifCond .eq 41, 3) := by decide +kernel
theorem jd_Mod_add_19 : decode jm_m_Mod_add.2.1 19 = .ok (.iload_n 3, 1) := by decide +kernel
theorem jd_Mod_add_20 : decode jm_m_Mod_add.2.1 20 = .ok (.invokestatic 228, 3) := by decide +kernel
theorem jd_Mod_add_23 : decode jm_m_Mod_add.2.1 23 = .ok (.ifCond .eq 34, 3) := by decide +kernel
theorem jd_Mod_add_26 : decode jm_m_Mod_add.2.1 26 = .ok (.iload 4, 2) := by decide +kernel
theorem jd_Mod_add_28 : decode jm_m_Mod_add.2.1 28 = .ok (.invokestatic 228, 3) := by decide +kernel
theorem jd_Mod_add_31 : decode jm_m_Mod_add.2.1 31 = .ok (.ifCond .eq 26, 3) := by decide +kernel
theorem jd_Mod_add_34 : decode jm_m_Mod_add.2.1 34 = .ok (.iload 5, 2) := by decide +kernel
theorem jd_Mod_add_36 : decode jm_m_Mod_add.2.1 36 = .ok (.i2l, 1) := by decide +kernel
theorem jd_Mod_add_37 : decode jm_m_Mod_add.2.1 37 = .ok (.lconst 1, 1) := by decide +kernel
theorem jd_Mod_add_38 : decode jm_m_Mod_add.2.1 38 = .ok (.ldc2_w 224, 3) := by decide +kernel
theorem jd_Mod_add_41 : decode jm_m_Mod_add.2.1 41 = .ok (.invokestatic 126, 3) := by decide +kernel
theorem jd_Mod_add_44 : decode jm_m_Mod_add.2.1 44 = .ok (.ifCond .eq 13, 3) := by decide +kernel
theorem jd_Mod_add_47 : decode jm_m_Mod_add.2.1 47 = .ok (.iload_n 1, 1) := by decide +kernel
theorem jd_Mod_add_48 : decode jm_m_Mod_add.2.1 48 = .ok (.iconst 4, 1) := by decide +kernel
theorem jd_Mod_add_49 : decode jm_m_Mod_add.2.1 49 = .ok (.if_icmp .le 11, 3) := by decide +kernel
theorem jd_Mod_add_52 : decode jm_m_Mod_add.2.1 52 = .ok (.iload 4, 2) := by decide +kernel
theorem jd_Mod_add_54 : decode jm_m_Mod_add.2.1 54 = .ok (.ifCond .eq 6, 3) := by decide +kernel
theorem jd_Mod_add_57 : decode jm_m_Mod_add.2.1 57 = .ok (.bipush (-2), 2) := by decide +kernel
theorem jd_Mod_add_59 : decode jm_m_Mod_add.2.1 59 = .ok (.ireturn, 1) := by decide +kernel
theorem jd_Mod_add_60 : decode jm_m_Mod_add.2.1 60 = .ok (.aload_n 0, 1) := by decide +kernel
theorem jd_Mod_add_61 : decode jm_m_Mod_add.2.1 61 = .ok (.getfield 231, 3) := by decide +kernel
theorem jd_Mod_add_64 : decode jm_m_Mod_add.2.1 64 = .ok (.bipush 12, 2) := by decide +kernel
theorem jd_Mod_add_66 : decode jm_m_Mod_add.2.1 66 = .ok (.if_icmp .ne 6, 3) := by decide +kernel
theorem jd_Mod_add_69 : decode jm_m_Mod_add.2.1 69 = .ok (.bipush (-4), 2) := by decide +kernel
theorem jd_Mod_add_71 : decode jm_m_Mod_add.2.1 71 = .ok (.ireturn, 1) := by decide +kernel
theorem jd_Mod_add_72 : decode jm_m_Mod_add.2.1 72 = .ok (.aload_n 0, 1) := by decide +kernel
theorem jd_Mod_add_73 : decode jm_m_Mod_add.2.1 73 = .ok (.getfield 70, 3) := by decide +kernel
theorem jd_Mod_add_76 : decode jm_m_Mod_add.2.1 76 = .ok (.aload_n 0, 1) := by decide +kernel
theorem jd_Mod_add_77 : decode jm_m_Mod_add.2.1 77 = .ok (.getfield 231, 3) := by decide +kernel
theorem jd_Mod_add_80 : decode jm_m_Mod_add.2.1 80 = .ok (.iload_n 1, 1) := by decide +kernel
theorem jd_Mod_add_81 : decode jm_m_Mod_add.2.1 81 = .ok (.iastore, 1) := by decide +kernel
theorem jd_Mod_add_82 : decode jm_m_Mod_add.2.1 82 = .ok (.aload_n 0, 1) := by decide +kernel
theorem jd_Mod_add_83 : decode jm_m_Mod_add.2.1 83 = .ok (.getfield 73, 3) := by decide +kernel
theorem jd_Mod_add_86 : decode jm_m_Mod_add.2.1 86 = .ok (.aload_n 0, 1) := by decide +kernel
theorem jd_Mod_add_87 : decode jm_m_Mod_add.2.1 87 = .ok (.getfield 231, 3) := by decide +kernel
theorem jd_Mod_add_90 : decode jm_m_Mod_add.2.1 90 = .ok (.iload_n 2, 1) := by decide +kernel
theorem jd_Mod_add_91 : decode jm_m_Mod_add.2.1 91 = .ok (.iastore, 1) := by decide +kernel
theorem jd_Mod_add_92 : decode jm_m_Mod_add.2.1 92 = .ok (.aload_n 0, 1) := by decide +kernel
theorem jd_Mod_add_93 : decode jm_m_Mod_add.2.1 93 = .ok (.getfield 76, 3) := by decide +kernel
theorem jd_Mod_add_96 : decode jm_m_Mod_add.2.1 96 = .ok (.aload_n 0, 1) := by decide +kernel
theorem jd_Mod_add_97 : decode jm_m_Mod_add.2.1 97 = .ok (.getfield 231, 3) := by decide +kernel
theorem jd_Mod_add_100 : decode jm_m_Mod_add.2.1 100 = .ok (.iload_n 3, 1) := by decide +kernel
theorem jd_Mod_add_101 : decode jm_m_Mod_add.2.1 101 = .ok (.iastore, 1) := by decide +kernel
theorem jd_Mod_add_102 : decode jm_m_Mod_add.2.1 102 = .ok (.aload_n 0, 1) := by decide +kernel
theorem jd_Mod_add_103 : decode jm_m_Mod_add.2.1 103 = .ok (.getfield 79, 3) := by decide +kernel
theorem jd_Mod_add_106 : decode jm_m_Mod_add.2.1 106 = .ok (.aload_n 0, 1) := by decide +kernel
theorem jd_Mod_add_107 : decode jm_m_Mod_add.2.1 107 = .ok (.getfield 231, 3) := by decide +kernel
theorem jd_Mod_add_110 : decode jm_m_Mod_add.2.1 110 = .ok (.iload 4, 2) := by decide +kernel
theorem jd_Mod_add_112 : decode jm_m_Mod_add.2.1 112 = .ok (.iastore, 1) := by decide +kernel
theorem jd_Mod_add_113 : decode jm_m_Mod_add.2.1 113 = .ok (.aload_n 0, 1) := by decide +kernel
theorem jd_Mod_add_114 : decode jm_m_Mod_add.2.1 114 = .ok (.getfield 82, 3) := by decide +kernel
theorem jd_Mod_add_117 : decode jm_m_Mod_add.2.1 117 = .ok (.aload_n 0, 1) := by decide +kernel
theorem jd_Mod_add_118 : decode jm_m_Mod_add.2.1 118 = .ok (.getfield 231, 3) := by decide +kernel
theorem jd_Mod_add_121 : decode jm_m_Mod_add.2.1 121 = .ok (.iload 5, 2) := by decide +kernel
theorem jd_Mod_add_123 : decode jm_m_Mod_add.2.1 123 = .ok (.iastore, 1) := by decide +kernel
theorem jd_Mod_add_124 : decode jm_m_Mod_add.2.1 124 = .ok (.aload_n 0, 1) := by decide +kernel
theorem jd_Mod_add_125 : decode jm_m_Mod_add.2.1 125 = .ok (.getfield 85, 3) := by decide +kernel
theorem jd_Mod_add_128 : decode jm_m_Mod_add.2.1 128 = .ok (.aload_n 0, 1) := by decide +kernel
theorem jd_Mod_add_129 : decode jm_m_Mod_add.2.1 129 = .ok (.getfield 231, 3) := by decide +kernel
theorem jd_Mod_add_132 : decode jm_m_Mod_add.2.1 132 = .ok (.iconst 1, 1) := by decide +kernel
theorem jd_Mod_add_133 : decode jm_m_Mod_add.2.1 133 = .ok (.iastore, 1) := by decide +kernel
theorem jd_Mod_add_134 : decode jm_m_Mod_add.2.1 134 = .ok (.aload_n 0, 1) := by decide +kernel
theorem jd_Mod_add_135 : decode jm_m_Mod_add.2.1 135 = .ok (.dup, 1) := by decide +kernel
theorem jd_Mod_add_136 : decode jm_m_Mod_add.2.1 136 = .ok (.getfield 231, 3) := by decide +kernel
theorem jd_Mod_add_139 : decode jm_m_Mod_add.2.1 139 = .ok (.iconst 1, 1) := by decide +kernel
theorem jd_Mod_add_140 : decode jm_m_Mod_add.2.1 140 = .ok (.iadd, 1) := by decide +kernel
theorem jd_Mod_add_141 : decode jm_m_Mod_add.2.1 141 = .ok (.putfield 231, 3) := by decide +kernel
theorem jd_Mod_add_144 : decode jm_m_Mod_add.2.1 144 = .ok (.aload_n 0, 1) := by decide +kernel
theorem jd_Mod_add_145 : decode jm_m_Mod_add.2.1 145 = .ok (.getfield 231, 3) := by decide +kernel
theorem jd_Mod_add_148 : decode jm_m_Mod_add.2.1 148 = .ok (.iconst 1, 1) := by decide +kernel
theorem jd_Mod_add_149 : decode jm_m_Mod_add.2.1 149 = .ok (.isub, 1) := by decide +kernel
theorem jd_Mod_add_150 : decode jm_m_Mod_add.2.1 150 = .ok (.ireturn, 1) := by decide +kernel
theorem jd_Mod_drop_0 : decode jm_m_Mod_drop.2.1 0 = .ok (.aload_n 0, 1) := by decide +kernel
theorem jd_Mod_drop_1 : decode jm_m_Mod_drop.2.1 1 = .ok (.getfield 231, 3) := by decide +kernel
theorem jd_Mod_drop_4 : decode jm_m_Mod_drop.2.1 4 = .ok (.istore_n 1, 1) := by decide +kernel
theorem jd_Mod_drop_5 : decode jm_m_Mod_drop.2.1 5 = .ok (.aload_n 0, 1) := by decide +kernel
theorem jd_Mod_drop_6 : decode jm_m_Mod_drop.2.1 6 = .ok (.iconst 0, 1) := by decide +kernel
theorem jd_Mod_drop_7 : decode jm_m_Mod_drop.2.1 7 = .ok (.putfield 231, 3) := by decide +kernel
theorem jd_Mod_drop_10 : decode jm_m_Mod_drop.2.1 10 = .ok (.iload_n 1, 1) := by decide +kernel
theorem jd_Mod_drop_11 : decode jm_m_Mod_drop.2.1 11 = .ok (.ireturn, 1) := by decide +kernel
theorem jd_Mod_isInstruction_0 : decode jm_m_Mod_isInstruction.2.1 0 = .ok (.iload_n 1, 1) := by decide +kernel
theorem jd_Mod_isInstruction_1 : decode jm_m_Mod_isInstruction.2.1 1 = .ok (.i2l, 1) := by decide +kernel
theorem jd_Mod_isInstruction_2 : decode jm_m_Mod_isInstruction.2.1 2 = .ok (.lconst 0, 1) := by decide +kernel
theorem jd_Mod_isInstruction_3 : decode jm_m_Mod_isInstruction.2.1 3 = .ok (.aload_n 0, 1) := by decide +kernel
theorem jd_Mod_isInstruction_4 : decode jm_m_Mod_isInstruction.2.1 4 = .ok (.getfield 231, 3) := by decide +kernel
theorem jd_Mod_isInstruction_7 : decode jm_m_Mod_isInstruction.2.1 7 = .ok (.iconst 1, 1) := by decide +kernel
theorem jd_Mod_isInstruction_8 : decode jm_m_Mod_isInstruction.2.1 8 = .ok (.isub, 1) := by decide +kernel
theorem jd_Mod_isInstruction_9 : decode jm_m_Mod_isInstruction.2.1 9 = .ok (.i2l, 1) := by decide +kernel
theorem jd_Mod_isInstruction_10 : decode jm_m_Mod_isInstruction.2.1 10 = .ok (.invokestatic 126, 3) := by decide +kernel
theorem jd_Mod_isInstruction_13 : decode jm_m_Mod_isInstruction.2.1 13 = .ok (.ireturn, 1) := by decide +kernel
theorem jd_Mod_uses_0 : decode jm_m_Mod_uses.2.1 0 = .ok (.aload_n 0, 1) := by decide +kernel
theorem jd_Mod_uses_1 : decode jm_m_Mod_uses.2.1 1 = .ok (.getfield 76, 3) := by decide +kernel
theorem jd_Mod_uses_4 : decode jm_m_Mod_uses.2.1 4 = .ok (.iload_n 1, 1) := by decide +kernel
theorem jd_Mod_uses_5 : decode jm_m_Mod_uses.2.1 5 = .ok (.iaload, 1) := by decide +kernel
theorem jd_Mod_uses_6 : decode jm_m_Mod_uses.2.1 6 = .ok (.iload_n 2, 1) := by decide +kernel
theorem jd_Mod_uses_7 : decode jm_m_Mod_uses.2.1 7 = .ok (.if_icmp .eq 23, 3) := by decide +kernel
theorem jd_Mod_uses_10 : decode jm_m_Mod_uses.2.1 10 = .ok (.aload_n 0, 1) := by decide +kernel
theorem jd_Mod_uses_11 : decode jm_m_Mod_uses.2.1 11 = .ok (.getfield 70, 3) := by decide +kernel
theorem jd_Mod_uses_14 : decode jm_m_Mod_uses.2.1 14 = .ok (.iload_n 1, 1) := by decide +kernel
theorem jd_Mod_uses_15 : decode jm_m_Mod_uses.2.1 15 = .ok (.iaload, 1) := by decide +kernel
theorem jd_Mod_uses_16 : decode jm_m_Mod_uses.2.1 16 = .ok (.iconst 5, 1) := by decide +kernel
theorem jd_Mod_uses_17 : decode jm_m_Mod_uses.2.1 17 = .ok (.if_icmp .ge 17, 3) := by decide +kernel
theorem jd_Mod_uses_20 : decode jm_m_Mod_uses.2.1 20 = .ok (.aload_n 0, 1) := by decide +kernel
theorem jd_Mod_uses_21 : decode jm_m_Mod_uses.2.1 21 = .ok (.getfield 79, 3) := by decide +kernel
theorem jd_Mod_uses_24 : decode jm_m_Mod_uses.2.1 24 = .ok (.iload_n 1, 1) := by decide +kernel
theorem jd_Mod_uses_25 : decode jm_m_Mod_uses.2.1 25 = .ok (.iaload, 1) := by decide +kernel
theorem jd_Mod_uses_26 : decode jm_m_Mod_uses.2.1 26 = .ok (.iload_n 2, 1) := by decide +kernel
theorem jd_Mod_uses_27 : decode jm_m_Mod_uses.2.1 27 = .ok (.if_icmp .ne 7, 3) := by decide +kernel
theorem jd_Mod_uses_30 : decode jm_m_Mod_uses.2.1 30 = .ok (.iconst 1, 1) := by decide +kernel
theorem jd_Mod_uses_31 : decode jm_m_Mod_uses.2.1 31 = .ok (.goto 4, 3) := by decide +kernel
theorem jd_Mod_uses_34 : decode jm_m_Mod_uses.2.1 34 = .ok (.iconst 0, 1) := by decide +kernel
theorem jd_Mod_uses_35 : decode jm_m_Mod_uses.2.1 35 = .ok (.ireturn, 1) := by decide +kernel
theorem jd_Mod_startOf_0 : decode jm_m_Mod_startOf.2.1 0 = .ok (.aload_n 0, 1) := by decide +kernel
theorem jd_Mod_startOf_1 : decode jm_m_Mod_startOf.2.1 1 = .ok (.getfield 88, 3) := by decide +kernel
theorem jd_Mod_startOf_4 : decode jm_m_Mod_startOf.2.1 4 = .ok (.iload_n 1, 1) := by decide +kernel
theorem jd_Mod_startOf_5 : decode jm_m_Mod_startOf.2.1 5 = .ok (.iaload, 1) := by decide +kernel
theorem jd_Mod_startOf_6 : decode jm_m_Mod_startOf.2.1 6 = .ok (.istore_n 2, 1) := by decide +kernel
theorem jd_Mod_startOf_7 : decode jm_m_Mod_startOf.2.1 7 = .ok (.iload_n 1, 1) := by decide +kernel
theorem jd_Mod_startOf_8 : decode jm_m_Mod_startOf.2.1 8 = .ok (.ifCond .ne 7, 3) := by decide +kernel
theorem jd_Mod_startOf_11 : decode jm_m_Mod_startOf.2.1 11 = .ok (.iconst 0, 1) := by decide +kernel
theorem jd_Mod_startOf_12 : decode jm_m_Mod_startOf.2.1 12 = .ok (.goto 13, 3) := by decide +kernel
theorem jd_Mod_startOf_15 : decode jm_m_Mod_startOf.2.1 15 = .ok (.aload_n 0, 1) := by decide +kernel
theorem jd_Mod_startOf_16 : decode jm_m_Mod_startOf.2.1 16 = .ok (.getfield 91, 3) := by decide +kernel
theorem jd_Mod_startOf_19 : decode jm_m_Mod_startOf.2.1 19 = .ok (.iload_n 1, 1) := by decide +kernel
theorem jd_Mod_startOf_20 : decode jm_m_Mod_startOf.2.1 20 = .ok (.iconst 1, 1) := by decide +kernel
theorem jd_Mod_startOf_21 : decode jm_m_Mod_startOf.2.1 21 = .ok (.isub, 1) := by decide +kernel
theorem jd_Mod_startOf_22 : decode jm_m_Mod_startOf.2.1 22 = .ok (.iaload, 1) := by decide +kernel
theorem jd_Mod_startOf_23 : decode jm_m_Mod_startOf.2.1 23 = .ok (.iconst 1, 1) := by decide +kernel
theorem jd_Mod_startOf_24 : decode jm_m_Mod_startOf.2.1 24 = .ok (.iadd, 1) := by decide +kernel
theorem jd_Mod_startOf_25 : decode jm_m_Mod_startOf.2.1 25 = .ok (.istore_n 3, 1) := by decide +kernel
theorem jd_Mod_startOf_26 : decode jm_m_Mod_startOf.2.1 26 = .ok (.iconst 0, 1) := by decide +kernel
theorem jd_Mod_startOf_27 : decode jm_m_Mod_startOf.2.1 27 = .ok (.istore 4, 2) := by decide +kernel
theorem jd_Mod_startOf_29 : decode jm_m_Mod_startOf.2.1 29 = .ok (.iload 4, 2) := by decide +kernel
theorem jd_Mod_startOf_31 : decode jm_m_Mod_startOf.2.1 31 = .ok (.bipush 6, 2) := by decide +kernel
theorem jd_Mod_startOf_33 : decode jm_m_Mod_startOf.2.1 33 = .ok (.if_icmp .ge 96, 3) := by decide +kernel
theorem jd_Mod_startOf_36 : decode jm_m_Mod_startOf.2.1 36 = .ok (.aload_n 0, 1) := by decide +kernel
theorem jd_Mod_startOf_37 : decode jm_m_Mod_startOf.2.1 37 = .ok (.iload_n 2, 1) := by decide +kernel
theorem jd_Mod_startOf_38 : decode jm_m_Mod_startOf.2.1 38 = .ok (.iload 4, 2) := by decide +kernel
theorem jd_Mod_startOf_40 : decode jm_m_Mod_startOf.2.1 40 = .ok (.invokevirtual 234, 3) := by decide +kernel
theorem jd_Mod_startOf_43 : decode jm_m_Mod_startOf.2.1 43 = .ok (.ifCond .eq 80, 3) := by decide +kernel
theorem jd_Mod_startOf_46 : decode jm_m_Mod_startOf.2.1 46 = .ok (.iload_n 1, 1) := by decide +kernel
theorem jd_Mod_startOf_47 : decode jm_m_Mod_startOf.2.1 47 = .ok (.iconst 1, 1) := by decide +kernel
theorem jd_Mod_startOf_48 : decode jm_m_Mod_startOf.2.1 48 = .ok (.isub, 1) := by decide +kernel
theorem jd_Mod_startOf_49 : decode jm_m_Mod_startOf.2.1 49 = .ok (.istore 5, 2) := by decide +kernel
theorem jd_Mod_startOf_51 : decode jm_m_Mod_startOf.2.1 51 = .ok (.iload 5, 2) := by decide +kernel
theorem jd_Mod_startOf_53 : decode jm_m_Mod_startOf.2.1 53 = .ok (.ifCond .lt 26, 3) := by decide +kernel
theorem jd_Mod_startOf_56 : decode jm_m_Mod_startOf.2.1 56 = .ok (.aload_n 0, 1) := by decide +kernel
theorem jd_Mod_startOf_57 : decode jm_m_Mod_startOf.2.1 57 = .ok (.getfield 73, 3) := by decide +kernel
theorem jd_Mod_startOf_60 : decode jm_m_Mod_startOf.2.1 60 = .ok (.aload_n 0, 1) := by decide +kernel
theorem jd_Mod_startOf_61 : decode jm_m_Mod_startOf.2.1 61 = .ok (.getfield 88, 3) := by decide +kernel
theorem jd_Mod_startOf_64 : decode jm_m_Mod_startOf.2.1 64 = .ok (.iload 5, 2) := by decide +kernel
theorem jd_Mod_startOf_66 : decode jm_m_Mod_startOf.2.1 66 = .ok (.iaload, 1) := by decide +kernel
theorem jd_Mod_startOf_67 : decode jm_m_Mod_startOf.2.1 67 = .ok (.iaload, 1) := by decide +kernel
theorem jd_Mod_startOf_68 : decode jm_m_Mod_startOf.2.1 68 = .ok (.iload 4, 2) := by decide +kernel
theorem jd_Mod_startOf_70 : decode jm_m_Mod_startOf.2.1 70 = .ok (.if_icmp .eq 9, 3) := by decide +kernel
theorem jd_Mod_startOf_73 : decode jm_m_Mod_startOf.2.1 73 = .ok (.iinc 5 (-1), 3) := by decide +kernel
theorem jd_Mod_startOf_76 : decode jm_m_Mod_startOf.2.1 76 = .ok (.goto (-25), 3) := by decide +kernel
theorem jd_Mod_startOf_79 : decode jm_m_Mod_startOf.2.1 79 = .ok (.iload 5, 2) := by decide +kernel
theorem jd_Mod_startOf_81 : decode jm_m_Mod_startOf.2.1 81 = .ok (.ifCond .ge 7, 3) := by decide +kernel
theorem jd_Mod_startOf_84 : decode jm_m_Mod_startOf.2.1 84 = .ok (.iconst 0, 1) := by decide +kernel
theorem jd_Mod_startOf_85 : decode jm_m_Mod_startOf.2.1 85 = .ok (.goto 23, 3) := by decide +kernel
theorem jd_Mod_startOf_88 : decode jm_m_Mod_startOf.2.1 88 = .ok (.aload_n 0, 1) := by decide +kernel
theorem jd_Mod_startOf_89 : decode jm_m_Mod_startOf.2.1 89 = .ok (.getfield 91, 3) := by decide +kernel
theorem jd_Mod_startOf_92 : decode jm_m_Mod_startOf.2.1 92 = .ok (.iload 5, 2) := by decide +kernel
theorem jd_Mod_startOf_94 : decode jm_m_Mod_startOf.2.1 94 = .ok (.iaload, 1) := by decide +kernel
theorem jd_Mod_startOf_95 : decode jm_m_Mod_startOf.2.1 95 = .ok (.aload_n 0, 1) := by decide +kernel
theorem jd_Mod_startOf_96 : decode jm_m_Mod_startOf.2.1 96 = .ok (.getfield 82, 3) := by decide +kernel
theorem jd_Mod_startOf_99 : decode jm_m_Mod_startOf.2.1 99 = .ok (.aload_n 0, 1) := by decide +kernel
theorem jd_Mod_startOf_100 : decode jm_m_Mod_startOf.2.1 100 = .ok (.getfield 88, 3) := by decide +kernel
theorem jd_Mod_startOf_103 : decode jm_m_Mod_startOf.2.1 103 = .ok (.iload 5, 2) := by decide +kernel
theorem jd_Mod_startOf_105 : decode jm_m_Mod_startOf.2.1 105 = .ok (.iaload, 1) := by decide +kernel
theorem jd_Mod_startOf_106 : decode jm_m_Mod_startOf.2.1 106 = .ok (.iaload, 1) := by decide +kernel
theorem jd_Mod_startOf_107 : decode jm_m_Mod_startOf.2.1 107 = .ok (.iadd, 1) := by decide +kernel
theorem jd_Mod_startOf_108 : decode jm_m_Mod_startOf.2.1 108 = .ok (.istore 6, 2) := by decide +kernel
theorem jd_Mod_startOf_110 : decode jm_m_Mod_startOf.2.1 110 = .ok (.iload 6, 2) := by decide +kernel
theorem jd_Mod_startOf_112 : decode jm_m_Mod_startOf.2.1 112 = .ok (.iload_n 3, 1) := by decide +kernel
theorem jd_Mod_startOf_113 : decode jm_m_Mod_startOf.2.1 113 = .ok (.if_icmp .le 8, 3) := by decide +kernel
theorem jd_Mod_startOf_116 : decode jm_m_Mod_startOf.2.1 116 = .ok (.iload 6, 2) := by decide +kernel
