theorem jd_Search_endsWith_45 : decode jm_m_Search_endsWith.2.1 45 = .ok (.iload_n 3, 1) := by decide +kernel
theorem jd_Search_endsWith_46 : decode jm_m_Search_endsWith.2.1 46 = .ok (.aload_n 0, 1) := by decide +kernel
theorem jd_Search_endsWith_47 : decode jm_m_Search_endsWith.2.1 47 = .ok (.getfield 10, 3) := by decide +kernel
theorem jd_Search_endsWith_50 : decode jm_m_Search_endsWith.2.1 50 = .ok (.getfield 101, 3) := by decide +kernel
theorem jd_Search_endsWith_53 : decode jm_m_Search_endsWith.2.1 53 = .ok (.iload 7, 2) := by decide +kernel
theorem jd_Search_endsWith_55 : decode jm_m_Search_endsWith.2.1 55 = .ok (.iaload, 1) := by decide +kernel
theorem jd_Search_endsWith_56 : decode jm_m_Search_endsWith.2.1 56 = .ok (.iconst (-1), 1) := by decide +kernel
theorem jd_Search_endsWith_57 : decode jm_m_Search_endsWith.2.1 57 = .ok (.ixor, 1) := by decide +kernel
theorem jd_Search_endsWith_58 : decode jm_m_Search_endsWith.2.1 58 = .ok (.iand, 1) := by decide +kernel
theorem jd_Search_endsWith_59 : decode jm_m_Search_endsWith.2.1 59 = .ok (.ifCond .ne 108, 3) := by decide +kernel
theorem jd_Search_endsWith_62 : decode jm_m_Search_endsWith.2.1 62 = .ok (.iload 4, 2) := by decide +kernel
theorem jd_Search_endsWith_64 : decode jm_m_Search_endsWith.2.1 64 = .ok (.ifCond .ne 19, 3) := by decide +kernel
theorem jd_Search_endsWith_67 : decode jm_m_Search_endsWith.2.1 67 = .ok (.aload_n 0, 1) := by decide +kernel
theorem jd_Search_endsWith_68 : decode jm_m_Search_endsWith.2.1 68 = .ok (.getfield 10, 3) := by decide +kernel
theorem jd_Search_endsWith_71 : decode jm_m_Search_endsWith.2.1 71 = .ok (.getfield 104, 3) := by decide +kernel
theorem jd_Search_endsWith_74 : decode jm_m_Search_endsWith.2.1 74 = .ok (.iload 7, 2) := by decide +kernel
theorem jd_Search_endsWith_76 : decode jm_m_Search_endsWith.2.1 76 = .ok (.baload, 1) := by decide +kernel
theorem jd_Search_endsWith_77 : decode jm_m_Search_endsWith.2.1 77 = .ok (.ifCond .ne 6, 3) := by decide +kernel
theorem jd_Search_endsWith_80 : decode jm_m_Search_endsWith.2.1 80 = .ok (.goto 87, 3) := by decide +kernel
theorem jd_Search_endsWith_83 : decode jm_m_Search_endsWith.2.1 83 = .ok (.iload_n 1, 1) := by decide +kernel
theorem jd_Search_endsWith_84 : decode jm_m_Search_endsWith.2.1 84 = .ok (.aload 5, 2) := by decide +kernel
theorem jd_Search_endsWith_86 : decode jm_m_Search_endsWith.2.1 86 = .ok (.aload_n 0, 1) := by decide +kernel
theorem jd_Search_endsWith_87 : decode jm_m_Search_endsWith.2.1 87 = .ok (.getfield 10, 3) := by decide +kernel
theorem jd_Search_endsWith_90 : decode jm_m_Search_endsWith.2.1 90 = .ok (.getfield 108, 3) := by decide +kernel
theorem jd_Search_endsWith_93 : decode jm_m_Search_endsWith.2.1 93 = .ok (.iload 7, 2) := by decide +kernel
theorem jd_Search_endsWith_95 : decode jm_m_Search_endsWith.2.1 95 = .ok (.iaload, 1) := by decide +kernel
theorem jd_Search_endsWith_96 : decode jm_m_Search_endsWith.2.1 96 = .ok (.laload, 1) := by decide +kernel
theorem jd_Search_endsWith_97 : decode jm_m_Search_endsWith.2.1 97 = .ok (.aload 5, 2) := by decide +kernel
theorem jd_Search_endsWith_99 : decode jm_m_Search_endsWith.2.1 99 = .ok (.aload_n 0, 1) := by decide +kernel
theorem jd_Search_endsWith_100 : decode jm_m_Search_endsWith.2.1 100 = .ok (.getfield 10, 3) := by decide +kernel
theorem jd_Search_endsWith_103 : decode jm_m_Search_endsWith.2.1 103 = .ok (.getfield 109, 3) := by decide +kernel
theorem jd_Search_endsWith_106 : decode jm_m_Search_endsWith.2.1 106 = .ok (.iload 7, 2) := by decide +kernel
theorem jd_Search_endsWith_108 : decode jm_m_Search_endsWith.2.1 108 = .ok (.iaload, 1) := by decide +kernel
theorem jd_Search_endsWith_109 : decode jm_m_Search_endsWith.2.1 109 = .ok (.laload, 1) := by decide +kernel
theorem jd_Search_endsWith_110 : decode jm_m_Search_endsWith.2.1 110 = .ok (.invokestatic 116, 3) := by decide +kernel
theorem jd_Search_endsWith_113 : decode jm_m_Search_endsWith.2.1 113 = .ok (.aload_n 0, 1) := by decide +kernel
theorem jd_Search_endsWith_114 : decode jm_m_Search_endsWith.2.1 114 = .ok (.getfield 16, 3) := by decide +kernel
theorem jd_Search_endsWith_117 : decode jm_m_Search_endsWith.2.1 117 = .ok (.iconst 0, 1) := by decide +kernel
theorem jd_Search_endsWith_118 : decode jm_m_Search_endsWith.2.1 118 = .ok (.laload, 1) := by decide +kernel
theorem jd_Search_endsWith_119 : decode jm_m_Search_endsWith.2.1 119 = .ok (.lcmp, 1) := by decide +kernel
theorem jd_Search_endsWith_120 : decode jm_m_Search_endsWith.2.1 120 = .ok (.ifCond .ne 47, 3) := by decide +kernel
theorem jd_Search_endsWith_123 : decode jm_m_Search_endsWith.2.1 123 = .ok (.aload_n 0, 1) := by decide +kernel
theorem jd_Search_endsWith_124 : decode jm_m_Search_endsWith.2.1 124 = .ok (.getfield 35, 3) := by decide +kernel
theorem jd_Search_endsWith_127 : decode jm_m_Search_endsWith.2.1 127 = .ok (.iload 4, 2) := by decide +kernel
theorem jd_Search_endsWith_129 : decode jm_m_Search_endsWith.2.1 129 = .ok (.aload_n 0, 1) := by decide +kernel
theorem jd_Search_endsWith_130 : decode jm_m_Search_endsWith.2.1 130 = .ok (.getfield 10, 3) := by decide +kernel
theorem jd_Search_endsWith_133 : decode jm_m_Search_endsWith.2.1 133 = .ok (.getfield 108, 3) := by decide +kernel
theorem jd_Search_endsWith_136 : decode jm_m_Search_endsWith.2.1 136 = .ok (.iload 7, 2) := by decide +kernel
theorem jd_Search_endsWith_138 : decode jm_m_Search_endsWith.2.1 138 = .ok (.iaload, 1) := by decide +kernel
theorem jd_Search_endsWith_139 : decode jm_m_Search_endsWith.2.1 139 = .ok (.iastore, 1) := by decide +kernel
theorem jd_Search_endsWith_140 : decode jm_m_Search_endsWith.2.1 140 = .ok (.aload_n 0, 1) := by decide +kernel
theorem jd_Search_endsWith_141 : decode jm_m_Search_endsWith.2.1 141 = .ok (.getfield 38, 3) := by decide +kernel
theorem jd_Search_endsWith_144 : decode jm_m_Search_endsWith.2.1 144 = .ok (.iload 4, 2) := by decide +kernel
theorem jd_Search_endsWith_146 : decode jm_m_Search_endsWith.2.1 146 = .ok (.aload_n 0, 1) := by decide +kernel
theorem jd_Search_endsWith_147 : decode jm_m_Search_endsWith.2.1 147 = .ok (.getfield 10, 3) := by decide +kernel
theorem jd_Search_endsWith_150 : decode jm_m_Search_endsWith.2.1 150 = .ok (.getfield 109, 3) := by decide +kernel
theorem jd_Search_endsWith_153 : decode jm_m_Search_endsWith.2.1 153 = .ok (.iload 7, 2) := by decide +kernel
theorem jd_Search_endsWith_155 : decode jm_m_Search_endsWith.2.1 155 = .ok (.iaload, 1) := by decide +kernel
theorem jd_Search_endsWith_156 : decode jm_m_Search_endsWith.2.1 156 = .ok (.iastore, 1) := by decide +kernel
theorem jd_Search_endsWith_157 : decode jm_m_Search_endsWith.2.1 157 = .ok (.aload_n 0, 1) := by decide +kernel
theorem jd_Search_endsWith_158 : decode jm_m_Search_endsWith.2.1 158 = .ok (.iload_n 2, 1) := by decide +kernel
theorem jd_Search_endsWith_159 : decode jm_m_Search_endsWith.2.1 159 = .ok (.invokevirtual 81, 3) := by decide +kernel
theorem jd_Search_endsWith_162 : decode jm_m_Search_endsWith.2.1 162 = .ok (.ifCond .eq 5, 3) := by decide +kernel
theorem jd_Search_endsWith_165 : decode jm_m_Search_endsWith.2.1 165 = .ok (.iconst 1, 1) := by decide +kernel
theorem jd_Search_endsWith_166 : decode jm_m_Search_endsWith.2.1 166 = .ok (.ireturn, 1) := by decide +kernel
theorem jd_Search_endsWith_167 : decode jm_m_Search_endsWith.2.1 167 = .ok (.iinc 7 1, 3) := by decide +kernel
theorem jd_Search_endsWith_170 : decode jm_m_Search_endsWith.2.1 170 = .ok (.goto (-132), 3) := by decide +kernel
theorem jd_Search_endsWith_173 : decode jm_m_Search_endsWith.2.1 173 = .ok (.iconst 0, 1) := by decide +kernel
theorem jd_Search_endsWith_174 : decode jm_m_Search_endsWith.2.1 174 = .ok (.ireturn, 1) := by decide +kernel
theorem jd_Search_doesAll_0 : decode jm_m_Search_doesAll.2.1 0 = .ok (.iconst 0, 1) := by decide +kernel
theorem jd_Search_doesAll_1 : decode jm_m_Search_doesAll.2.1 1 = .ok (.istore_n 2, 1) := by decide +kernel
theorem jd_Search_doesAll_2 : decode jm_m_Search_doesAll.2.1 2 = .ok (.iload_n 2, 1) := by decide +kernel
theorem jd_Search_doesAll_3 : decode jm_m_Search_doesAll.2.1 3 = .ok (.bipush 16, 2) := by decide +kernel
theorem jd_Search_doesAll_5 : decode jm_m_Search_doesAll.2.1 5 = .ok (.if_icmp .ge 90, 3) := by decide +kernel
theorem jd_Search_doesAll_8 : decode jm_m_Search_doesAll.2.1 8 = .ok (.aload_n 0, 1) := by decide +kernel
theorem jd_Search_doesAll_9 : decode jm_m_Search_doesAll.2.1 9 = .ok (.getfield 25, 3) := by decide +kernel
theorem jd_Search_doesAll_12 : decode jm_m_Search_doesAll.2.1 12 = .ok (.iload_n 2, 1) := by decide +kernel
theorem jd_Search_doesAll_13 : decode jm_m_Search_doesAll.2.1 13 = .ok (.invokestatic 62, 3) := by decide +kernel
theorem jd_Search_doesAll_16 : decode jm_m_Search_doesAll.2.1 16 = .ok (.iconst 0, 1) := by decide +kernel
theorem jd_Search_doesAll_17 : decode jm_m_Search_doesAll.2.1 17 = .ok (.istore_n 3, 1) := by decide +kernel
theorem jd_Search_doesAll_18 : decode jm_m_Search_doesAll.2.1 18 = .ok (.iload_n 3, 1) := by decide +kernel
theorem jd_Search_doesAll_19 : decode jm_m_Search_doesAll.2.1 19 = .ok (.iload_n 1, 1) := by decide +kernel
theorem jd_Search_doesAll_20 : decode jm_m_Search_doesAll.2.1 20 = .ok (.if_icmp .ge 51, 3) := by decide +kernel
theorem jd_Search_doesAll_23 : decode jm_m_Search_doesAll.2.1 23 = .ok (.aload_n 0, 1) := by decide +kernel
theorem jd_Search_doesAll_24 : decode jm_m_Search_doesAll.2.1 24 = .ok (.getfield 25, 3) := by decide +kernel
theorem jd_Search_doesAll_27 : decode jm_m_Search_doesAll.2.1 27 = .ok (.aload_n 0, 1) := by decide +kernel
theorem jd_Search_doesAll_28 : decode jm_m_Search_doesAll.2.1 28 = .ok (.getfield 32, 3) := by decide +kernel
theorem jd_Search_doesAll_31 : decode jm_m_Search_doesAll.2.1 31 = .ok (.iload_n 3, 1) := by decide +kernel
theorem jd_Search_doesAll_32 : decode jm_m_Search_doesAll.2.1 32 = .ok (.iaload, 1) := by decide +kernel
theorem jd_Search_doesAll_33 : decode jm_m_Search_doesAll.2.1 33 = .ok (.aload_n 0, 1) := by decide +kernel
theorem jd_Search_doesAll_34 : decode jm_m_Search_doesAll.2.1 34 = .ok (.getfield 28, 3) := by decide +kernel
theorem jd_Search_doesAll_37 : decode jm_m_Search_doesAll.2.1 37 = .ok (.iload_n 3, 1) := by decide +kernel
theorem jd_Search_doesAll_38 : decode jm_m_Search_doesAll.2.1 38 = .ok (.iaload, 1) := by decide +kernel
theorem jd_Search_doesAll_39 : decode jm_m_Search_doesAll.2.1 39 = .ok (.aload_n 0, 1) := by decide +kernel
theorem jd_Search_doesAll_40 : decode jm_m_Search_doesAll.2.1 40 = .ok (.getfield 25, 3) := by decide +kernel
theorem jd_Search_doesAll_43 : decode jm_m_Search_doesAll.2.1 43 = .ok (.aload_n 0, 1) := by decide +kernel
theorem jd_Search_doesAll_44 : decode jm_m_Search_doesAll.2.1 44 = .ok (.getfield 35, 3) := by decide +kernel
theorem jd_Search_doesAll_47 : decode jm_m_Search_doesAll.2.1 47 = .ok (.iload_n 3, 1) := by decide +kernel
theorem jd_Search_doesAll_48 : decode jm_m_Search_doesAll.2.1 48 = .ok (.iaload, 1) := by decide +kernel
theorem jd_Search_doesAll_49 : decode jm_m_Search_doesAll.2.1 49 = .ok (.laload, 1) := by decide +kernel
theorem jd_Search_doesAll_50 : decode jm_m_Search_doesAll.2.1 50 = .ok (.aload_n 0, 1) := by decide +kernel
theorem jd_Search_doesAll_51 : decode jm_m_Search_doesAll.2.1 51 = .ok (.getfield 25, 3) := by decide +kernel
theorem jd_Search_doesAll_54 : decode jm_m_Search_doesAll.2.1 54 = .ok (.aload_n 0, 1) := by decide +kernel
theorem jd_Search_doesAll_55 : decode jm_m_Search_doesAll.2.1 55 = .ok (.getfield 38, 3) := by decide +kernel
theorem jd_Search_doesAll_58 : decode jm_m_Search_doesAll.2.1 58 = .ok (.iload_n 3, 1) := by decide +kernel
theorem jd_Search_doesAll_59 : decode jm_m_Search_doesAll.2.1 59 = .ok (.iaload, 1) := by decide +kernel
theorem jd_Search_doesAll_60 : decode jm_m_Search_doesAll.2.1 60 = .ok (.laload, 1) := by decide +kernel
theorem jd_Search_doesAll_61 : decode jm_m_Search_doesAll.2.1 61 = .ok (.invokestatic 116, 3) := by decide +kernel
theorem jd_Search_doesAll_64 : decode jm_m_Search_doesAll.2.1 64 = .ok (.lastore, 1) := by decide +kernel
theorem jd_Search_doesAll_65 : decode jm_m_Search_doesAll.2.1 65 = .ok (.iinc 3 1, 3) := by decide +kernel
theorem jd_Search_doesAll_68 : decode jm_m_Search_doesAll.2.1 68 = .ok (.goto (-50), 3) := by decide +kernel
theorem jd_Search_doesAll_71 : decode jm_m_Search_doesAll.2.1 71 = .ok (.aload_n 0, 1) := by decide +kernel
theorem jd_Search_doesAll_72 : decode jm_m_Search_doesAll.2.1 72 = .ok (.getfield 25, 3) := by decide +kernel
theorem jd_Search_doesAll_75 : decode jm_m_Search_doesAll.2.1 75 = .ok (.iconst 0, 1) := by decide +kernel
theorem jd_Search_doesAll_76 : decode jm_m_Search_doesAll.2.1 76 = .ok (.laload, 1) := by decide +kernel
theorem jd_Search_doesAll_77 : decode jm_m_Search_doesAll.2.1 77 = .ok (.aload_n 0, 1) := by decide +kernel
theorem jd_Search_doesAll_78 : decode jm_m_Search_doesAll.2.1 78 = .ok (.getfield 16, 3) := by decide +kernel
theorem jd_Search_doesAll_81 : decode jm_m_Search_doesAll.2.1 81 = .ok (.iload_n 2, 1) := by decide +kernel
theorem jd_Search_doesAll_82 : decode jm_m_Search_doesAll.2.1 82 = .ok (.laload, 1) := by decide +kernel
theorem jd_Search_doesAll_83 : decode jm_m_Search_doesAll.2.1 83 = .ok (.lcmp, 1) := by decide +kernel
theorem jd_Search_doesAll_84 : decode jm_m_Search_doesAll.2.1 84 = .ok (.ifCond .eq 5, 3) := by decide +kernel
theorem jd_Search_doesAll_87 : decode jm_m_Search_doesAll.2.1 87 = .ok (.iconst 0, 1) := by decide +kernel
theorem jd_Search_doesAll_88 : decode jm_m_Search_doesAll.2.1 88 = .ok (.ireturn, 1) := by decide +kernel
theorem jd_Search_doesAll_89 : decode jm_m_Search_doesAll.2.1 89 = .ok (.iinc 2 1, 3) := by decide +kernel
theorem jd_Search_doesAll_92 : decode jm_m_Search_doesAll.2.1 92 = .ok (.goto (-90), 3) := by decide +kernel
theorem jd_Search_doesAll_95 : decode jm_m_Search_doesAll.2.1 95 = .ok (.iconst 1, 1) := by decide +kernel
theorem jd_Search_doesAll_96 : decode jm_m_Search_doesAll.2.1 96 = .ok (.ireturn, 1) := by decide +kernel
