theorem jd_Search_endsWith_49 : decode jm_m_Search_endsWith.2.1 49 = .ok (.iload 6, 2) := by decide +kernel
theorem jd_Search_endsWith_51 : decode jm_m_Search_endsWith.2.1 51 = .ok (.iaload, 1) := by decide +kernel
theorem jd_Search_endsWith_52 : decode jm_m_Search_endsWith.2.1 52 = .ok (.iconst (-1), 1) := by decide +kernel
theorem jd_Search_endsWith_53 : decode jm_m_Search_endsWith.2.1 53 = .ok (.ixor, 1) := by decide +kernel
theorem jd_Search_endsWith_54 : decode jm_m_Search_endsWith.2.1 54 = .ok (.iand, 1) := by decide +kernel
theorem jd_Search_endsWith_55 : decode jm_m_Search_endsWith.2.1 55 = .ok (.ifCond .ne 108, 3) := by decide +kernel
theorem jd_Search_endsWith_58 : decode jm_m_Search_endsWith.2.1 58 = .ok (.iload 4, 2) := by decide +kernel
theorem jd_Search_endsWith_60 : decode jm_m_Search_endsWith.2.1 60 = .ok (.ifCond .ne 19, 3) := by decide +kernel
theorem jd_Search_endsWith_63 : decode jm_m_Search_endsWith.2.1 63 = .ok (.aload_n 0, 1) := by decide +kernel
theorem jd_Search_endsWith_64 : decode jm_m_Search_endsWith.2.1 64 = .ok (.getfield 10, 3) := by decide +kernel
theorem jd_Search_endsWith_67 : decode jm_m_Search_endsWith.2.1 67 = .ok (.getfield 104, 3) := by decide +kernel
theorem jd_Search_endsWith_70 : decode jm_m_Search_endsWith.2.1 70 = .ok (.iload 6, 2) := by decide +kernel
theorem jd_Search_endsWith_72 : decode jm_m_Search_endsWith.2.1 72 = .ok (.baload, 1) := by decide +kernel
theorem jd_Search_endsWith_73 : decode jm_m_Search_endsWith.2.1 73 = .ok (.ifCond .ne 6, 3) := by decide +kernel
theorem jd_Search_endsWith_76 : decode jm_m_Search_endsWith.2.1 76 = .ok (.goto 87, 3) := by decide +kernel
theorem jd_Search_endsWith_79 : decode jm_m_Search_endsWith.2.1 79 = .ok (.iload_n 1, 1) := by decide +kernel
theorem jd_Search_endsWith_80 : decode jm_m_Search_endsWith.2.1 80 = .ok (.aload 5, 2) := by decide +kernel
theorem jd_Search_endsWith_82 : decode jm_m_Search_endsWith.2.1 82 = .ok (.aload_n 0, 1) := by decide +kernel
theorem jd_Search_endsWith_83 : decode jm_m_Search_endsWith.2.1 83 = .ok (.getfield 10, 3) := by decide +kernel
theorem jd_Search_endsWith_86 : decode jm_m_Search_endsWith.2.1 86 = .ok (.getfield 108, 3) := by decide +kernel
theorem jd_Search_endsWith_89 : decode jm_m_Search_endsWith.2.1 89 = .ok (.iload 6, 2) := by decide +kernel
theorem jd_Search_endsWith_91 : decode jm_m_Search_endsWith.2.1 91 = .ok (.iaload, 1) := by decide +kernel
theorem jd_Search_endsWith_92 : decode jm_m_Search_endsWith.2.1 92 = .ok (.laload, 1) := by decide +kernel
theorem jd_Search_endsWith_93 : decode jm_m_Search_endsWith.2.1 93 = .ok (.aload 5, 2) := by decide +kernel
theorem jd_Search_endsWith_95 : decode jm_m_Search_endsWith.2.1 95 = .ok (.aload_n 0, 1) := by decide +kernel
theorem jd_Search_endsWith_96 : decode jm_m_Search_endsWith.2.1 96 = .ok (.getfield 10, 3) := by decide +kernel
theorem jd_Search_endsWith_99 : decode jm_m_Search_endsWith.2.1 99 = .ok (.getfield 109, 3) := by decide +kernel
theorem jd_Search_endsWith_102 : decode jm_m_Search_endsWith.2.1 102 = .ok (.iload 6, 2) := by decide +kernel
theorem jd_Search_endsWith_104 : decode jm_m_Search_endsWith.2.1 104 = .ok (.iaload, 1) := by decide +kernel
theorem jd_Search_endsWith_105 : decode jm_m_Search_endsWith.2.1 105 = .ok (.laload, 1) := by decide +kernel
theorem jd_Search_endsWith_106 : decode jm_m_Search_endsWith.2.1 106 = .ok (.invokestatic 116, 3) := by decide +kernel
theorem jd_Search_endsWith_109 : decode jm_m_Search_endsWith.2.1 109 = .ok (.aload_n 0, 1) := by decide +kernel
theorem jd_Search_endsWith_110 : decode jm_m_Search_endsWith.2.1 110 = .ok (.getfield 16, 3) := by decide +kernel
theorem jd_Search_endsWith_113 : decode jm_m_Search_endsWith.2.1 113 = .ok (.iconst 0, 1) := by decide +kernel
theorem jd_Search_endsWith_114 : decode jm_m_Search_endsWith.2.1 114 = .ok (.laload, 1) := by decide +kernel
theorem jd_Search_endsWith_115 : decode jm_m_Search_endsWith.2.1 115 = .ok (.lcmp, 1) := by decide +kernel
theorem jd_Search_endsWith_116 : decode jm_m_Search_endsWith.2.1 116 = .ok (.ifCond .ne 47, 3) := by decide +kernel
theorem jd_Search_endsWith_119 : decode jm_m_Search_endsWith.2.1 119 = .ok (.aload_n 0, 1) := by decide +kernel
theorem jd_Search_endsWith_120 : decode jm_m_Search_endsWith.2.1 120 = .ok (.getfield 35, 3) := by decide +kernel
theorem jd_Search_endsWith_123 : decode jm_m_Search_endsWith.2.1 123 = .ok (.iload 4, 2) := by decide +kernel
theorem jd_Search_endsWith_125 : decode jm_m_Search_endsWith.2.1 125 = .ok (.aload_n 0, 1) := by decide +kernel
theorem jd_Search_endsWith_126 : decode jm_m_Search_endsWith.2.1 126 = .ok (.getfield 10, 3) := by decide +kernel
theorem jd_Search_endsWith_129 : decode jm_m_Search_endsWith.2.1 129 = .ok (.getfield 108, 3) := by decide +kernel
theorem jd_Search_endsWith_132 : decode jm_m_Search_endsWith.2.1 132 = .ok (.iload 6, 2) := by decide +kernel
theorem jd_Search_endsWith_134 : decode jm_m_Search_endsWith.2.1 134 = .ok (.iaload, 1) := by decide +kernel
theorem jd_Search_endsWith_135 : decode jm_m_Search_endsWith.2.1 135 = .ok (.iastore, 1) := by decide +kernel
theorem jd_Search_endsWith_136 : decode jm_m_Search_endsWith.2.1 136 = .ok (.aload_n 0, 1) := by decide +kernel
theorem jd_Search_endsWith_137 : decode jm_m_Search_endsWith.2.1 137 = .ok (.getfield 38, 3) := by decide +kernel
theorem jd_Search_endsWith_140 : decode jm_m_Search_endsWith.2.1 140 = .ok (.iload 4, 2) := by decide +kernel
theorem jd_Search_endsWith_142 : decode jm_m_Search_endsWith.2.1 142 = .ok (.aload_n 0, 1) := by decide +kernel
theorem jd_Search_endsWith_143 : decode jm_m_Search_endsWith.2.1 143 = .ok (.getfield 10, 3) := by decide +kernel
theorem jd_Search_endsWith_146 : decode jm_m_Search_endsWith.2.1 146 = .ok (.getfield 109, 3) := by decide +kernel
theorem jd_Search_endsWith_149 : decode jm_m_Search_endsWith.2.1 149 = .ok (.iload 6, 2) := by decide +kernel
theorem jd_Search_endsWith_151 : decode jm_m_Search_endsWith.2.1 151 = .ok (.iaload, 1) := by decide +kernel
theorem jd_Search_endsWith_152 : decode jm_m_Search_endsWith.2.1 152 = .ok (.iastore, 1) := by decide +kernel
theorem jd_Search_endsWith_153 : decode jm_m_Search_endsWith.2.1 153 = .ok (.aload_n 0, 1) := by decide +kernel
theorem jd_Search_endsWith_154 : decode jm_m_Search_endsWith.2.1 154 = .ok (.iload_n 2, 1) := by decide +kernel
theorem jd_Search_endsWith_155 : decode jm_m_Search_endsWith.2.1 155 = .ok (.invokevirtual 81, 3) := by decide +kernel
theorem jd_Search_endsWith_158 : decode jm_m_Search_endsWith.2.1 158 = .ok (.ifCond .eq 5, 3) := by decide +kernel
theorem jd_Search_endsWith_161 : decode jm_m_Search_endsWith.2.1 161 = .ok (.iconst 1, 1) := by decide +kernel
theorem jd_Search_endsWith_162 : decode jm_m_Search_endsWith.2.1 162 = .ok (.ireturn, 1) := by decide +kernel
theorem jd_Search_endsWith_163 : decode jm_m_Search_endsWith.2.1 163 = .ok (.iinc 6 1, 3) := by decide +kernel
theorem jd_Search_endsWith_166 : decode jm_m_Search_endsWith.2.1 166 = .ok (.goto (-141), 3) := by decide +kernel
theorem jd_Search_endsWith_169 : decode jm_m_Search_endsWith.2.1 169 = .ok (.iconst 0, 1) := by decide +kernel
theorem jd_Search_endsWith_170 : decode jm_m_Search_endsWith.2.1 170 = .ok (.ireturn, 1) := by decide +kernel
theorem jd_Search_doesAll_0 : decode jm_m_Search_doesAll.2.1 0 = .ok (.iconst 0, 1) := by decide +kernel
theorem jd_Search_doesAll_1 : decode jm_m_Search_doesAll.2.1 1 = .ok (.istore_n 2, 1) := by decide +kernel
theorem jd_Search_doesAll_2 : decode jm_m_Search_doesAll.2.1 2 = .ok (.iload_n 2, 1) := by decide +kernel
theorem jd_Search_doesAll_3 : decode jm_m_Search_doesAll.2.1 3 = .ok (.bipush 16, 2) := by decide +kernel
theorem jd_Search_doesAll_5 : decode jm_m_Search_doesAll.2.1 5 = .ok (.if_icmp .ge 90, 3) := by decide +kernel
theorem jd_Search_doesAll_8 : decode jm_m_Search_doesAll.2.1 8 = .ok (.aload_n 0, 1) := by decide +kernel
theorem jd_Search_doesAll_9 : decode jm_m_Search_doesAll.2.1 9 = .ok (.getfield 25, 3) := by decide +kernel
theorem jd_Search_doesAll_12 : decode jm_m_Search_doesAll.2.1 12 = .ok (.iload_n 2, 1) := by decide +kernel
theorem jd_Search_doesAll_13 : decode jm_m_Search_doesAll.2.1 13 = .ok (.invokestatic 62, 3) := by decide +kernel
theorem jd_Search_doesAll_16 : decode jm_m_Search_doesAll.2.1 16 = .ok (.iconst 0, 1) := by decide +kernel
theorem jd_Search_doesAll_17 : decode jm_m_Search_doesAll.2.1 17 = .ok (.istore_n 3, 1) := by decide +kernel
theorem jd_Search_doesAll_18 : decode jm_m_Search_doesAll.2.1 18 = .ok (.iload_n 3, 1) := by decide +kernel
theorem jd_Search_doesAll_19 : decode jm_m_Search_doesAll.2.1 19 = .ok (.iload_n 1, 1) := by decide +kernel
theorem jd_Search_doesAll_20 : decode jm_m_Search_doesAll.2.1 20 = .ok (.if_icmp .ge 51, 3) := by decide +kernel
theorem jd_Search_doesAll_23 : decode jm_m_Search_doesAll.2.1 23 = .ok (.aload_n 0, 1) := by decide +kernel
theorem jd_Search_doesAll_24 : decode jm_m_Search_doesAll.2.1 24 = .ok (.getfield 25, 3) := by decide +kernel
theorem jd_Search_doesAll_27 : decode jm_m_Search_doesAll.2.1 27 = .ok (.aload_n 0, 1) := by decide +kernel
theorem jd_Search_doesAll_28 : decode jm_m_Search_doesAll.2.1 28 = .ok (.getfield 32, 3) := by decide +kernel
theorem jd_Search_doesAll_31 : decode jm_m_Search_doesAll.2.1 31 = .ok (.iload_n 3, 1) := by decide +kernel
theorem jd_Search_doesAll_32 : decode jm_m_Search_doesAll.2.1 32 = .ok (.iaload, 1) := by decide +kernel
theorem jd_Search_doesAll_33 : decode jm_m_Search_doesAll.2.1 33 = .ok (.aload_n 0, 1) := by decide +kernel
theorem jd_Search_doesAll_34 : decode jm_m_Search_doesAll.2.1 34 = .ok (.getfield 28, 3) := by decide +kernel
theorem jd_Search_doesAll_37 : decode jm_m_Search_doesAll.2.1 37 = .ok (.iload_n 3, 1) := by decide +kernel
theorem jd_Search_doesAll_38 : decode jm_m_Search_doesAll.2.1 38 = .ok (.iaload, 1) := by decide +kernel
theorem jd_Search_doesAll_39 : decode jm_m_Search_doesAll.2.1 39 = .ok (.aload_n 0, 1) := by decide +kernel
theorem jd_Search_doesAll_40 : decode jm_m_Search_doesAll.2.1 40 = .ok (.getfield 25, 3) := by decide +kernel
theorem jd_Search_doesAll_43 : decode jm_m_Search_doesAll.2.1 43 = .ok (.aload_n 0, 1) := by decide +kernel
theorem jd_Search_doesAll_44 : decode jm_m_Search_doesAll.2.1 44 = .ok (.getfield 35, 3) := by decide +kernel
theorem jd_Search_doesAll_47 : decode jm_m_Search_doesAll.2.1 47 = .ok (.iload_n 3, 1) := by decide +kernel
theorem jd_Search_doesAll_48 : decode jm_m_Search_doesAll.2.1 48 = .ok (.iaload, 1) := by decide +kernel
theorem jd_Search_doesAll_49 : decode jm_m_Search_doesAll.2.1 49 = .ok (.laload, 1) := by decide +kernel
theorem jd_Search_doesAll_50 : decode jm_m_Search_doesAll.2.1 50 = .ok (.aload_n 0, 1) := by decide +kernel
theorem jd_Search_doesAll_51 : decode jm_m_Search_doesAll.2.1 51 = .ok (.getfield 25, 3) := by decide +kernel
theorem jd_Search_doesAll_54 : decode jm_m_Search_doesAll.2.1 54 = .ok (.aload_n 0, 1) := by decide +kernel
theorem jd_Search_doesAll_55 : decode jm_m_Search_doesAll.2.1 55 = .ok (.getfield 38, 3) := by decide +kernel
theorem jd_Search_doesAll_58 : decode jm_m_Search_doesAll.2.1 58 = .ok (.iload_n 3, 1) := by decide +kernel
theorem jd_Search_doesAll_59 : decode jm_m_Search_doesAll.2.1 59 = .ok (.iaload, 1) := by decide +kernel
theorem jd_Search_doesAll_60 : decode jm_m_Search_doesAll.2.1 60 = .ok (.laload, 1) := by decide +kernel
theorem jd_Search_doesAll_61 : decode jm_m_Search_doesAll.2.1 61 = .ok (.invokestatic 116, 3) := by decide +kernel
theorem jd_Search_doesAll_64 : decode jm_m_Search_doesAll.2.1 64 = .ok (.lastore, 1) := by decide +kernel
theorem jd_Search_doesAll_65 : decode jm_m_Search_doesAll.2.1 65 = .ok (.iinc 3 1, 3) := by decide +kernel
theorem jd_Search_doesAll_68 : decode jm_m_Search_doesAll.2.1 68 = .ok (.goto (-50), 3) := by decide +kernel
theorem jd_Search_doesAll_71 : decode jm_m_Search_doesAll.2.1 71 = .ok (.aload_n 0, 1) := by decide +kernel
theorem jd_Search_doesAll_72 : decode jm_m_Search_doesAll.2.1 72 = .ok (.getfield 25, 3) := by decide +kernel
theorem jd_Search_doesAll_75 : decode jm_m_Search_doesAll.2.1 75 = .ok (.iconst 0, 1) := by decide +kernel
theorem jd_Search_doesAll_76 : decode jm_m_Search_doesAll.2.1 76 = .ok (.laload, 1) := by decide +kernel
theorem jd_Search_doesAll_77 : decode jm_m_Search_doesAll.2.1 77 = .ok (.aload_n 0, 1) := by decide +kernel
theorem jd_Search_doesAll_78 : decode jm_m_Search_doesAll.2.1 78 = .ok (.getfield 16, 3) := by decide +kernel
theorem jd_Search_doesAll_81 : decode jm_m_Search_doesAll.2.1 81 = .ok (.iload_n 2, 1) := by decide +kernel
theorem jd_Search_doesAll_82 : decode jm_m_Search_doesAll.2.1 82 = .ok (.laload, 1) := by decide +kernel
theorem jd_Search_doesAll_83 : decode jm_m_Search_doesAll.2.1 83 = .ok (.lcmp, 1) := by decide +kernel
theorem jd_Search_doesAll_84 : decode jm_m_Search_doesAll.2.1 84 = .ok (.ifCond .eq 5, 3) := by decide +kernel
theorem jd_Search_doesAll_87 : decode jm_m_Search_doesAll.2.1 87 = .ok (.iconst 0, 1) := by decide +kernel
theorem jd_Search_doesAll_88 : decode jm_m_Search_doesAll.2.1 88 = .ok (.ireturn, 1) := by decide +kernel
theorem jd_Search_doesAll_89 : decode jm_m_Search_doesAll.2.1 89 = .ok (.iinc 2 1, 3) := by decide +kernel
theorem jd_Search_doesAll_92 : decode jm_m_Search_doesAll.2.1 92 = .ok (.goto (-90), 3) := by decide +kernel
theorem jd_Search_doesAll_95 : decode jm_m_Search_doesAll.2.1 95 = .ok (.iconst 1, 1) := by decide +kernel
theorem jd_Search_doesAll_96 : decode jm_m_Search_doesAll.2.1 96 = .ok (.ireturn, 1) := by decide +kernel
