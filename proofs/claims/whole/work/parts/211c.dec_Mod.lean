theorem jd_Mod_costAt_89 : decode jm_m_Mod_costAt.2.1 89 = .ok (.iaload, 1) := by decide +kernel
theorem jd_Mod_costAt_90 : decode jm_m_Mod_costAt.2.1 90 = .ok (.invokestatic 141, 3) := by decide +kernel
theorem jd_Mod_costAt_93 : decode jm_m_Mod_costAt.2.1 93 = .ok (.goto 40, 3) := by decide +kernel
theorem jd_Mod_costAt_96 : decode jm_m_Mod_costAt.2.1 96 = .ok (.iload 6, 2) := by decide +kernel
theorem jd_Mod_costAt_98 : decode jm_m_Mod_costAt.2.1 98 = .ok (.bipush 86, 2) := by decide +kernel
theorem jd_Mod_costAt_100 : decode jm_m_Mod_costAt.2.1 100 = .ok (.if_icmp .ne 16, 3) := by decide +kernel
theorem jd_Mod_costAt_103 : decode jm_m_Mod_costAt.2.1 103 = .ok (.aload_n 0, 1) := by decide +kernel
theorem jd_Mod_costAt_104 : decode jm_m_Mod_costAt.2.1 104 = .ok (.getfield 13, 3) := by decide +kernel
theorem jd_Mod_costAt_107 : decode jm_m_Mod_costAt.2.1 107 = .ok (.iload 4, 2) := by decide +kernel
theorem jd_Mod_costAt_109 : decode jm_m_Mod_costAt.2.1 109 = .ok (.iaload, 1) := by decide +kernel
theorem jd_Mod_costAt_110 : decode jm_m_Mod_costAt.2.1 110 = .ok (.invokestatic 145, 3) := by decide +kernel
theorem jd_Mod_costAt_113 : decode jm_m_Mod_costAt.2.1 113 = .ok (.goto 20, 3) := by decide +kernel
theorem jd_Mod_costAt_116 : decode jm_m_Mod_costAt.2.1 116 = .ok (.iload 6, 2) := by decide +kernel
theorem jd_Mod_costAt_118 : decode jm_m_Mod_costAt.2.1 118 = .ok (.aload_n 0, 1) := by decide +kernel
theorem jd_Mod_costAt_119 : decode jm_m_Mod_costAt.2.1 119 = .ok (.getfield 13, 3) := by decide +kernel
theorem jd_Mod_costAt_122 : decode jm_m_Mod_costAt.2.1 122 = .ok (.iload 4, 2) := by decide +kernel
theorem jd_Mod_costAt_124 : decode jm_m_Mod_costAt.2.1 124 = .ok (.iaload, 1) := by decide +kernel
theorem jd_Mod_costAt_125 : decode jm_m_Mod_costAt.2.1 125 = .ok (.if_icmp .ne 7, 3) := by decide +kernel
theorem jd_Mod_costAt_128 : decode jm_m_Mod_costAt.2.1 128 = .ok (.iconst 1, 1) := by decide +kernel
theorem jd_Mod_costAt_129 : decode jm_m_Mod_costAt.2.1 129 = .ok (.goto 4, 3) := by decide +kernel
theorem jd_Mod_costAt_132 : decode jm_m_Mod_costAt.2.1 132 = .ok (.iconst 0, 1) := by decide +kernel
theorem jd_Mod_costAt_133 : decode jm_m_Mod_costAt.2.1 133 = .ok (.istore 8, 2) := by decide +kernel
theorem jd_Mod_costAt_135 : decode jm_m_Mod_costAt.2.1 135 = .ok (.iload 8, 2) := by decide +kernel
theorem jd_Mod_costAt_137 : decode jm_m_Mod_costAt.2.1 137 = .ok (.ifCond .ne 6, 3) := by decide +kernel
theorem jd_Mod_costAt_140 : decode jm_m_Mod_costAt.2.1 140 = .ok (.ldc 192, 2) := by decide +kernel
theorem jd_Mod_costAt_142 : decode jm_m_Mod_costAt.2.1 142 = .ok (.ireturn, 1) := by decide +kernel
theorem jd_Mod_costAt_143 : decode jm_m_Mod_costAt.2.1 143 = .ok (.iinc 4 1, 3) := by decide +kernel
theorem jd_Mod_costAt_146 : decode jm_m_Mod_costAt.2.1 146 = .ok (.iinc 5 1, 3) := by decide +kernel
theorem jd_Mod_costAt_149 : decode jm_m_Mod_costAt.2.1 149 = .ok (.goto (-136), 3) := by decide +kernel
theorem jd_Mod_costAt_152 : decode jm_m_Mod_costAt.2.1 152 = .ok (.iload_n 3, 1) := by decide +kernel
theorem jd_Mod_costAt_153 : decode jm_m_Mod_costAt.2.1 153 = .ok (.ldc 192, 2) := by decide +kernel
theorem jd_Mod_costAt_155 : decode jm_m_Mod_costAt.2.1 155 = .ok (.if_icmp .ge 7, 3) := by decide +kernel
theorem jd_Mod_costAt_158 : decode jm_m_Mod_costAt.2.1 158 = .ok (.iload_n 3, 1) := by decide +kernel
theorem jd_Mod_costAt_159 : decode jm_m_Mod_costAt.2.1 159 = .ok (.goto 5, 3) := by decide +kernel
theorem jd_Mod_costAt_162 : decode jm_m_Mod_costAt.2.1 162 = .ok (.ldc 192, 2) := by decide +kernel
theorem jd_Mod_costAt_164 : decode jm_m_Mod_costAt.2.1 164 = .ok (.ireturn, 1) := by decide +kernel
theorem jd_Mod_findCover_0 : decode jm_m_Mod_findCover.2.1 0 = .ok (.iconst 2, 1) := by decide +kernel
theorem jd_Mod_findCover_1 : decode jm_m_Mod_findCover.2.1 1 = .ok (.aload_n 0, 1) := by decide +kernel
theorem jd_Mod_findCover_2 : decode jm_m_Mod_findCover.2.1 2 = .ok (.getfield 169, 3) := by decide +kernel
theorem jd_Mod_findCover_5 : decode jm_m_Mod_findCover.2.1 5 = .ok (.imul, 1) := by decide +kernel
theorem jd_Mod_findCover_6 : decode jm_m_Mod_findCover.2.1 6 = .ok (.iconst 1, 1) := by decide +kernel
theorem jd_Mod_findCover_7 : decode jm_m_Mod_findCover.2.1 7 = .ok (.isub, 1) := by decide +kernel
theorem jd_Mod_findCover_8 : decode jm_m_Mod_findCover.2.1 8 = .ok (.istore_n 1, 1) := by decide +kernel
theorem jd_Mod_findCover_9 : decode jm_m_Mod_findCover.2.1 9 = .ok (.iload_n 1, 1) := by decide +kernel
theorem jd_Mod_findCover_10 : decode jm_m_Mod_findCover.2.1 10 = .ok (.ifCond .lt 41, 3) := by decide +kernel
theorem jd_Mod_findCover_13 : decode jm_m_Mod_findCover.2.1 13 = .ok (.aload_n 0, 1) := by decide +kernel
theorem jd_Mod_findCover_14 : decode jm_m_Mod_findCover.2.1 14 = .ok (.getfield 43, 3) := by decide +kernel
theorem jd_Mod_findCover_17 : decode jm_m_Mod_findCover.2.1 17 = .ok (.iload_n 1, 1) := by decide +kernel
theorem jd_Mod_findCover_18 : decode jm_m_Mod_findCover.2.1 18 = .ok (.ldc 192, 2) := by decide +kernel
theorem jd_Mod_findCover_20 : decode jm_m_Mod_findCover.2.1 20 = .ok (.iastore, 1) := by decide +kernel
theorem jd_Mod_findCover_21 : decode jm_m_Mod_findCover.2.1 21 = .ok (.aload_n 0, 1) := by decide +kernel
theorem jd_Mod_findCover_22 : decode jm_m_Mod_findCover.2.1 22 = .ok (.getfield 46, 3) := by decide +kernel
theorem jd_Mod_findCover_25 : decode jm_m_Mod_findCover.2.1 25 = .ok (.iload_n 1, 1) := by decide +kernel
theorem jd_Mod_findCover_26 : decode jm_m_Mod_findCover.2.1 26 = .ok (.bipush (-6), 2) := by decide +kernel
theorem jd_Mod_findCover_28 : decode jm_m_Mod_findCover.2.1 28 = .ok (.iastore, 1) := by decide +kernel
theorem jd_Mod_findCover_29 : decode jm_m_Mod_findCover.2.1 29 = .ok (.aload_n 0, 1) := by decide +kernel
theorem jd_Mod_findCover_30 : decode jm_m_Mod_findCover.2.1 30 = .ok (.getfield 49, 3) := by decide +kernel
theorem jd_Mod_findCover_33 : decode jm_m_Mod_findCover.2.1 33 = .ok (.iload_n 1, 1) := by decide +kernel
theorem jd_Mod_findCover_34 : decode jm_m_Mod_findCover.2.1 34 = .ok (.ldc 192, 2) := by decide +kernel
theorem jd_Mod_findCover_36 : decode jm_m_Mod_findCover.2.1 36 = .ok (.iastore, 1) := by decide +kernel
theorem jd_Mod_findCover_37 : decode jm_m_Mod_findCover.2.1 37 = .ok (.aload_n 0, 1) := by decide +kernel
theorem jd_Mod_findCover_38 : decode jm_m_Mod_findCover.2.1 38 = .ok (.getfield 52, 3) := by decide +kernel
theorem jd_Mod_findCover_41 : decode jm_m_Mod_findCover.2.1 41 = .ok (.iload_n 1, 1) := by decide +kernel
theorem jd_Mod_findCover_42 : decode jm_m_Mod_findCover.2.1 42 = .ok (.bipush (-6), 2) := by decide +kernel
theorem jd_Mod_findCover_44 : decode jm_m_Mod_findCover.2.1 44 = .ok (.iastore, 1) := by decide +kernel
theorem jd_Mod_findCover_45 : decode jm_m_Mod_findCover.2.1 45 = .ok (.iinc 1 (-1), 3) := by decide +kernel
theorem jd_Mod_findCover_48 : decode jm_m_Mod_findCover.2.1 48 = .ok (.goto (-39), 3) := by decide +kernel
theorem jd_Mod_findCover_51 : decode jm_m_Mod_findCover.2.1 51 = .ok (.aload_n 0, 1) := by decide +kernel
theorem jd_Mod_findCover_52 : decode jm_m_Mod_findCover.2.1 52 = .ok (.getfield 169, 3) := by decide +kernel
theorem jd_Mod_findCover_55 : decode jm_m_Mod_findCover.2.1 55 = .ok (.iconst 1, 1) := by decide +kernel
theorem jd_Mod_findCover_56 : decode jm_m_Mod_findCover.2.1 56 = .ok (.isub, 1) := by decide +kernel
theorem jd_Mod_findCover_57 : decode jm_m_Mod_findCover.2.1 57 = .ok (.istore_n 1, 1) := by decide +kernel
theorem jd_Mod_findCover_58 : decode jm_m_Mod_findCover.2.1 58 = .ok (.iload_n 1, 1) := by decide +kernel
theorem jd_Mod_findCover_59 : decode jm_m_Mod_findCover.2.1 59 = .ok (.ifCond .lt 199, 3) := by decide +kernel
theorem jd_Mod_findCover_62 : decode jm_m_Mod_findCover.2.1 62 = .ok (.iconst 0, 1) := by decide +kernel
theorem jd_Mod_findCover_63 : decode jm_m_Mod_findCover.2.1 63 = .ok (.istore_n 2, 1) := by decide +kernel
theorem jd_Mod_findCover_64 : decode jm_m_Mod_findCover.2.1 64 = .ok (.iload_n 2, 1) := by decide +kernel
theorem jd_Mod_findCover_65 : decode jm_m_Mod_findCover.2.1 65 = .ok (.aload_n 0, 1) := by decide +kernel
theorem jd_Mod_findCover_66 : decode jm_m_Mod_findCover.2.1 66 = .ok (.getfield 186, 3) := by decide +kernel
theorem jd_Mod_findCover_69 : decode jm_m_Mod_findCover.2.1 69 = .ok (.if_icmp .ge 68, 3) := by decide +kernel
theorem jd_Mod_findCover_72 : decode jm_m_Mod_findCover.2.1 72 = .ok (.aload_n 0, 1) := by decide +kernel
theorem jd_Mod_findCover_73 : decode jm_m_Mod_findCover.2.1 73 = .ok (.iload_n 2, 1) := by decide +kernel
theorem jd_Mod_findCover_74 : decode jm_m_Mod_findCover.2.1 74 = .ok (.invokevirtual 193, 3) := by decide +kernel
theorem jd_Mod_findCover_77 : decode jm_m_Mod_findCover.2.1 77 = .ok (.ifCond .eq 8, 3) := by decide +kernel
theorem jd_Mod_findCover_80 : decode jm_m_Mod_findCover.2.1 80 = .ok (.ldc 192, 2) := by decide +kernel
theorem jd_Mod_findCover_82 : decode jm_m_Mod_findCover.2.1 82 = .ok (.goto 9, 3) := by decide +kernel
theorem jd_Mod_findCover_85 : decode jm_m_Mod_findCover.2.1 85 = .ok (.aload_n 0, 1) := by decide +kernel
theorem jd_Mod_findCover_86 : decode jm_m_Mod_findCover.2.1 86 = .ok (.iload_n 2, 1) := by decide +kernel
theorem jd_Mod_findCover_87 : decode jm_m_Mod_findCover.2.1 87 = .ok (.iload_n 1, 1) := by decide +kernel
theorem jd_Mod_findCover_88 : decode jm_m_Mod_findCover.2.1 88 = .ok (.invokevirtual 196, 3) := by decide +kernel
theorem jd_Mod_findCover_91 : decode jm_m_Mod_findCover.2.1 91 = .ok (.istore_n 3, 1) := by decide +kernel
theorem jd_Mod_findCover_92 : decode jm_m_Mod_findCover.2.1 92 = .ok (.iconst 2, 1) := by decide +kernel
theorem jd_Mod_findCover_93 : decode jm_m_Mod_findCover.2.1 93 = .ok (.iload_n 1, 1) := by decide +kernel
theorem jd_Mod_findCover_94 : decode jm_m_Mod_findCover.2.1 94 = .ok (.imul, 1) := by decide +kernel
theorem jd_Mod_findCover_95 : decode jm_m_Mod_findCover.2.1 95 = .ok (.aload_n 0, 1) := by decide +kernel
theorem jd_Mod_findCover_96 : decode jm_m_Mod_findCover.2.1 96 = .ok (.getfield 31, 3) := by decide +kernel
theorem jd_Mod_findCover_99 : decode jm_m_Mod_findCover.2.1 99 = .ok (.iload_n 2, 1) := by decide +kernel
theorem jd_Mod_findCover_100 : decode jm_m_Mod_findCover.2.1 100 = .ok (.iaload, 1) := by decide +kernel
theorem jd_Mod_findCover_101 : decode jm_m_Mod_findCover.2.1 101 = .ok (.iadd, 1) := by decide +kernel
theorem jd_Mod_findCover_102 : decode jm_m_Mod_findCover.2.1 102 = .ok (.istore 4, 2) := by decide +kernel
theorem jd_Mod_findCover_104 : decode jm_m_Mod_findCover.2.1 104 = .ok (.iload_n 3, 1) := by decide +kernel
theorem jd_Mod_findCover_105 : decode jm_m_Mod_findCover.2.1 105 = .ok (.aload_n 0, 1) := by decide +kernel
theorem jd_Mod_findCover_106 : decode jm_m_Mod_findCover.2.1 106 = .ok (.getfield 43, 3) := by decide +kernel
theorem jd_Mod_findCover_109 : decode jm_m_Mod_findCover.2.1 109 = .ok (.iload 4, 2) := by decide +kernel
theorem jd_Mod_findCover_111 : decode jm_m_Mod_findCover.2.1 111 = .ok (.iaload, 1) := by decide +kernel
theorem jd_Mod_findCover_112 : decode jm_m_Mod_findCover.2.1 112 = .ok (.if_icmp .ge 19, 3) := by decide +kernel
theorem jd_Mod_findCover_115 : decode jm_m_Mod_findCover.2.1 115 = .ok (.aload_n 0, 1) := by decide +kernel
theorem jd_Mod_findCover_116 : decode jm_m_Mod_findCover.2.1 116 = .ok (.getfield 43, 3) := by decide +kernel
theorem jd_Mod_findCover_119 : decode jm_m_Mod_findCover.2.1 119 = .ok (.iload 4, 2) := by decide +kernel
theorem jd_Mod_findCover_121 : decode jm_m_Mod_findCover.2.1 121 = .ok (.iload_n 3, 1) := by decide +kernel
theorem jd_Mod_findCover_122 : decode jm_m_Mod_findCover.2.1 122 = .ok (.iastore, 1) := by decide +kernel
theorem jd_Mod_findCover_123 : decode jm_m_Mod_findCover.2.1 123 = .ok (.aload_n 0, 1) := by decide +kernel
theorem jd_Mod_findCover_124 : decode jm_m_Mod_findCover.2.1 124 = .ok (.getfield 46, 3) := by decide +kernel
theorem jd_Mod_findCover_127 : decode jm_m_Mod_findCover.2.1 127 = .ok (.iload 4, 2) := by decide +kernel
theorem jd_Mod_findCover_129 : decode jm_m_Mod_findCover.2.1 129 = .ok (.iload_n 2, 1) := by decide +kernel
theorem jd_Mod_findCover_130 : decode jm_m_Mod_findCover.2.1 130 = .ok (.iastore, 1) := by decide +kernel
theorem jd_Mod_findCover_131 : decode jm_m_Mod_findCover.2.1 131 = .ok (.iinc 2 1, 3) := by decide +kernel
theorem jd_Mod_findCover_134 : decode jm_m_Mod_findCover.2.1 134 = .ok (.goto (-70), 3) := by decide +kernel
theorem jd_Mod_findCover_137 : decode jm_m_Mod_findCover.2.1 137 = .ok (.iconst 0, 1) := by decide +kernel
theorem jd_Mod_findCover_138 : decode jm_m_Mod_findCover.2.1 138 = .ok (.istore_n 2, 1) := by decide +kernel
theorem jd_Mod_findCover_139 : decode jm_m_Mod_findCover.2.1 139 = .ok (.iload_n 2, 1) := by decide +kernel
theorem jd_Mod_findCover_140 : decode jm_m_Mod_findCover.2.1 140 = .ok (.aload_n 0, 1) := by decide +kernel
theorem jd_Mod_findCover_141 : decode jm_m_Mod_findCover.2.1 141 = .ok (.getfield 186, 3) := by decide +kernel
theorem jd_Mod_findCover_144 : decode jm_m_Mod_findCover.2.1 144 = .ok (.if_icmp .ge 108, 3) := by decide +kernel
theorem jd_Mod_findCover_147 : decode jm_m_Mod_findCover.2.1 147 = .ok (.iconst 2, 1) := by decide +kernel
theorem jd_Mod_findCover_148 : decode jm_m_Mod_findCover.2.1 148 = .ok (.iload_n 1, 1) := by decide +kernel
theorem jd_Mod_findCover_149 : decode jm_m_Mod_findCover.2.1 149 = .ok (.imul, 1) := by decide +kernel
theorem jd_Mod_findCover_150 : decode jm_m_Mod_findCover.2.1 150 = .ok (.aload_n 0, 1) := by decide +kernel
theorem jd_Mod_findCover_151 : decode jm_m_Mod_findCover.2.1 151 = .ok (.getfield 31, 3) := by decide +kernel
theorem jd_Mod_findCover_154 : decode jm_m_Mod_findCover.2.1 154 = .ok (.iload_n 2, 1) := by decide +kernel
theorem jd_Mod_findCover_155 : decode jm_m_Mod_findCover.2.1 155 = .ok (.iaload, 1) := by decide +kernel
theorem jd_Mod_findCover_156 : decode jm_m_Mod_findCover.2.1 156 = .ok (.iadd, 1) := by decide +kernel
theorem jd_Mod_findCover_157 : decode jm_m_Mod_findCover.2.1 157 = .ok (.istore_n 3, 1) := by decide +kernel
theorem jd_Mod_findCover_158 : decode jm_m_Mod_findCover.2.1 158 = .ok (.aload_n 0, 1) := by decide +kernel
theorem jd_Mod_findCover_159 : decode jm_m_Mod_findCover.2.1 159 = .ok (.iload_n 2, 1) := by decide +kernel
theorem jd_Mod_findCover_160 : decode jm_m_Mod_findCover.2.1 160 = .ok (.invokevirtual 193, 3) := by decide +kernel
theorem jd_Mod_findCover_163 : decode jm_m_Mod_findCover.2.1 163 = .ok (.ifCond .eq 34, 3) := by decide +kernel
theorem jd_Mod_findCover_166 : decode jm_m_Mod_findCover.2.1 166 = .ok (.aload_n 0, 1) := by decide +kernel
theorem jd_Mod_findCover_167 : decode jm_m_Mod_findCover.2.1 167 = .ok (.getfield 34, 3) := by decide +kernel
theorem jd_Mod_findCover_170 : decode jm_m_Mod_findCover.2.1 170 = .ok (.iload_n 2, 1) := by decide +kernel
theorem jd_Mod_findCover_171 : decode jm_m_Mod_findCover.2.1 171 = .ok (.iaload, 1) := by decide +kernel
theorem jd_Mod_findCover_172 : decode jm_m_Mod_findCover.2.1 172 = .ok (.aload_n 0, 1) := by decide +kernel
theorem jd_Mod_findCover_173 : decode jm_m_Mod_findCover.2.1 173 = .ok (.getfield 43, 3) := by decide +kernel
theorem jd_Mod_findCover_176 : decode jm_m_Mod_findCover.2.1 176 = .ok (.iconst 2, 1) := by decide +kernel
theorem jd_Mod_findCover_177 : decode jm_m_Mod_findCover.2.1 177 = .ok (.iload_n 1, 1) := by decide +kernel
theorem jd_Mod_findCover_178 : decode jm_m_Mod_findCover.2.1 178 = .ok (.imul, 1) := by decide +kernel
theorem jd_Mod_findCover_179 : decode jm_m_Mod_findCover.2.1 179 = .ok (.aload_n 0, 1) := by decide +kernel
theorem jd_Mod_findCover_180 : decode jm_m_Mod_findCover.2.1 180 = .ok (.getfield 37, 3) := by decide +kernel
theorem jd_Mod_findCover_183 : decode jm_m_Mod_findCover.2.1 183 = .ok (.bipush 12, 2) := by decide +kernel
theorem jd_Mod_findCover_185 : decode jm_m_Mod_findCover.2.1 185 = .ok (.iload_n 2, 1) := by decide +kernel
theorem jd_Mod_findCover_186 : decode jm_m_Mod_findCover.2.1 186 = .ok (.imul, 1) := by decide +kernel
theorem jd_Mod_findCover_187 : decode jm_m_Mod_findCover.2.1 187 = .ok (.iaload, 1) := by decide +kernel
theorem jd_Mod_findCover_188 : decode jm_m_Mod_findCover.2.1 188 = .ok (.invokestatic 189, 3) := by decide +kernel
theorem jd_Mod_findCover_191 : decode jm_m_Mod_findCover.2.1 191 = .ok (.iadd, 1) := by decide +kernel
theorem jd_Mod_findCover_192 : decode jm_m_Mod_findCover.2.1 192 = .ok (.iaload, 1) := by decide +kernel
theorem jd_Mod_findCover_193 : decode jm_m_Mod_findCover.2.1 193 = .ok (.iadd, 1) := by decide +kernel
theorem jd_Mod_findCover_194 : decode jm_m_Mod_findCover.2.1 194 = .ok (.goto 24, 3) := by decide +kernel
theorem jd_Mod_findCover_197 : decode jm_m_Mod_findCover.2.1 197 = .ok (.aload_n 0, 1) := by decide +kernel
theorem jd_Mod_findCover_198 : decode jm_m_Mod_findCover.2.1 198 = .ok (.getfield 46, 3) := by decide +kernel
theorem jd_Mod_findCover_201 : decode jm_m_Mod_findCover.2.1 201 = .ok (.iload_n 3, 1) := by decide +kernel
theorem jd_Mod_findCover_202 : decode jm_m_Mod_findCover.2.1 202 = .ok (.iaload, 1) := by decide +kernel
theorem jd_Mod_findCover_203 : decode jm_m_Mod_findCover.2.1 203 = .ok (.iload_n 2, 1) := by decide +kernel
theorem jd_Mod_findCover_204 : decode jm_m_Mod_findCover.2.1 204 = .ok (.if_icmp .ne 12, 3) := by decide +kernel
theorem jd_Mod_findCover_207 : decode jm_m_Mod_findCover.2.1 207 = .ok (.aload_n 0, 1) := by decide +kernel
theorem jd_Mod_findCover_208 : decode jm_m_Mod_findCover.2.1 208 = .ok (.getfield 43, 3) := by decide +kernel
theorem jd_Mod_findCover_211 : decode jm_m_Mod_findCover.2.1 211 = .ok (.iload_n 3, 1) := by decide +kernel
theorem jd_Mod_findCover_212 : decode jm_m_Mod_findCover.2.1 212 = .ok (.iaload, 1) := by decide +kernel
theorem jd_Mod_findCover_213 : decode jm_m_Mod_findCover.2.1 213 = .ok (.goto 5, 3) := by decide +kernel
theorem jd_Mod_findCover_216 : decode jm_m_Mod_findCover.2.1 216 = .ok (.ldc 192, 2) := by decide +kernel
theorem jd_Mod_findCover_218 : decode jm_m_Mod_findCover.2.1 218 = .ok (.istore 4, 2) := by decide +kernel
theorem jd_Mod_findCover_220 : decode jm_m_Mod_findCover.2.1 220 = .ok (.iload 4, 2) := by decide +kernel
theorem jd_Mod_findCover_222 : decode jm_m_Mod_findCover.2.1 222 = .ok (.aload_n 0, 1) := by decide +kernel
theorem jd_Mod_findCover_223 : decode jm_m_Mod_findCover.2.1 223 = .ok (.getfield 49, 3) := by decide +kernel
theorem jd_Mod_findCover_226 : decode jm_m_Mod_findCover.2.1 226 = .ok (.iload_n 3, 1) := by decide +kernel
theorem jd_Mod_findCover_227 : decode jm_m_Mod_findCover.2.1 227 = .ok (.iaload, 1) := by decide +kernel
theorem jd_Mod_findCover_228 : decode jm_m_Mod_findCover.2.1 228 = .ok (.if_icmp .ge 18, 3) := by decide +kernel
theorem jd_Mod_findCover_231 : decode jm_m_Mod_findCover.2.1 231 = .ok (.aload_n 0, 1) := by decide +kernel
theorem jd_Mod_findCover_232 : decode jm_m_Mod_findCover.2.1 232 = .ok (.getfield 49, 3) := by decide +kernel
theorem jd_Mod_findCover_235 : decode jm_m_Mod_findCover.2.1 235 = .ok (.iload_n 3, 1) := by decide +kernel
theorem jd_Mod_findCover_236 : decode jm_m_Mod_findCover.2.1 236 = .ok (.iload 4, 2) := by decide +kernel
theorem jd_Mod_findCover_238 : decode jm_m_Mod_findCover.2.1 238 = .ok (.iastore, 1) := by decide +kernel
theorem jd_Mod_findCover_239 : decode jm_m_Mod_findCover.2.1 239 = .ok (.aload_n 0, 1) := by decide +kernel
theorem jd_Mod_findCover_240 : decode jm_m_Mod_findCover.2.1 240 = .ok (.getfield 52, 3) := by decide +kernel
theorem jd_Mod_findCover_243 : decode jm_m_Mod_findCover.2.1 243 = .ok (.iload_n 3, 1) := by decide +kernel
theorem jd_Mod_findCover_244 : decode jm_m_Mod_findCover.2.1 244 = .ok (.iload_n 2, 1) := by decide +kernel
theorem jd_Mod_findCover_245 : decode jm_m_Mod_findCover.2.1 245 = .ok (.iastore, 1) := by decide +kernel
theorem jd_Mod_findCover_246 : decode jm_m_Mod_findCover.2.1 246 = .ok (.iinc 2 1, 3) := by decide +kernel
theorem jd_Mod_findCover_249 : decode jm_m_Mod_findCover.2.1 249 = .ok (.goto (-110), 3) := by decide +kernel
theorem jd_Mod_findCover_252 : decode jm_m_Mod_findCover.2.1 252 = .ok (.iinc 1 (-1), 3) := by decide +kernel
theorem jd_Mod_findCover_255 : decode jm_m_Mod_findCover.2.1 255 = .ok (.goto (-197), 3) := by decide +kernel
theorem jd_Mod_findCover_258 : decode jm_m_Mod_findCover.2.1 258 = .ok (.return_, 1) := by decide +kernel
theorem jd_Mod_cover_0 : decode jm_m_Mod_cover.2.1 0 = .ok (.aload_n 0, 1) := by decide +kernel
theorem jd_Mod_cover_1 : decode jm_m_Mod_cover.2.1 1 = .ok (.iload_n 1, 1) := by decide +kernel
theorem jd_Mod_cover_2 : decode jm_m_Mod_cover.2.1 2 = .ok (.invokevirtual 175, 3) := by decide +kernel
theorem jd_Mod_cover_5 : decode jm_m_Mod_cover.2.1 5 = .ok (.ifCond .ne 5, 3) := by decide +kernel
theorem jd_Mod_cover_8 : decode jm_m_Mod_cover.2.1 8 = .ok (.iconst (-1), 1) := by decide +kernel
theorem jd_Mod_cover_9 : decode jm_m_Mod_cover.2.1 9 = .ok (.ireturn, 1) := by decide +kernel
theorem jd_Mod_cover_10 : decode jm_m_Mod_cover.2.1 10 = .ok (.iload_n 2, 1) := by decide +kernel
theorem jd_Mod_cover_11 : decode jm_m_Mod_cover.2.1 11 = .ok (.invokestatic 181, 3) := by decide +kernel
theorem jd_Mod_cover_14 : decode jm_m_Mod_cover.2.1 14 = .ok (.ifCond .eq 13, 3) := by decide +kernel
theorem jd_Mod_cover_17 : decode jm_m_Mod_cover.2.1 17 = .ok (.iload_n 3, 1) := by decide +kernel
theorem jd_Mod_cover_18 : decode jm_m_Mod_cover.2.1 18 = .ok (.i2l, 1) := by decide +kernel
theorem jd_Mod_cover_19 : decode jm_m_Mod_cover.2.1 19 = .ok (.lconst 0, 1) := by decide +kernel
theorem jd_Mod_cover_20 : decode jm_m_Mod_cover.2.1 20 = .ok (.lconst 1, 1) := by decide +kernel
theorem jd_Mod_cover_21 : decode jm_m_Mod_cover.2.1 21 = .ok (.invokestatic 126, 3) := by decide +kernel
theorem jd_Mod_cover_24 : decode jm_m_Mod_cover.2.1 24 = .ok (.ifCond .ne 6, 3) := by decide +kernel
theorem jd_Mod_cover_27 : decode jm_m_Mod_cover.2.1 27 = .ok (.bipush (-2), 2) := by decide +kernel
theorem jd_Mod_cover_29 : decode jm_m_Mod_cover.2.1 29 = .ok (.ireturn, 1) := by decide +kernel
theorem jd_Mod_cover_30 : decode jm_m_Mod_cover.2.1 30 = .ok (.aload_n 0, 1) := by decide +kernel
theorem jd_Mod_cover_31 : decode jm_m_Mod_cover.2.1 31 = .ok (.invokevirtual 200, 3) := by decide +kernel
theorem jd_Mod_cover_34 : decode jm_m_Mod_cover.2.1 34 = .ok (.iconst 2, 1) := by decide +kernel
theorem jd_Mod_cover_35 : decode jm_m_Mod_cover.2.1 35 = .ok (.iload_n 1, 1) := by decide +kernel
theorem jd_Mod_cover_36 : decode jm_m_Mod_cover.2.1 36 = .ok (.imul, 1) := by decide +kernel
theorem jd_Mod_cover_37 : decode jm_m_Mod_cover.2.1 37 = .ok (.iload_n 2, 1) := by decide +kernel
theorem jd_Mod_cover_38 : decode jm_m_Mod_cover.2.1 38 = .ok (.iadd, 1) := by decide +kernel
theorem jd_Mod_cover_39 : decode jm_m_Mod_cover.2.1 39 = .ok (.istore 4, 2) := by decide +kernel
theorem jd_Mod_cover_41 : decode jm_m_Mod_cover.2.1 41 = .ok (.aload_n 0, 1) := by decide +kernel
theorem jd_Mod_cover_42 : decode jm_m_Mod_cover.2.1 42 = .ok (.getfield 52, 3) := by decide +kernel
theorem jd_Mod_cover_45 : decode jm_m_Mod_cover.2.1 45 = .ok (.iload 4, 2) := by decide +kernel
theorem jd_Mod_cover_47 : decode jm_m_Mod_cover.2.1 47 = .ok (.iaload, 1) := by decide +kernel
theorem jd_Mod_cover_48 : decode jm_m_Mod_cover.2.1 48 = .ok (.ifCond .ge 8, 3) := by decide +kernel
theorem jd_Mod_cover_51 : decode jm_m_Mod_cover.2.1 51 = .ok (.bipush (-6), 2) := by decide +kernel
theorem jd_Mod_cover_53 : decode jm_m_Mod_cover.2.1 53 = .ok (.goto 24, 3) := by decide +kernel
theorem jd_Mod_cover_56 : decode jm_m_Mod_cover.2.1 56 = .ok (.iload_n 3, 1) := by decide +kernel
theorem jd_Mod_cover_57 : decode jm_m_Mod_cover.2.1 57 = .ok (.ifCond .ne 13, 3) := by decide +kernel
theorem jd_Mod_cover_60 : decode jm_m_Mod_cover.2.1 60 = .ok (.aload_n 0, 1) := by decide +kernel
theorem jd_Mod_cover_61 : decode jm_m_Mod_cover.2.1 61 = .ok (.getfield 49, 3) := by decide +kernel
theorem jd_Mod_cover_64 : decode jm_m_Mod_cover.2.1 64 = .ok (.iload 4, 2) := by decide +kernel
theorem jd_Mod_cover_66 : decode jm_m_Mod_cover.2.1 66 = .ok (.iaload, 1) := by decide +kernel
theorem jd_Mod_cover_67 : decode jm_m_Mod_cover.2.1 67 = .ok (.goto 10, 3) := by decide +kernel
theorem jd_Mod_cover_70 : decode jm_m_Mod_cover.2.1 70 = .ok (.aload_n 0, 1) := by decide +kernel
theorem jd_Mod_cover_71 : decode jm_m_Mod_cover.2.1 71 = .ok (.getfield 52, 3) := by decide +kernel
theorem jd_Mod_cover_74 : decode jm_m_Mod_cover.2.1 74 = .ok (.iload 4, 2) := by decide +kernel
theorem jd_Mod_cover_76 : decode jm_m_Mod_cover.2.1 76 = .ok (.iaload, 1) := by decide +kernel
theorem jd_Mod_cover_77 : decode jm_m_Mod_cover.2.1 77 = .ok (.ireturn, 1) := by decide +kernel
theorem jd_Mod_later_0 : decode jm_m_Mod_later.2.1 0 = .ok (.aload_n 0, 1) := by decide +kernel
theorem jd_Mod_later_1 : decode jm_m_Mod_later.2.1 1 = .ok (.getfield 55, 3) := by decide +kernel
theorem jd_Mod_later_4 : decode jm_m_Mod_later.2.1 4 = .ok (.aload_n 0, 1) := by decide +kernel
theorem jd_Mod_later_5 : decode jm_m_Mod_later.2.1 5 = .ok (.getfield 203, 3) := by decide +kernel
theorem jd_Mod_later_8 : decode jm_m_Mod_later.2.1 8 = .ok (.iload_n 1, 1) := by decide +kernel
theorem jd_Mod_later_9 : decode jm_m_Mod_later.2.1 9 = .ok (.iastore, 1) := by decide +kernel
theorem jd_Mod_later_10 : decode jm_m_Mod_later.2.1 10 = .ok (.aload_n 0, 1) := by decide +kernel
theorem jd_Mod_later_11 : decode jm_m_Mod_later.2.1 11 = .ok (.getfield 58, 3) := by decide +kernel
theorem jd_Mod_later_14 : decode jm_m_Mod_later.2.1 14 = .ok (.aload_n 0, 1) := by decide +kernel
theorem jd_Mod_later_15 : decode jm_m_Mod_later.2.1 15 = .ok (.getfield 203, 3) := by decide +kernel
theorem jd_Mod_later_18 : decode jm_m_Mod_later.2.1 18 = .ok (.iload_n 2, 1) := by decide +kernel
theorem jd_Mod_later_19 : decode jm_m_Mod_later.2.1 19 = .ok (.iastore, 1) := by decide +kernel
theorem jd_Mod_later_20 : decode jm_m_Mod_later.2.1 20 = .ok (.aload_n 0, 1) := by decide +kernel
theorem jd_Mod_later_21 : decode jm_m_Mod_later.2.1 21 = .ok (.getfield 61, 3) := by decide +kernel
theorem jd_Mod_later_24 : decode jm_m_Mod_later.2.1 24 = .ok (.aload_n 0, 1) := by decide +kernel
theorem jd_Mod_later_25 : decode jm_m_Mod_later.2.1 25 = .ok (.getfield 203, 3) := by decide +kernel
theorem jd_Mod_later_28 : decode jm_m_Mod_later.2.1 28 = .ok (.iload_n 3, 1) := by decide +kernel
theorem jd_Mod_later_29 : decode jm_m_Mod_later.2.1 29 = .ok (.iastore, 1) := by decide +kernel
theorem jd_Mod_later_30 : decode jm_m_Mod_later.2.1 30 = .ok (.aload_n 0, 1) := by decide +kernel
theorem jd_Mod_later_31 : decode jm_m_Mod_later.2.1 31 = .ok (.dup, 1) := by decide +kernel
theorem jd_Mod_later_32 : decode jm_m_Mod_later.2.1 32 = .ok (.getfield 203, 3) := by decide +kernel
theorem jd_Mod_later_35 : decode jm_m_Mod_later.2.1 35 = .ok (.iconst 1, 1) := by decide +kernel
theorem jd_Mod_later_36 : decode jm_m_Mod_later.2.1 36 = .ok (.iadd, 1) := by decide +kernel
theorem jd_Mod_later_37 : decode jm_m_Mod_later.2.1 37 = .ok (.putfield 203, 3) := by decide +kernel
theorem jd_Mod_later_40 : decode jm_m_Mod_later.2.1 40 = .ok (.return_, 1) := by decide +kernel
theorem jd_Mod_laterParts_0 : decode jm_m_Mod_laterParts.2.1 0 = .ok (.aload_n 0, 1) := by decide +kernel
theorem jd_Mod_laterParts_1 : decode jm_m_Mod_laterParts.2.1 1 = .ok (.iload_n 1, 1) := by decide +kernel
theorem jd_Mod_laterParts_2 : decode jm_m_Mod_laterParts.2.1 2 = .ok (.invokevirtual 193, 3) := by decide +kernel
theorem jd_Mod_laterParts_5 : decode jm_m_Mod_laterParts.2.1 5 = .ok (.ifCond .eq 25, 3) := by decide +kernel
theorem jd_Mod_laterParts_8 : decode jm_m_Mod_laterParts.2.1 8 = .ok (.aload_n 0, 1) := by decide +kernel
theorem jd_Mod_laterParts_9 : decode jm_m_Mod_laterParts.2.1 9 = .ok (.iload_n 2, 1) := by decide +kernel
theorem jd_Mod_laterParts_10 : decode jm_m_Mod_laterParts.2.1 10 = .ok (.iconst 2, 1) := by decide +kernel
theorem jd_Mod_laterParts_11 : decode jm_m_Mod_laterParts.2.1 11 = .ok (.aload_n 0, 1) := by decide +kernel
theorem jd_Mod_laterParts_12 : decode jm_m_Mod_laterParts.2.1 12 = .ok (.getfield 37, 3) := by decide +kernel
theorem jd_Mod_laterParts_15 : decode jm_m_Mod_laterParts.2.1 15 = .ok (.bipush 12, 2) := by decide +kernel
theorem jd_Mod_laterParts_17 : decode jm_m_Mod_laterParts.2.1 17 = .ok (.iload_n 1, 1) := by decide +kernel
theorem jd_Mod_laterParts_18 : decode jm_m_Mod_laterParts.2.1 18 = .ok (.imul, 1) := by decide +kernel
theorem jd_Mod_laterParts_19 : decode jm_m_Mod_laterParts.2.1 19 = .ok (.iaload, 1) := by decide +kernel
theorem jd_Mod_laterParts_20 : decode jm_m_Mod_laterParts.2.1 20 = .ok (.invokestatic 189, 3) := by decide +kernel
theorem jd_Mod_laterParts_23 : decode jm_m_Mod_laterParts.2.1 23 = .ok (.iadd, 1) := by decide +kernel
theorem jd_Mod_laterParts_24 : decode jm_m_Mod_laterParts.2.1 24 = .ok (.bipush (-6), 2) := by decide +kernel
theorem jd_Mod_laterParts_26 : decode jm_m_Mod_laterParts.2.1 26 = .ok (.invokevirtual 206, 3) := by decide +kernel
theorem jd_Mod_laterParts_29 : decode jm_m_Mod_laterParts.2.1 29 = .ok (.return_, 1) := by decide +kernel
theorem jd_Mod_laterParts_30 : decode jm_m_Mod_laterParts.2.1 30 = .ok (.aload_n 0, 1) := by decide +kernel
theorem jd_Mod_laterParts_31 : decode jm_m_Mod_laterParts.2.1 31 = .ok (.getfield 203, 3) := by decide +kernel
theorem jd_Mod_laterParts_34 : decode jm_m_Mod_laterParts.2.1 34 = .ok (.istore_n 3, 1) := by decide +kernel
theorem jd_Mod_laterParts_35 : decode jm_m_Mod_laterParts.2.1 35 = .ok (.iload_n 2, 1) := by decide +kernel
theorem jd_Mod_laterParts_36 : decode jm_m_Mod_laterParts.2.1 36 = .ok (.istore 4, 2) := by decide +kernel
theorem jd_Mod_laterParts_38 : decode jm_m_Mod_laterParts.2.1 38 = .ok (.iconst 0, 1) := by decide +kernel
theorem jd_Mod_laterParts_39 : decode jm_m_Mod_laterParts.2.1 39 = .ok (.istore 5, 2) := by decide +kernel
theorem jd_Mod_laterParts_41 : decode jm_m_Mod_laterParts.2.1 41 = .ok (.iload 5, 2) := by decide +kernel
theorem jd_Mod_laterParts_43 : decode jm_m_Mod_laterParts.2.1 43 = .ok (.aload_n 0, 1) := by decide +kernel
theorem jd_Mod_laterParts_44 : decode jm_m_Mod_laterParts.2.1 44 = .ok (.getfield 40, 3) := by decide +kernel
theorem jd_Mod_laterParts_47 : decode jm_m_Mod_laterParts.2.1 47 = .ok (.iload_n 1, 1) := by decide +kernel
theorem jd_Mod_laterParts_48 : decode jm_m_Mod_laterParts.2.1 48 = .ok (.iaload, 1) := by decide +kernel
theorem jd_Mod_laterParts_49 : decode jm_m_Mod_laterParts.2.1 49 = .ok (.if_icmp .ge 55, 3) := by decide +kernel
theorem jd_Mod_laterParts_52 : decode jm_m_Mod_laterParts.2.1 52 = .ok (.aload_n 0, 1) := by decide +kernel
theorem jd_Mod_laterParts_53 : decode jm_m_Mod_laterParts.2.1 53 = .ok (.getfield 37, 3) := by decide +kernel
theorem jd_Mod_laterParts_56 : decode jm_m_Mod_laterParts.2.1 56 = .ok (.bipush 12, 2) := by decide +kernel
theorem jd_Mod_laterParts_58 : decode jm_m_Mod_laterParts.2.1 58 = .ok (.iload_n 1, 1) := by decide +kernel
theorem jd_Mod_laterParts_59 : decode jm_m_Mod_laterParts.2.1 59 = .ok (.imul, 1) := by decide +kernel
theorem jd_Mod_laterParts_60 : decode jm_m_Mod_laterParts.2.1 60 = .ok (.iload 5, 2) := by decide +kernel
theorem jd_Mod_laterParts_62 : decode jm_m_Mod_laterParts.2.1 62 = .ok (.iadd, 1) := by decide +kernel
theorem jd_Mod_laterParts_63 : decode jm_m_Mod_laterParts.2.1 63 = .ok (.iaload, 1) := by decide +kernel
theorem jd_Mod_laterParts_64 : decode jm_m_Mod_laterParts.2.1 64 = .ok (.invokestatic 189, 3) := by decide +kernel
theorem jd_Mod_laterParts_67 : decode jm_m_Mod_laterParts.2.1 67 = .ok (.istore 6, 2) := by decide +kernel
theorem jd_Mod_laterParts_69 : decode jm_m_Mod_laterParts.2.1 69 = .ok (.iload 6, 2) := by decide +kernel
theorem jd_Mod_laterParts_71 : decode jm_m_Mod_laterParts.2.1 71 = .ok (.ifCond .lt 24, 3) := by decide +kernel
theorem jd_Mod_laterParts_74 : decode jm_m_Mod_laterParts.2.1 74 = .ok (.aload_n 0, 1) := by decide +kernel
theorem jd_Mod_laterParts_75 : decode jm_m_Mod_laterParts.2.1 75 = .ok (.iload 4, 2) := by decide +kernel
theorem jd_Mod_laterParts_77 : decode jm_m_Mod_laterParts.2.1 77 = .ok (.iload 6, 2) := by decide +kernel
theorem jd_Mod_laterParts_79 : decode jm_m_Mod_laterParts.2.1 79 = .ok (.bipush (-6), 2) := by decide +kernel
theorem jd_Mod_laterParts_81 : decode jm_m_Mod_laterParts.2.1 81 = .ok (.invokevirtual 206, 3) := by decide +kernel
theorem jd_Mod_laterParts_84 : decode jm_m_Mod_laterParts.2.1 84 = .ok (.aload_n 0, 1) := by decide +kernel
theorem jd_Mod_laterParts_85 : decode jm_m_Mod_laterParts.2.1 85 = .ok (.iload 4, 2) := by decide +kernel
theorem jd_Mod_laterParts_87 : decode jm_m_Mod_laterParts.2.1 87 = .ok (.invokevirtual 172, 3) := by decide +kernel
theorem jd_Mod_laterParts_90 : decode jm_m_Mod_laterParts.2.1 90 = .ok (.istore 4, 2) := by decide +kernel
theorem jd_Mod_laterParts_92 : decode jm_m_Mod_laterParts.2.1 92 = .ok (.goto 6, 3) := by decide +kernel
theorem jd_Mod_laterParts_95 : decode jm_m_Mod_laterParts.2.1 95 = .ok (.iinc 4 1, 3) := by decide +kernel
theorem jd_Mod_laterParts_98 : decode jm_m_Mod_laterParts.2.1 98 = .ok (.iinc 5 1, 3) := by decide +kernel
theorem jd_Mod_laterParts_101 : decode jm_m_Mod_laterParts.2.1 101 = .ok (.goto (-60), 3) := by decide +kernel
theorem jd_Mod_laterParts_104 : decode jm_m_Mod_laterParts.2.1 104 = .ok (.iload_n 3, 1) := by decide +kernel
theorem jd_Mod_laterParts_105 : decode jm_m_Mod_laterParts.2.1 105 = .ok (.istore 5, 2) := by decide +kernel
theorem jd_Mod_laterParts_107 : decode jm_m_Mod_laterParts.2.1 107 = .ok (.aload_n 0, 1) := by decide +kernel
theorem jd_Mod_laterParts_108 : decode jm_m_Mod_laterParts.2.1 108 = .ok (.getfield 203, 3) := by decide +kernel
theorem jd_Mod_laterParts_111 : decode jm_m_Mod_laterParts.2.1 111 = .ok (.iconst 1, 1) := by decide +kernel
theorem jd_Mod_laterParts_112 : decode jm_m_Mod_laterParts.2.1 112 = .ok (.isub, 1) := by decide +kernel
theorem jd_Mod_laterParts_113 : decode jm_m_Mod_laterParts.2.1 113 = .ok (.istore 6, 2) := by decide +kernel
theorem jd_Mod_laterParts_115 : decode jm_m_Mod_laterParts.2.1 115 = .ok (.iload 5, 2) := by decide +kernel
theorem jd_Mod_laterParts_117 : decode jm_m_Mod_laterParts.2.1 117 = .ok (.iload 6, 2) := by decide +kernel
theorem jd_Mod_laterParts_119 : decode jm_m_Mod_laterParts.2.1 119 = .ok (.if_icmp .ge 76, 3) := by decide +kernel
theorem jd_Mod_laterParts_122 : decode jm_m_Mod_laterParts.2.1 122 = .ok (.aload_n 0, 1) := by decide +kernel
theorem jd_Mod_laterParts_123 : decode jm_m_Mod_laterParts.2.1 123 = .ok (.getfield 55, 3) := by decide +kernel
theorem jd_Mod_laterParts_126 : decode jm_m_Mod_laterParts.2.1 126 = .ok (.iload 5, 2) := by decide +kernel
theorem jd_Mod_laterParts_128 : decode jm_m_Mod_laterParts.2.1 128 = .ok (.iaload, 1) := by decide +kernel
theorem jd_Mod_laterParts_129 : decode jm_m_Mod_laterParts.2.1 129 = .ok (.istore 7, 2) := by decide +kernel
theorem jd_Mod_laterParts_131 : decode jm_m_Mod_laterParts.2.1 131 = .ok (.aload_n 0, 1) := by decide +kernel
theorem jd_Mod_laterParts_132 : decode jm_m_Mod_laterParts.2.1 132 = .ok (.getfield 58, 3) := by decide +kernel
theorem jd_Mod_laterParts_135 : decode jm_m_Mod_laterParts.2.1 135 = .ok (.iload 5, 2) := by decide +kernel
theorem jd_Mod_laterParts_137 : decode jm_m_Mod_laterParts.2.1 137 = .ok (.iaload, 1) := by decide +kernel
theorem jd_Mod_laterParts_138 : decode jm_m_Mod_laterParts.2.1 138 = .ok (.istore 8, 2) := by decide +kernel
theorem jd_Mod_laterParts_140 : decode jm_m_Mod_laterParts.2.1 140 = .ok (.aload_n 0, 1) := by decide +kernel
theorem jd_Mod_laterParts_141 : decode jm_m_Mod_laterParts.2.1 141 = .ok (.getfield 55, 3) := by decide +kernel
theorem jd_Mod_laterParts_144 : decode jm_m_Mod_laterParts.2.1 144 = .ok (.iload 5, 2) := by decide +kernel
theorem jd_Mod_laterParts_146 : decode jm_m_Mod_laterParts.2.1 146 = .ok (.aload_n 0, 1) := by decide +kernel
theorem jd_Mod_laterParts_147 : decode jm_m_Mod_laterParts.2.1 147 = .ok (.getfield 55, 3) := by decide +kernel
theorem jd_Mod_laterParts_150 : decode jm_m_Mod_laterParts.2.1 150 = .ok (.iload 6, 2) := by decide +kernel
theorem jd_Mod_laterParts_152 : decode jm_m_Mod_laterParts.2.1 152 = .ok (.iaload, 1) := by decide +kernel
theorem jd_Mod_laterParts_153 : decode jm_m_Mod_laterParts.2.1 153 = .ok (.iastore, 1) := by decide +kernel
theorem jd_Mod_laterParts_154 : decode jm_m_Mod_laterParts.2.1 154 = .ok (.aload_n 0, 1) := by decide +kernel
theorem jd_Mod_laterParts_155 : decode jm_m_Mod_laterParts.2.1 155 = .ok (.getfield 58, 3) := by decide +kernel
theorem jd_Mod_laterParts_158 : decode jm_m_Mod_laterParts.2.1 158 = .ok (.iload 5, 2) := by decide +kernel
theorem jd_Mod_laterParts_160 : decode jm_m_Mod_laterParts.2.1 160 = .ok (.aload_n 0, 1) := by decide +kernel
theorem jd_Mod_laterParts_161 : decode jm_m_Mod_laterParts.2.1 161 = .ok (.getfield 58, 3) := by decide +kernel
theorem jd_Mod_laterParts_164 : decode jm_m_Mod_laterParts.2.1 164 = .ok (.iload 6, 2) := by decide +kernel
theorem jd_Mod_laterParts_166 : decode jm_m_Mod_laterParts.2.1 166 = .ok (.iaload, 1) := by decide +kernel
theorem jd_Mod_laterParts_167 : decode jm_m_Mod_laterParts.2.1 167 = .ok (.iastore, 1) := by decide +kernel
theorem jd_Mod_laterParts_168 : decode jm_m_Mod_laterParts.2.1 168 = .ok (.aload_n 0, 1) := by decide +kernel
theorem jd_Mod_laterParts_169 : decode jm_m_Mod_laterParts.2.1 169 = .ok (.getfield 55, 3) := by decide +kernel
theorem jd_Mod_laterParts_172 : decode jm_m_Mod_laterParts.2.1 172 = .ok (.iload 6, 2) := by decide +kernel
theorem jd_Mod_laterParts_174 : decode jm_m_Mod_laterParts.2.1 174 = .ok (.iload 7, 2) := by decide +kernel
theorem jd_Mod_laterParts_176 : decode jm_m_Mod_laterParts.2.1 176 = .ok (.iastore, 1) := by decide +kernel
theorem jd_Mod_laterParts_177 : decode jm_m_Mod_laterParts.2.1 177 = .ok (.aload_n 0, 1) := by decide +kernel
theorem jd_Mod_laterParts_178 : decode jm_m_Mod_laterParts.2.1 178 = .ok (.getfield 58, 3) := by decide +kernel
theorem jd_Mod_laterParts_181 : decode jm_m_Mod_laterParts.2.1 181 = .ok (.iload 6, 2) := by decide +kernel
theorem jd_Mod_laterParts_183 : decode jm_m_Mod_laterParts.2.1 183 = .ok (.iload 8, 2) := by decide +kernel
theorem jd_Mod_laterParts_185 : decode jm_m_Mod_laterParts.2.1 185 = .ok (.iastore, 1) := by decide +kernel
theorem jd_Mod_laterParts_186 : decode jm_m_Mod_laterParts.2.1 186 = .ok (.iinc 5 1, 3) := by decide +kernel
theorem jd_Mod_laterParts_189 : decode jm_m_Mod_laterParts.2.1 189 = .ok (.iinc 6 (-1), 3) := by decide +kernel
theorem jd_Mod_laterParts_192 : decode jm_m_Mod_laterParts.2.1 192 = .ok (.goto (-77), 3) := by decide +kernel
theorem jd_Mod_laterParts_195 : decode jm_m_Mod_laterParts.2.1 195 = .ok (.return_, 1) := by decide +kernel
theorem jd_Mod_findCode_0 : decode jm_m_Mod_findCode.2.1 0 = .ok (.aload_n 0, 1) := by decide +kernel
theorem jd_Mod_findCode_1 : decode jm_m_Mod_findCode.2.1 1 = .ok (.iconst 0, 1) := by decide +kernel
theorem jd_Mod_findCode_2 : decode jm_m_Mod_findCode.2.1 2 = .ok (.putfield 210, 3) := by decide +kernel
theorem jd_Mod_findCode_5 : decode jm_m_Mod_findCode.2.1 5 = .ok (.aload_n 0, 1) := by decide +kernel
theorem jd_Mod_findCode_6 : decode jm_m_Mod_findCode.2.1 6 = .ok (.iconst 0, 1) := by decide +kernel
theorem jd_Mod_findCode_7 : decode jm_m_Mod_findCode.2.1 7 = .ok (.putfield 203, 3) := by decide +kernel
theorem jd_Mod_findCode_10 : decode jm_m_Mod_findCode.2.1 10 = .ok (.aload_n 0, 1) := by decide +kernel
theorem jd_Mod_findCode_11 : decode jm_m_Mod_findCode.2.1 11 = .ok (.iconst 0, 1) := by decide +kernel
theorem jd_Mod_findCode_12 : decode jm_m_Mod_findCode.2.1 12 = .ok (.iconst 0, 1) := by decide +kernel
theorem jd_Mod_findCode_13 : decode jm_m_Mod_findCode.2.1 13 = .ok (.bipush (-6), 2) := by decide +kernel
theorem jd_Mod_findCode_15 : decode jm_m_Mod_findCode.2.1 15 = .ok (.invokevirtual 206, 3) := by decide +kernel
theorem jd_Mod_findCode_18 : decode jm_m_Mod_findCode.2.1 18 = .ok (.aload_n 0, 1) := by decide +kernel
theorem jd_Mod_findCode_19 : decode jm_m_Mod_findCode.2.1 19 = .ok (.getfield 203, 3) := by decide +kernel
theorem jd_Mod_findCode_22 : decode jm_m_Mod_findCode.2.1 22 = .ok (.ifCond .le 125, 3) := by decide +kernel
theorem jd_Mod_findCode_25 : decode jm_m_Mod_findCode.2.1 25 = .ok (.aload_n 0, 1) := by decide +kernel
theorem jd_Mod_findCode_26 : decode jm_m_Mod_findCode.2.1 26 = .ok (.dup, 1) := by decide +kernel
theorem jd_Mod_findCode_27 : decode jm_m_Mod_findCode.2.1 27 = .ok (.getfield 203, 3) := by decide +kernel
theorem jd_Mod_findCode_30 : decode jm_m_Mod_findCode.2.1 30 = .ok (.iconst 1, 1) := by decide +kernel
theorem jd_Mod_findCode_31 : decode jm_m_Mod_findCode.2.1 31 = .ok (.isub, 1) := by decide +kernel
theorem jd_Mod_findCode_32 : decode jm_m_Mod_findCode.2.1 32 = .ok (.putfield 203, 3) := by decide +kernel
theorem jd_Mod_findCode_35 : decode jm_m_Mod_findCode.2.1 35 = .ok (.aload_n 0, 1) := by decide +kernel
theorem jd_Mod_findCode_36 : decode jm_m_Mod_findCode.2.1 36 = .ok (.getfield 55, 3) := by decide +kernel
theorem jd_Mod_findCode_39 : decode jm_m_Mod_findCode.2.1 39 = .ok (.aload_n 0, 1) := by decide +kernel
theorem jd_Mod_findCode_40 : decode jm_m_Mod_findCode.2.1 40 = .ok (.getfield 203, 3) := by decide +kernel
theorem jd_Mod_findCode_43 : decode jm_m_Mod_findCode.2.1 43 = .ok (.iaload, 1) := by decide +kernel
theorem jd_Mod_findCode_44 : decode jm_m_Mod_findCode.2.1 44 = .ok (.istore_n 1, 1) := by decide +kernel
theorem jd_Mod_findCode_45 : decode jm_m_Mod_findCode.2.1 45 = .ok (.aload_n 0, 1) := by decide +kernel
theorem jd_Mod_findCode_46 : decode jm_m_Mod_findCode.2.1 46 = .ok (.getfield 58, 3) := by decide +kernel
theorem jd_Mod_findCode_49 : decode jm_m_Mod_findCode.2.1 49 = .ok (.aload_n 0, 1) := by decide +kernel
theorem jd_Mod_findCode_50 : decode jm_m_Mod_findCode.2.1 50 = .ok (.getfield 203, 3) := by decide +kernel
theorem jd_Mod_findCode_53 : decode jm_m_Mod_findCode.2.1 53 = .ok (.iaload, 1) := by decide +kernel
theorem jd_Mod_findCode_54 : decode jm_m_Mod_findCode.2.1 54 = .ok (.istore_n 2, 1) := by decide +kernel
theorem jd_Mod_findCode_55 : decode jm_m_Mod_findCode.2.1 55 = .ok (.iload_n 2, 1) := by decide +kernel
theorem jd_Mod_findCode_56 : decode jm_m_Mod_findCode.2.1 56 = .ok (.ifCond .ge 44, 3) := by decide +kernel
