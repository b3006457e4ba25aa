theorem jd_Mod_init_0 : decode jm_m_Mod_init.2.1 0 = .ok (.aload_n 0, 1) := by decide +kernel
theorem jd_Mod_init_1 : decode jm_m_Mod_init.2.1 1 = .ok (.invokespecial 1, 3) := by decide +kernel
theorem jd_Mod_init_4 : decode jm_m_Mod_init.2.1 4 = .ok (.aload_n 0, 1) := by decide +kernel
theorem jd_Mod_init_5 : decode jm_m_Mod_init.2.1 5 = .ok (.bipush 60, 2) := by decide +kernel
theorem jd_Mod_init_7 : decode jm_m_Mod_init.2.1 7 = .ok (.newarray .int, 2) := by decide +kernel
theorem jd_Mod_init_9 : decode jm_m_Mod_init.2.1 9 = .ok (.putfield 7, 3) := by decide +kernel
theorem jd_Mod_init_12 : decode jm_m_Mod_init.2.1 12 = .ok (.aload_n 0, 1) := by decide +kernel
theorem jd_Mod_init_13 : decode jm_m_Mod_init.2.1 13 = .ok (.bipush 60, 2) := by decide +kernel
theorem jd_Mod_init_15 : decode jm_m_Mod_init.2.1 15 = .ok (.newarray .int, 2) := by decide +kernel
theorem jd_Mod_init_17 : decode jm_m_Mod_init.2.1 17 = .ok (.putfield 13, 3) := by decide +kernel
theorem jd_Mod_init_20 : decode jm_m_Mod_init.2.1 20 = .ok (.aload_n 0, 1) := by decide +kernel
theorem jd_Mod_init_21 : decode jm_m_Mod_init.2.1 21 = .ok (.bipush 60, 2) := by decide +kernel
theorem jd_Mod_init_23 : decode jm_m_Mod_init.2.1 23 = .ok (.newarray .int, 2) := by decide +kernel
theorem jd_Mod_init_25 : decode jm_m_Mod_init.2.1 25 = .ok (.putfield 16, 3) := by decide +kernel
theorem jd_Mod_init_28 : decode jm_m_Mod_init.2.1 28 = .ok (.aload_n 0, 1) := by decide +kernel
theorem jd_Mod_init_29 : decode jm_m_Mod_init.2.1 29 = .ok (.bipush 60, 2) := by decide +kernel
theorem jd_Mod_init_31 : decode jm_m_Mod_init.2.1 31 = .ok (.newarray .int, 2) := by decide +kernel
theorem jd_Mod_init_33 : decode jm_m_Mod_init.2.1 33 = .ok (.putfield 19, 3) := by decide +kernel
theorem jd_Mod_init_36 : decode jm_m_Mod_init.2.1 36 = .ok (.aload_n 0, 1) := by decide +kernel
theorem jd_Mod_init_37 : decode jm_m_Mod_init.2.1 37 = .ok (.bipush 60, 2) := by decide +kernel
theorem jd_Mod_init_39 : decode jm_m_Mod_init.2.1 39 = .ok (.newarray .int, 2) := by decide +kernel
theorem jd_Mod_init_41 : decode jm_m_Mod_init.2.1 41 = .ok (.putfield 22, 3) := by decide +kernel
theorem jd_Mod_init_44 : decode jm_m_Mod_init.2.1 44 = .ok (.aload_n 0, 1) := by decide +kernel
theorem jd_Mod_init_45 : decode jm_m_Mod_init.2.1 45 = .ok (.bipush 60, 2) := by decide +kernel
theorem jd_Mod_init_47 : decode jm_m_Mod_init.2.1 47 = .ok (.newarray .int, 2) := by decide +kernel
theorem jd_Mod_init_49 : decode jm_m_Mod_init.2.1 49 = .ok (.putfield 25, 3) := by decide +kernel
theorem jd_Mod_init_52 : decode jm_m_Mod_init.2.1 52 = .ok (.aload_n 0, 1) := by decide +kernel
theorem jd_Mod_init_53 : decode jm_m_Mod_init.2.1 53 = .ok (.bipush 60, 2) := by decide +kernel
theorem jd_Mod_init_55 : decode jm_m_Mod_init.2.1 55 = .ok (.newarray .int, 2) := by decide +kernel
theorem jd_Mod_init_57 : decode jm_m_Mod_init.2.1 57 = .ok (.putfield 28, 3) := by decide +kernel
theorem jd_Mod_init_60 : decode jm_m_Mod_init.2.1 60 = .ok (.aload_n 0, 1) := by decide +kernel
theorem jd_Mod_init_61 : decode jm_m_Mod_init.2.1 61 = .ok (.bipush 16, 2) := by decide +kernel
theorem jd_Mod_init_63 : decode jm_m_Mod_init.2.1 63 = .ok (.newarray .int, 2) := by decide +kernel
theorem jd_Mod_init_65 : decode jm_m_Mod_init.2.1 65 = .ok (.putfield 31, 3) := by decide +kernel
theorem jd_Mod_init_68 : decode jm_m_Mod_init.2.1 68 = .ok (.aload_n 0, 1) := by decide +kernel
theorem jd_Mod_init_69 : decode jm_m_Mod_init.2.1 69 = .ok (.bipush 16, 2) := by decide +kernel
theorem jd_Mod_init_71 : decode jm_m_Mod_init.2.1 71 = .ok (.newarray .int, 2) := by decide +kernel
theorem jd_Mod_init_73 : decode jm_m_Mod_init.2.1 73 = .ok (.putfield 34, 3) := by decide +kernel
theorem jd_Mod_init_76 : decode jm_m_Mod_init.2.1 76 = .ok (.aload_n 0, 1) := by decide +kernel
theorem jd_Mod_init_77 : decode jm_m_Mod_init.2.1 77 = .ok (.sipush 192, 3) := by decide +kernel
theorem jd_Mod_init_80 : decode jm_m_Mod_init.2.1 80 = .ok (.newarray .int, 2) := by decide +kernel
theorem jd_Mod_init_82 : decode jm_m_Mod_init.2.1 82 = .ok (.putfield 37, 3) := by decide +kernel
theorem jd_Mod_init_85 : decode jm_m_Mod_init.2.1 85 = .ok (.aload_n 0, 1) := by decide +kernel
theorem jd_Mod_init_86 : decode jm_m_Mod_init.2.1 86 = .ok (.bipush 16, 2) := by decide +kernel
theorem jd_Mod_init_88 : decode jm_m_Mod_init.2.1 88 = .ok (.newarray .int, 2) := by decide +kernel
theorem jd_Mod_init_90 : decode jm_m_Mod_init.2.1 90 = .ok (.putfield 40, 3) := by decide +kernel
theorem jd_Mod_init_93 : decode jm_m_Mod_init.2.1 93 = .ok (.aload_n 0, 1) := by decide +kernel
theorem jd_Mod_init_94 : decode jm_m_Mod_init.2.1 94 = .ok (.bipush 60, 2) := by decide +kernel
theorem jd_Mod_init_96 : decode jm_m_Mod_init.2.1 96 = .ok (.newarray .int, 2) := by decide +kernel
theorem jd_Mod_init_98 : decode jm_m_Mod_init.2.1 98 = .ok (.putfield 43, 3) := by decide +kernel
theorem jd_Mod_init_101 : decode jm_m_Mod_init.2.1 101 = .ok (.aload_n 0, 1) := by decide +kernel
theorem jd_Mod_init_102 : decode jm_m_Mod_init.2.1 102 = .ok (.bipush 60, 2) := by decide +kernel
theorem jd_Mod_init_104 : decode jm_m_Mod_init.2.1 104 = .ok (.newarray .int, 2) := by decide +kernel
theorem jd_Mod_init_106 : decode jm_m_Mod_init.2.1 106 = .ok (.putfield 46, 3) := by decide +kernel
theorem jd_Mod_init_109 : decode jm_m_Mod_init.2.1 109 = .ok (.aload_n 0, 1) := by decide +kernel
theorem jd_Mod_init_110 : decode jm_m_Mod_init.2.1 110 = .ok (.bipush 60, 2) := by decide +kernel
theorem jd_Mod_init_112 : decode jm_m_Mod_init.2.1 112 = .ok (.newarray .int, 2) := by decide +kernel
theorem jd_Mod_init_114 : decode jm_m_Mod_init.2.1 114 = .ok (.putfield 49, 3) := by decide +kernel
theorem jd_Mod_init_117 : decode jm_m_Mod_init.2.1 117 = .ok (.aload_n 0, 1) := by decide +kernel
theorem jd_Mod_init_118 : decode jm_m_Mod_init.2.1 118 = .ok (.bipush 60, 2) := by decide +kernel
theorem jd_Mod_init_120 : decode jm_m_Mod_init.2.1 120 = .ok (.newarray .int, 2) := by decide +kernel
theorem jd_Mod_init_122 : decode jm_m_Mod_init.2.1 122 = .ok (.putfield 52, 3) := by decide +kernel
theorem jd_Mod_init_125 : decode jm_m_Mod_init.2.1 125 = .ok (.aload_n 0, 1) := by decide +kernel
theorem jd_Mod_init_126 : decode jm_m_Mod_init.2.1 126 = .ok (.sipush 200, 3) := by decide +kernel
theorem jd_Mod_init_129 : decode jm_m_Mod_init.2.1 129 = .ok (.newarray .int, 2) := by decide +kernel
theorem jd_Mod_init_131 : decode jm_m_Mod_init.2.1 131 = .ok (.putfield 55, 3) := by decide +kernel
theorem jd_Mod_init_134 : decode jm_m_Mod_init.2.1 134 = .ok (.aload_n 0, 1) := by decide +kernel
theorem jd_Mod_init_135 : decode jm_m_Mod_init.2.1 135 = .ok (.sipush 200, 3) := by decide +kernel
theorem jd_Mod_init_138 : decode jm_m_Mod_init.2.1 138 = .ok (.newarray .int, 2) := by decide +kernel
theorem jd_Mod_init_140 : decode jm_m_Mod_init.2.1 140 = .ok (.putfield 58, 3) := by decide +kernel
theorem jd_Mod_init_143 : decode jm_m_Mod_init.2.1 143 = .ok (.aload_n 0, 1) := by decide +kernel
theorem jd_Mod_init_144 : decode jm_m_Mod_init.2.1 144 = .ok (.sipush 200, 3) := by decide +kernel
theorem jd_Mod_init_147 : decode jm_m_Mod_init.2.1 147 = .ok (.newarray .int, 2) := by decide +kernel
theorem jd_Mod_init_149 : decode jm_m_Mod_init.2.1 149 = .ok (.putfield 61, 3) := by decide +kernel
theorem jd_Mod_init_152 : decode jm_m_Mod_init.2.1 152 = .ok (.aload_n 0, 1) := by decide +kernel
theorem jd_Mod_init_153 : decode jm_m_Mod_init.2.1 153 = .ok (.bipush 100, 2) := by decide +kernel
theorem jd_Mod_init_155 : decode jm_m_Mod_init.2.1 155 = .ok (.newarray .int, 2) := by decide +kernel
theorem jd_Mod_init_157 : decode jm_m_Mod_init.2.1 157 = .ok (.putfield 64, 3) := by decide +kernel
theorem jd_Mod_init_160 : decode jm_m_Mod_init.2.1 160 = .ok (.aload_n 0, 1) := by decide +kernel
theorem jd_Mod_init_161 : decode jm_m_Mod_init.2.1 161 = .ok (.bipush 100, 2) := by decide +kernel
theorem jd_Mod_init_163 : decode jm_m_Mod_init.2.1 163 = .ok (.newarray .int, 2) := by decide +kernel
theorem jd_Mod_init_165 : decode jm_m_Mod_init.2.1 165 = .ok (.putfield 67, 3) := by decide +kernel
theorem jd_Mod_init_168 : decode jm_m_Mod_init.2.1 168 = .ok (.aload_n 0, 1) := by decide +kernel
theorem jd_Mod_init_169 : decode jm_m_Mod_init.2.1 169 = .ok (.bipush 12, 2) := by decide +kernel
theorem jd_Mod_init_171 : decode jm_m_Mod_init.2.1 171 = .ok (.newarray .int, 2) := by decide +kernel
theorem jd_Mod_init_173 : decode jm_m_Mod_init.2.1 173 = .ok (.putfield 70, 3) := by decide +kernel
theorem jd_Mod_init_176 : decode jm_m_Mod_init.2.1 176 = .ok (.aload_n 0, 1) := by decide +kernel
theorem jd_Mod_init_177 : decode jm_m_Mod_init.2.1 177 = .ok (.bipush 12, 2) := by decide +kernel
theorem jd_Mod_init_179 : decode jm_m_Mod_init.2.1 179 = .ok (.newarray .int, 2) := by decide +kernel
theorem jd_Mod_init_181 : decode jm_m_Mod_init.2.1 181 = .ok (.putfield 73, 3) := by decide +kernel
theorem jd_Mod_init_184 : decode jm_m_Mod_init.2.1 184 = .ok (.aload_n 0, 1) := by decide +kernel
theorem jd_Mod_init_185 : decode jm_m_Mod_init.2.1 185 = .ok (.bipush 12, 2) := by decide +kernel
theorem jd_Mod_init_187 : decode jm_m_Mod_init.2.1 187 = .ok (.newarray .int, 2) := by decide +kernel
theorem jd_Mod_init_189 : decode jm_m_Mod_init.2.1 189 = .ok (.putfield 76, 3) := by decide +kernel
theorem jd_Mod_init_192 : decode jm_m_Mod_init.2.1 192 = .ok (.aload_n 0, 1) := by decide +kernel
theorem jd_Mod_init_193 : decode jm_m_Mod_init.2.1 193 = .ok (.bipush 12, 2) := by decide +kernel
theorem jd_Mod_init_195 : decode jm_m_Mod_init.2.1 195 = .ok (.newarray .int, 2) := by decide +kernel
theorem jd_Mod_init_197 : decode jm_m_Mod_init.2.1 197 = .ok (.putfield 79, 3) := by decide +kernel
theorem jd_Mod_init_200 : decode jm_m_Mod_init.2.1 200 = .ok (.aload_n 0, 1) := by decide +kernel
theorem jd_Mod_init_201 : decode jm_m_Mod_init.2.1 201 = .ok (.bipush 12, 2) := by decide +kernel
theorem jd_Mod_init_203 : decode jm_m_Mod_init.2.1 203 = .ok (.newarray .int, 2) := by decide +kernel
theorem jd_Mod_init_205 : decode jm_m_Mod_init.2.1 205 = .ok (.putfield 82, 3) := by decide +kernel
theorem jd_Mod_init_208 : decode jm_m_Mod_init.2.1 208 = .ok (.aload_n 0, 1) := by decide +kernel
theorem jd_Mod_init_209 : decode jm_m_Mod_init.2.1 209 = .ok (.bipush 12, 2) := by decide +kernel
theorem jd_Mod_init_211 : decode jm_m_Mod_init.2.1 211 = .ok (.newarray .int, 2) := by decide +kernel
theorem jd_Mod_init_213 : decode jm_m_Mod_init.2.1 213 = .ok (.putfield 85, 3) := by decide +kernel
theorem jd_Mod_init_216 : decode jm_m_Mod_init.2.1 216 = .ok (.aload_n 0, 1) := by decide +kernel
theorem jd_Mod_init_217 : decode jm_m_Mod_init.2.1 217 = .ok (.bipush 12, 2) := by decide +kernel
theorem jd_Mod_init_219 : decode jm_m_Mod_init.2.1 219 = .ok (.newarray .int, 2) := by decide +kernel
theorem jd_Mod_init_221 : decode jm_m_Mod_init.2.1 221 = .ok (.putfield 88, 3) := by decide +kernel
theorem jd_Mod_init_224 : decode jm_m_Mod_init.2.1 224 = .ok (.aload_n 0, 1) := by decide +kernel
theorem jd_Mod_init_225 : decode jm_m_Mod_init.2.1 225 = .ok (.bipush 12, 2) := by decide +kernel
theorem jd_Mod_init_227 : decode jm_m_Mod_init.2.1 227 = .ok (.newarray .int, 2) := by decide +kernel
theorem jd_Mod_init_229 : decode jm_m_Mod_init.2.1 229 = .ok (.putfield 91, 3) := by decide +kernel
theorem jd_Mod_init_232 : decode jm_m_Mod_init.2.1 232 = .ok (.aload_n 0, 1) := by decide +kernel
theorem jd_Mod_init_233 : decode jm_m_Mod_init.2.1 233 = .ok (.bipush 12, 2) := by decide +kernel
theorem jd_Mod_init_235 : decode jm_m_Mod_init.2.1 235 = .ok (.newarray .int, 2) := by decide +kernel
theorem jd_Mod_init_237 : decode jm_m_Mod_init.2.1 237 = .ok (.putfield 94, 3) := by decide +kernel
theorem jd_Mod_init_240 : decode jm_m_Mod_init.2.1 240 = .ok (.aload_n 0, 1) := by decide +kernel
theorem jd_Mod_init_241 : decode jm_m_Mod_init.2.1 241 = .ok (.bipush 13, 2) := by decide +kernel
theorem jd_Mod_init_243 : decode jm_m_Mod_init.2.1 243 = .ok (.newarray .int, 2) := by decide +kernel
theorem jd_Mod_init_245 : decode jm_m_Mod_init.2.1 245 = .ok (.putfield 97, 3) := by decide +kernel
theorem jd_Mod_init_248 : decode jm_m_Mod_init.2.1 248 = .ok (.aload_n 0, 1) := by decide +kernel
theorem jd_Mod_init_249 : decode jm_m_Mod_init.2.1 249 = .ok (.bipush 72, 2) := by decide +kernel
theorem jd_Mod_init_251 : decode jm_m_Mod_init.2.1 251 = .ok (.newarray .int, 2) := by decide +kernel
theorem jd_Mod_init_253 : decode jm_m_Mod_init.2.1 253 = .ok (.putfield 100, 3) := by decide +kernel
theorem jd_Mod_init_256 : decode jm_m_Mod_init.2.1 256 = .ok (.aload_n 0, 1) := by decide +kernel
theorem jd_Mod_init_257 : decode jm_m_Mod_init.2.1 257 = .ok (.bipush 12, 2) := by decide +kernel
theorem jd_Mod_init_259 : decode jm_m_Mod_init.2.1 259 = .ok (.newarray .int, 2) := by decide +kernel
theorem jd_Mod_init_261 : decode jm_m_Mod_init.2.1 261 = .ok (.putfield 103, 3) := by decide +kernel
theorem jd_Mod_init_264 : decode jm_m_Mod_init.2.1 264 = .ok (.aload_n 0, 1) := by decide +kernel
theorem jd_Mod_init_265 : decode jm_m_Mod_init.2.1 265 = .ok (.bipush 6, 2) := by decide +kernel
theorem jd_Mod_init_267 : decode jm_m_Mod_init.2.1 267 = .ok (.newarray .int, 2) := by decide +kernel
theorem jd_Mod_init_269 : decode jm_m_Mod_init.2.1 269 = .ok (.putfield 106, 3) := by decide +kernel
theorem jd_Mod_init_272 : decode jm_m_Mod_init.2.1 272 = .ok (.aload_n 0, 1) := by decide +kernel
theorem jd_Mod_init_273 : decode jm_m_Mod_init.2.1 273 = .ok (.sipush 256, 3) := by decide +kernel
theorem jd_Mod_init_276 : decode jm_m_Mod_init.2.1 276 = .ok (.newarray .int, 2) := by decide +kernel
theorem jd_Mod_init_278 : decode jm_m_Mod_init.2.1 278 = .ok (.putfield 109, 3) := by decide +kernel
theorem jd_Mod_init_281 : decode jm_m_Mod_init.2.1 281 = .ok (.aload_n 0, 1) := by decide +kernel
theorem jd_Mod_init_282 : decode jm_m_Mod_init.2.1 282 = .ok (.sipush 153, 3) := by decide +kernel
theorem jd_Mod_init_285 : decode jm_m_Mod_init.2.1 285 = .ok (.newarray .int, 2) := by decide +kernel
theorem jd_Mod_init_287 : decode jm_m_Mod_init.2.1 287 = .ok (.putfield 112, 3) := by decide +kernel
theorem jd_Mod_init_290 : decode jm_m_Mod_init.2.1 290 = .ok (.aload_n 0, 1) := by decide +kernel
theorem jd_Mod_init_291 : decode jm_m_Mod_init.2.1 291 = .ok (.iconst 3, 1) := by decide +kernel
theorem jd_Mod_init_292 : decode jm_m_Mod_init.2.1 292 = .ok (.newarray .int, 2) := by decide +kernel
theorem jd_Mod_init_294 : decode jm_m_Mod_init.2.1 294 = .ok (.putfield 115, 3) := by decide +kernel
theorem jd_Mod_init_297 : decode jm_m_Mod_init.2.1 297 = .ok (.aload_n 0, 1) := by decide +kernel
theorem jd_Mod_init_298 : decode jm_m_Mod_init.2.1 298 = .ok (.iconst 1, 1) := by decide +kernel
theorem jd_Mod_init_299 : decode jm_m_Mod_init.2.1 299 = .ok (.putfield 118, 3) := by decide +kernel
theorem jd_Mod_init_302 : decode jm_m_Mod_init.2.1 302 = .ok (.return_, 1) := by decide +kernel
theorem jd_Mod_in_0 : decode jm_m_Mod_in.2.1 0 = .ok (.lload_n 0, 1) := by decide +kernel
theorem jd_Mod_in_1 : decode jm_m_Mod_in.2.1 1 = .ok (.lload_n 2, 1) := by decide +kernel
theorem jd_Mod_in_2 : decode jm_m_Mod_in.2.1 2 = .ok (.lcmp, 1) := by decide +kernel
theorem jd_Mod_in_3 : decode jm_m_Mod_in.2.1 3 = .ok (.ifCond .lt 14, 3) := by decide +kernel
theorem jd_Mod_in_6 : decode jm_m_Mod_in.2.1 6 = .ok (.lload_n 0, 1) := by decide +kernel
theorem jd_Mod_in_7 : decode jm_m_Mod_in.2.1 7 = .ok (.lload 4, 2) := by decide +kernel
theorem jd_Mod_in_9 : decode jm_m_Mod_in.2.1 9 = .ok (.lcmp, 1) := by decide +kernel
theorem jd_Mod_in_10 : decode jm_m_Mod_in.2.1 10 = .ok (.ifCond .gt 7, 3) := by decide +kernel
theorem jd_Mod_in_13 : decode jm_m_Mod_in.2.1 13 = .ok (.iconst 1, 1) := by decide +kernel
theorem jd_Mod_in_14 : decode jm_m_Mod_in.2.1 14 = .ok (.goto 4, 3) := by decide +kernel
theorem jd_Mod_in_17 : decode jm_m_Mod_in.2.1 17 = .ok (.iconst 0, 1) := by decide +kernel
theorem jd_Mod_in_18 : decode jm_m_Mod_in.2.1 18 = .ok (.ireturn, 1) := by decide +kernel
theorem jd_Mod_say_0 : decode jm_m_Mod_say.2.1 0 = .ok (.iload_n 1, 1) := by decide +kernel
theorem jd_Mod_say_1 : decode jm_m_Mod_say.2.1 1 = .ok (.i2l, 1) := by decide +kernel
theorem jd_Mod_say_2 : decode jm_m_Mod_say.2.1 2 = .ok (.ldc2_w 122, 3) := by decide +kernel
theorem jd_Mod_say_5 : decode jm_m_Mod_say.2.1 5 = .ok (.ldc2_w 124, 3) := by decide +kernel
theorem jd_Mod_say_8 : decode jm_m_Mod_say.2.1 8 = .ok (.invokestatic 126, 3) := by decide +kernel
theorem jd_Mod_say_11 : decode jm_m_Mod_say.2.1 11 = .ok (.ifCond .ne 6, 3) := by decide +kernel
theorem jd_Mod_say_14 : decode jm_m_Mod_say.2.1 14 = .ok (.bipush (-2), 2) := by decide +kernel
theorem jd_Mod_say_16 : decode jm_m_Mod_say.2.1 16 = .ok (.ireturn, 1) := by decide +kernel
theorem jd_Mod_say_17 : decode jm_m_Mod_say.2.1 17 = .ok (.aload_n 0, 1) := by decide +kernel
theorem jd_Mod_say_18 : decode jm_m_Mod_say.2.1 18 = .ok (.getfield 130, 3) := by decide +kernel
theorem jd_Mod_say_21 : decode jm_m_Mod_say.2.1 21 = .ok (.bipush 60, 2) := by decide +kernel
theorem jd_Mod_say_23 : decode jm_m_Mod_say.2.1 23 = .ok (.if_icmp .ne 6, 3) := by decide +kernel
theorem jd_Mod_say_26 : decode jm_m_Mod_say.2.1 26 = .ok (.bipush (-4), 2) := by decide +kernel
theorem jd_Mod_say_28 : decode jm_m_Mod_say.2.1 28 = .ok (.ireturn, 1) := by decide +kernel
theorem jd_Mod_say_29 : decode jm_m_Mod_say.2.1 29 = .ok (.aload_n 0, 1) := by decide +kernel
theorem jd_Mod_say_30 : decode jm_m_Mod_say.2.1 30 = .ok (.getfield 7, 3) := by decide +kernel
theorem jd_Mod_say_33 : decode jm_m_Mod_say.2.1 33 = .ok (.aload_n 0, 1) := by decide +kernel
theorem jd_Mod_say_34 : decode jm_m_Mod_say.2.1 34 = .ok (.getfield 130, 3) := by decide +kernel
theorem jd_Mod_say_37 : decode jm_m_Mod_say.2.1 37 = .ok (.iload_n 1, 1) := by decide +kernel
theorem jd_Mod_say_38 : decode jm_m_Mod_say.2.1 38 = .ok (.iastore, 1) := by decide +kernel
theorem jd_Mod_say_39 : decode jm_m_Mod_say.2.1 39 = .ok (.aload_n 0, 1) := by decide +kernel
theorem jd_Mod_say_40 : decode jm_m_Mod_say.2.1 40 = .ok (.dup, 1) := by decide +kernel
theorem jd_Mod_say_41 : decode jm_m_Mod_say.2.1 41 = .ok (.getfield 130, 3) := by decide +kernel
theorem jd_Mod_say_44 : decode jm_m_Mod_say.2.1 44 = .ok (.iconst 1, 1) := by decide +kernel
theorem jd_Mod_say_45 : decode jm_m_Mod_say.2.1 45 = .ok (.iadd, 1) := by decide +kernel
theorem jd_Mod_say_46 : decode jm_m_Mod_say.2.1 46 = .ok (.putfield 130, 3) := by decide +kernel
theorem jd_Mod_say_49 : decode jm_m_Mod_say.2.1 49 = .ok (.aload_n 0, 1) := by decide +kernel
theorem jd_Mod_say_50 : decode jm_m_Mod_say.2.1 50 = .ok (.getfield 130, 3) := by decide +kernel
theorem jd_Mod_say_53 : decode jm_m_Mod_say.2.1 53 = .ok (.ireturn, 1) := by decide +kernel
theorem jd_Mod_wipe_0 : decode jm_m_Mod_wipe.2.1 0 = .ok (.aload_n 0, 1) := by decide +kernel
theorem jd_Mod_wipe_1 : decode jm_m_Mod_wipe.2.1 1 = .ok (.getfield 130, 3) := by decide +kernel
theorem jd_Mod_wipe_4 : decode jm_m_Mod_wipe.2.1 4 = .ok (.istore_n 1, 1) := by decide +kernel
theorem jd_Mod_wipe_5 : decode jm_m_Mod_wipe.2.1 5 = .ok (.aload_n 0, 1) := by decide +kernel
theorem jd_Mod_wipe_6 : decode jm_m_Mod_wipe.2.1 6 = .ok (.iconst 0, 1) := by decide +kernel
theorem jd_Mod_wipe_7 : decode jm_m_Mod_wipe.2.1 7 = .ok (.putfield 130, 3) := by decide +kernel
theorem jd_Mod_wipe_10 : decode jm_m_Mod_wipe.2.1 10 = .ok (.iload_n 1, 1) := by decide +kernel
theorem jd_Mod_wipe_11 : decode jm_m_Mod_wipe.2.1 11 = .ok (.ireturn, 1) := by decide +kernel
theorem jd_Mod_partsOf_0 : decode jm_m_Mod_partsOf.2.1 0 = .ok (.iload_n 0, 1) := by decide +kernel
theorem jd_Mod_partsOf_1 : decode jm_m_Mod_partsOf.2.1 1 = .ok (.bipush 43, 2) := by decide +kernel
theorem jd_Mod_partsOf_3 : decode jm_m_Mod_partsOf.2.1 3 = .ok (.if_icmp .eq 21, 3) := by decide +kernel
theorem jd_Mod_partsOf_6 : decode jm_m_Mod_partsOf.2.1 6 = .ok (.iload_n 0, 1) := by decide +kernel
theorem jd_Mod_partsOf_7 : decode jm_m_Mod_partsOf.2.1 7 = .ok (.bipush 45, 2) := by decide +kernel
theorem jd_Mod_partsOf_9 : decode jm_m_Mod_partsOf.2.1 9 = .ok (.if_icmp .eq 15, 3) := by decide +kernel
theorem jd_Mod_partsOf_12 : decode jm_m_Mod_partsOf.2.1 12 = .ok (.iload_n 0, 1) := by decide +kernel
theorem jd_Mod_partsOf_13 : decode jm_m_Mod_partsOf.2.1 13 = .ok (.bipush 42, 2) := by decide +kernel
theorem jd_Mod_partsOf_15 : decode jm_m_Mod_partsOf.2.1 15 = .ok (.if_icmp .eq 9, 3) := by decide +kernel
theorem jd_Mod_partsOf_18 : decode jm_m_Mod_partsOf.2.1 18 = .ok (.iload_n 0, 1) := by decide +kernel
theorem jd_Mod_partsOf_19 : decode jm_m_Mod_partsOf.2.1 19 = .ok (.bipush 38, 2) := by decide +kernel
theorem jd_Mod_partsOf_21 : decode jm_m_Mod_partsOf.2.1 21 = .ok (.if_icmp .ne 7, 3) := by decide +kernel
theorem jd_Mod_partsOf_24 : decode jm_m_Mod_partsOf.2.1 24 = .ok (.iconst 2, 1) := by decide +kernel
theorem jd_Mod_partsOf_25 : decode jm_m_Mod_partsOf.2.1 25 = .ok (.goto 20, 3) := by decide +kernel
theorem jd_Mod_partsOf_28 : decode jm_m_Mod_partsOf.2.1 28 = .ok (.iload_n 0, 1) := by decide +kernel
theorem jd_Mod_partsOf_29 : decode jm_m_Mod_partsOf.2.1 29 = .ok (.bipush 126, 2) := by decide +kernel
theorem jd_Mod_partsOf_31 : decode jm_m_Mod_partsOf.2.1 31 = .ok (.if_icmp .eq 9, 3) := by decide +kernel
theorem jd_Mod_partsOf_34 : decode jm_m_Mod_partsOf.2.1 34 = .ok (.iload_n 0, 1) := by decide +kernel
theorem jd_Mod_partsOf_35 : decode jm_m_Mod_partsOf.2.1 35 = .ok (.bipush 64, 2) := by decide +kernel
theorem jd_Mod_partsOf_37 : decode jm_m_Mod_partsOf.2.1 37 = .ok (.if_icmp .ne 7, 3) := by decide +kernel
theorem jd_Mod_partsOf_40 : decode jm_m_Mod_partsOf.2.1 40 = .ok (.iconst 1, 1) := by decide +kernel
theorem jd_Mod_partsOf_41 : decode jm_m_Mod_partsOf.2.1 41 = .ok (.goto 4, 3) := by decide +kernel
theorem jd_Mod_partsOf_44 : decode jm_m_Mod_partsOf.2.1 44 = .ok (.iconst 0, 1) := by decide +kernel
theorem jd_Mod_partsOf_45 : decode jm_m_Mod_partsOf.2.1 45 = .ok (.ireturn, 1) := by decide +kernel
theorem jd_Mod_isNumber_0 : decode jm_m_Mod_isNumber.2.1 0 = .ok (.iload_n 0, 1) := by decide +kernel
theorem jd_Mod_isNumber_1 : decode jm_m_Mod_isNumber.2.1 1 = .ok (.i2l, 1) := by decide +kernel
theorem jd_Mod_isNumber_2 : decode jm_m_Mod_isNumber.2.1 2 = .ok (.ldc2_w 133, 3) := by decide +kernel
theorem jd_Mod_isNumber_5 : decode jm_m_Mod_isNumber.2.1 5 = .ok (.ldc2_w 135, 3) := by decide +kernel
theorem jd_Mod_isNumber_8 : decode jm_m_Mod_isNumber.2.1 8 = .ok (.invokestatic 126, 3) := by decide +kernel
theorem jd_Mod_isNumber_11 : decode jm_m_Mod_isNumber.2.1 11 = .ok (.ireturn, 1) := by decide +kernel
theorem jd_Mod_isVariable_0 : decode jm_m_Mod_isVariable.2.1 0 = .ok (.iload_n 0, 1) := by decide +kernel
theorem jd_Mod_isVariable_1 : decode jm_m_Mod_isVariable.2.1 1 = .ok (.i2l, 1) := by decide +kernel
theorem jd_Mod_isVariable_2 : decode jm_m_Mod_isVariable.2.1 2 = .ok (.ldc2_w 137, 3) := by decide +kernel
theorem jd_Mod_isVariable_5 : decode jm_m_Mod_isVariable.2.1 5 = .ok (.ldc2_w 139, 3) := by decide +kernel
theorem jd_Mod_isVariable_8 : decode jm_m_Mod_isVariable.2.1 8 = .ok (.invokestatic 126, 3) := by decide +kernel
theorem jd_Mod_isVariable_11 : decode jm_m_Mod_isVariable.2.1 11 = .ok (.ireturn, 1) := by decide +kernel
theorem jd_Mod_isLeaf_0 : decode jm_m_Mod_isLeaf.2.1 0 = .ok (.iload_n 0, 1) := by decide +kernel
theorem jd_Mod_isLeaf_1 : decode jm_m_Mod_isLeaf.2.1 1 = .ok (.invokestatic 141, 3) := by decide +kernel
theorem jd_Mod_isLeaf_4 : decode jm_m_Mod_isLeaf.2.1 4 = .ok (.ifCond .ne 41, 3) := by decide +kernel
theorem jd_Mod_isLeaf_7 : decode jm_m_Mod_isLeaf.2.1 7 = .ok (.iload_n 1, 1) := by decide +kernel
theorem jd_Mod_isLeaf_8 : decode jm_m_Mod_isLeaf.2.1 8 = .ok (.ifCond .eq 30, 3) := by decide +kernel
theorem jd_Mod_isLeaf_11 : decode jm_m_Mod_isLeaf.2.1 11 = .ok (.iload_n 0, 1) := by decide +kernel
theorem jd_Mod_isLeaf_12 : decode jm_m_Mod_isLeaf.2.1 12 = .ok (.bipush 82, 2) := by decide +kernel
theorem jd_Mod_isLeaf_14 : decode jm_m_Mod_isLeaf.2.1 14 = .ok (.if_icmp .eq 31, 3) := by decide +kernel
theorem jd_Mod_isLeaf_17 : decode jm_m_Mod_isLeaf.2.1 17 = .ok (.iload_n 0, 1) := by decide +kernel
theorem jd_Mod_isLeaf_18 : decode jm_m_Mod_isLeaf.2.1 18 = .ok (.bipush 65, 2) := by decide +kernel
theorem jd_Mod_isLeaf_20 : decode jm_m_Mod_isLeaf.2.1 20 = .ok (.if_icmp .eq 25, 3) := by decide +kernel
theorem jd_Mod_isLeaf_23 : decode jm_m_Mod_isLeaf.2.1 23 = .ok (.iload_n 0, 1) := by decide +kernel
theorem jd_Mod_isLeaf_24 : decode jm_m_Mod_isLeaf.2.1 24 = .ok (.bipush 75, 2) := by decide +kernel
theorem jd_Mod_isLeaf_26 : decode jm_m_Mod_isLeaf.2.1 26 = .ok (.if_icmp .eq 19, 3) := by decide +kernel
theorem jd_Mod_isLeaf_29 : decode jm_m_Mod_isLeaf.2.1 29 = .ok (.iload_n 0, 1) := by decide +kernel
theorem jd_Mod_isLeaf_30 : decode jm_m_Mod_isLeaf.2.1 30 = .ok (.bipush 86, 2) := by decide +kernel
theorem jd_Mod_isLeaf_32 : decode jm_m_Mod_isLeaf.2.1 32 = .ok (.if_icmp .ne 17, 3) := by decide +kernel
theorem jd_Mod_isLeaf_35 : decode jm_m_Mod_isLeaf.2.1 35 = .ok (.goto 10, 3) := by decide +kernel
theorem jd_Mod_isLeaf_38 : decode jm_m_Mod_isLeaf.2.1 38 = .ok (.iload_n 0, 1) := by decide +kernel
theorem jd_Mod_isLeaf_39 : decode jm_m_Mod_isLeaf.2.1 39 = .ok (.invokestatic 145, 3) := by decide +kernel
theorem jd_Mod_isLeaf_42 : decode jm_m_Mod_isLeaf.2.1 42 = .ok (.ifCond .eq 7, 3) := by decide +kernel
theorem jd_Mod_isLeaf_45 : decode jm_m_Mod_isLeaf.2.1 45 = .ok (.iconst 1, 1) := by decide +kernel
theorem jd_Mod_isLeaf_46 : decode jm_m_Mod_isLeaf.2.1 46 = .ok (.goto 4, 3) := by decide +kernel
theorem jd_Mod_isLeaf_49 : decode jm_m_Mod_isLeaf.2.1 49 = .ok (.iconst 0, 1) := by decide +kernel
theorem jd_Mod_isLeaf_50 : decode jm_m_Mod_isLeaf.2.1 50 = .ok (.ireturn, 1) := by decide +kernel
theorem jd_Mod_depthOf_0 : decode jm_m_Mod_depthOf.2.1 0 = .ok (.iconst 0, 1) := by decide +kernel
theorem jd_Mod_depthOf_1 : decode jm_m_Mod_depthOf.2.1 1 = .ok (.istore_n 2, 1) := by decide +kernel
theorem jd_Mod_depthOf_2 : decode jm_m_Mod_depthOf.2.1 2 = .ok (.aload_n 0, 1) := by decide +kernel
theorem jd_Mod_depthOf_3 : decode jm_m_Mod_depthOf.2.1 3 = .ok (.getfield 22, 3) := by decide +kernel
theorem jd_Mod_depthOf_6 : decode jm_m_Mod_depthOf.2.1 6 = .ok (.iload_n 1, 1) := by decide +kernel
theorem jd_Mod_depthOf_7 : decode jm_m_Mod_depthOf.2.1 7 = .ok (.iaload, 1) := by decide +kernel
theorem jd_Mod_depthOf_8 : decode jm_m_Mod_depthOf.2.1 8 = .ok (.istore_n 3, 1) := by decide +kernel
theorem jd_Mod_depthOf_9 : decode jm_m_Mod_depthOf.2.1 9 = .ok (.iload_n 3, 1) := by decide +kernel
theorem jd_Mod_depthOf_10 : decode jm_m_Mod_depthOf.2.1 10 = .ok (.ifCond .lt 16, 3) := by decide +kernel
theorem jd_Mod_depthOf_13 : decode jm_m_Mod_depthOf.2.1 13 = .ok (.iinc 2 1, 3) := by decide +kernel
theorem jd_Mod_depthOf_16 : decode jm_m_Mod_depthOf.2.1 16 = .ok (.aload_n 0, 1) := by decide +kernel
theorem jd_Mod_depthOf_17 : decode jm_m_Mod_depthOf.2.1 17 = .ok (.getfield 22, 3) := by decide +kernel
theorem jd_Mod_depthOf_20 : decode jm_m_Mod_depthOf.2.1 20 = .ok (.iload_n 3, 1) := by decide +kernel
theorem jd_Mod_depthOf_21 : decode jm_m_Mod_depthOf.2.1 21 = .ok (.iaload, 1) := by decide +kernel
theorem jd_Mod_depthOf_22 : decode jm_m_Mod_depthOf.2.1 22 = .ok (.istore_n 3, 1) := by decide +kernel
theorem jd_Mod_depthOf_23 : decode jm_m_Mod_depthOf.2.1 23 = .ok (.goto (-14), 3) := by decide +kernel
theorem jd_Mod_depthOf_26 : decode jm_m_Mod_depthOf.2.1 26 = .ok (.iload_n 2, 1) := by decide +kernel
theorem jd_Mod_depthOf_27 : decode jm_m_Mod_depthOf.2.1 27 = .ok (.ireturn, 1) := by decide +kernel
theorem jd_Mod_walk_0 : decode jm_m_Mod_walk.2.1 0 = .ok (.aload_n 0, 1) := by decide +kernel
theorem jd_Mod_walk_1 : decode jm_m_Mod_walk.2.1 1 = .ok (.iconst 0, 1) := by decide +kernel
theorem jd_Mod_walk_2 : decode jm_m_Mod_walk.2.1 2 = .ok (.putfield 148, 3) := by decide +kernel
theorem jd_Mod_walk_5 : decode jm_m_Mod_walk.2.1 5 = .ok (.iconst (-1), 1) := by decide +kernel
theorem jd_Mod_walk_6 : decode jm_m_Mod_walk.2.1 6 = .ok (.istore_n 2, 1) := by decide +kernel
theorem jd_Mod_walk_7 : decode jm_m_Mod_walk.2.1 7 = .ok (.iconst 0, 1) := by decide +kernel
theorem jd_Mod_walk_8 : decode jm_m_Mod_walk.2.1 8 = .ok (.istore_n 3, 1) := by decide +kernel
theorem jd_Mod_walk_9 : decode jm_m_Mod_walk.2.1 9 = .ok (.iconst 0, 1) := by decide +kernel
theorem jd_Mod_walk_10 : decode jm_m_Mod_walk.2.1 10 = .ok (.istore 4, 2) := by decide +kernel
theorem jd_Mod_walk_12 : decode jm_m_Mod_walk.2.1 12 = .ok (.iload 4, 2) := by decide +kernel
theorem jd_Mod_walk_14 : decode jm_m_Mod_walk.2.1 14 = .ok (.aload_n 0, 1) := by decide +kernel
theorem jd_Mod_walk_15 : decode jm_m_Mod_walk.2.1 15 = .ok (.getfield 130, 3) := by decide +kernel
theorem jd_Mod_walk_18 : decode jm_m_Mod_walk.2.1 18 = .ok (.if_icmp .ge 146, 3) := by decide +kernel
theorem jd_Mod_walk_21 : decode jm_m_Mod_walk.2.1 21 = .ok (.aload_n 0, 1) := by decide +kernel
theorem jd_Mod_walk_22 : decode jm_m_Mod_walk.2.1 22 = .ok (.getfield 7, 3) := by decide +kernel
theorem jd_Mod_walk_25 : decode jm_m_Mod_walk.2.1 25 = .ok (.iload 4, 2) := by decide +kernel
theorem jd_Mod_walk_27 : decode jm_m_Mod_walk.2.1 27 = .ok (.iaload, 1) := by decide +kernel
theorem jd_Mod_walk_28 : decode jm_m_Mod_walk.2.1 28 = .ok (.istore 5, 2) := by decide +kernel
theorem jd_Mod_walk_30 : decode jm_m_Mod_walk.2.1 30 = .ok (.iload_n 3, 1) := by decide +kernel
theorem jd_Mod_walk_31 : decode jm_m_Mod_walk.2.1 31 = .ok (.ifCond .eq 6, 3) := by decide +kernel
theorem jd_Mod_walk_34 : decode jm_m_Mod_walk.2.1 34 = .ok (.iload 4, 2) := by decide +kernel
theorem jd_Mod_walk_36 : decode jm_m_Mod_walk.2.1 36 = .ok (.ireturn, 1) := by decide +kernel
theorem jd_Mod_walk_37 : decode jm_m_Mod_walk.2.1 37 = .ok (.aload_n 0, 1) := by decide +kernel
theorem jd_Mod_walk_38 : decode jm_m_Mod_walk.2.1 38 = .ok (.getfield 22, 3) := by decide +kernel
theorem jd_Mod_walk_41 : decode jm_m_Mod_walk.2.1 41 = .ok (.aload_n 0, 1) := by decide +kernel
theorem jd_Mod_walk_42 : decode jm_m_Mod_walk.2.1 42 = .ok (.getfield 148, 3) := by decide +kernel
theorem jd_Mod_walk_45 : decode jm_m_Mod_walk.2.1 45 = .ok (.iload_n 2, 1) := by decide +kernel
theorem jd_Mod_walk_46 : decode jm_m_Mod_walk.2.1 46 = .ok (.iastore, 1) := by decide +kernel
theorem jd_Mod_walk_47 : decode jm_m_Mod_walk.2.1 47 = .ok (.iload 5, 2) := by decide +kernel
theorem jd_Mod_walk_49 : decode jm_m_Mod_walk.2.1 49 = .ok (.invokestatic 151, 3) := by decide +kernel
theorem jd_Mod_walk_52 : decode jm_m_Mod_walk.2.1 52 = .ok (.ifCond .le 24, 3) := by decide +kernel
theorem jd_Mod_walk_55 : decode jm_m_Mod_walk.2.1 55 = .ok (.aload_n 0, 1) := by decide +kernel
theorem jd_Mod_walk_56 : decode jm_m_Mod_walk.2.1 56 = .ok (.aload_n 0, 1) := by decide +kernel
theorem jd_Mod_walk_57 : decode jm_m_Mod_walk.2.1 57 = .ok (.getfield 148, 3) := by decide +kernel
theorem jd_Mod_walk_60 : decode jm_m_Mod_walk.2.1 60 = .ok (.invokevirtual 155, 3) := by decide +kernel
theorem jd_Mod_walk_63 : decode jm_m_Mod_walk.2.1 63 = .ok (.bipush 12, 2) := by decide +kernel
theorem jd_Mod_walk_65 : decode jm_m_Mod_walk.2.1 65 = .ok (.if_icmp .ge 7, 3) := by decide +kernel
theorem jd_Mod_walk_68 : decode jm_m_Mod_walk.2.1 68 = .ok (.iconst 1, 1) := by decide +kernel
theorem jd_Mod_walk_69 : decode jm_m_Mod_walk.2.1 69 = .ok (.goto 13, 3) := by decide +kernel
theorem jd_Mod_walk_72 : decode jm_m_Mod_walk.2.1 72 = .ok (.iconst 0, 1) := by decide +kernel
theorem jd_Mod_walk_73 : decode jm_m_Mod_walk.2.1 73 = .ok (.goto 9, 3) := by decide +kernel
theorem jd_Mod_walk_76 : decode jm_m_Mod_walk.2.1 76 = .ok (.iload 5, 2) := by decide +kernel
theorem jd_Mod_walk_78 : decode jm_m_Mod_walk.2.1 78 = .ok (.iload_n 1, 1) := by decide +kernel
theorem jd_Mod_walk_79 : decode jm_m_Mod_walk.2.1 79 = .ok (.invokestatic 158, 3) := by decide +kernel
theorem jd_Mod_walk_82 : decode jm_m_Mod_walk.2.1 82 = .ok (.istore 6, 2) := by decide +kernel
theorem jd_Mod_walk_84 : decode jm_m_Mod_walk.2.1 84 = .ok (.iload 6, 2) := by decide +kernel
theorem jd_Mod_walk_86 : decode jm_m_Mod_walk.2.1 86 = .ok (.ifCond .ne 6, 3) := by decide +kernel
theorem jd_Mod_walk_89 : decode jm_m_Mod_walk.2.1 89 = .ok (.iload 4, 2) := by decide +kernel
theorem jd_Mod_walk_91 : decode jm_m_Mod_walk.2.1 91 = .ok (.ireturn, 1) := by decide +kernel
theorem jd_Mod_walk_92 : decode jm_m_Mod_walk.2.1 92 = .ok (.aload_n 0, 1) := by decide +kernel
theorem jd_Mod_walk_93 : decode jm_m_Mod_walk.2.1 93 = .ok (.getfield 19, 3) := by decide +kernel
theorem jd_Mod_walk_96 : decode jm_m_Mod_walk.2.1 96 = .ok (.aload_n 0, 1) := by decide +kernel
theorem jd_Mod_walk_97 : decode jm_m_Mod_walk.2.1 97 = .ok (.getfield 148, 3) := by decide +kernel
theorem jd_Mod_walk_100 : decode jm_m_Mod_walk.2.1 100 = .ok (.iload 5, 2) := by decide +kernel
theorem jd_Mod_walk_102 : decode jm_m_Mod_walk.2.1 102 = .ok (.iastore, 1) := by decide +kernel
theorem jd_Mod_walk_103 : decode jm_m_Mod_walk.2.1 103 = .ok (.aload_n 0, 1) := by decide +kernel
theorem jd_Mod_walk_104 : decode jm_m_Mod_walk.2.1 104 = .ok (.getfield 25, 3) := by decide +kernel
theorem jd_Mod_walk_107 : decode jm_m_Mod_walk.2.1 107 = .ok (.aload_n 0, 1) := by decide +kernel
theorem jd_Mod_walk_108 : decode jm_m_Mod_walk.2.1 108 = .ok (.getfield 148, 3) := by decide +kernel
theorem jd_Mod_walk_111 : decode jm_m_Mod_walk.2.1 111 = .ok (.iload 5, 2) := by decide +kernel
theorem jd_Mod_walk_113 : decode jm_m_Mod_walk.2.1 113 = .ok (.invokestatic 151, 3) := by decide +kernel
theorem jd_Mod_walk_116 : decode jm_m_Mod_walk.2.1 116 = .ok (.iastore, 1) := by decide +kernel
theorem jd_Mod_walk_117 : decode jm_m_Mod_walk.2.1 117 = .ok (.iload 5, 2) := by decide +kernel
theorem jd_Mod_walk_119 : decode jm_m_Mod_walk.2.1 119 = .ok (.invokestatic 151, 3) := by decide +kernel
theorem jd_Mod_walk_122 : decode jm_m_Mod_walk.2.1 122 = .ok (.ifCond .le 10, 3) := by decide +kernel
theorem jd_Mod_walk_125 : decode jm_m_Mod_walk.2.1 125 = .ok (.aload_n 0, 1) := by decide +kernel
theorem jd_Mod_walk_126 : decode jm_m_Mod_walk.2.1 126 = .ok (.getfield 148, 3) := by decide +kernel
theorem jd_Mod_walk_129 : decode jm_m_Mod_walk.2.1 129 = .ok (.goto 8, 3) := by decide +kernel
theorem jd_Mod_walk_132 : decode jm_m_Mod_walk.2.1 132 = .ok (.aload_n 0, 1) := by decide +kernel
theorem jd_Mod_walk_133 : decode jm_m_Mod_walk.2.1 133 = .ok (.iload_n 2, 1) := by decide +kernel
theorem jd_Mod_walk_134 : decode jm_m_Mod_walk.2.1 134 = .ok (.invokevirtual 162, 3) := by decide +kernel
theorem jd_Mod_walk_137 : decode jm_m_Mod_walk.2.1 137 = .ok (.istore_n 2, 1) := by decide +kernel
theorem jd_Mod_walk_138 : decode jm_m_Mod_walk.2.1 138 = .ok (.iload_n 2, 1) := by decide +kernel
theorem jd_Mod_walk_139 : decode jm_m_Mod_walk.2.1 139 = .ok (.ifCond .ge 7, 3) := by decide +kernel
theorem jd_Mod_walk_142 : decode jm_m_Mod_walk.2.1 142 = .ok (.iconst 1, 1) := by decide +kernel
theorem jd_Mod_walk_143 : decode jm_m_Mod_walk.2.1 143 = .ok (.goto 4, 3) := by decide +kernel
theorem jd_Mod_walk_146 : decode jm_m_Mod_walk.2.1 146 = .ok (.iconst 0, 1) := by decide +kernel
theorem jd_Mod_walk_147 : decode jm_m_Mod_walk.2.1 147 = .ok (.istore_n 3, 1) := by decide +kernel
theorem jd_Mod_walk_148 : decode jm_m_Mod_walk.2.1 148 = .ok (.aload_n 0, 1) := by decide +kernel
theorem jd_Mod_walk_149 : decode jm_m_Mod_walk.2.1 149 = .ok (.dup, 1) := by decide +kernel
theorem jd_Mod_walk_150 : decode jm_m_Mod_walk.2.1 150 = .ok (.getfield 148, 3) := by decide +kernel
theorem jd_Mod_walk_153 : decode jm_m_Mod_walk.2.1 153 = .ok (.iconst 1, 1) := by decide +kernel
theorem jd_Mod_walk_154 : decode jm_m_Mod_walk.2.1 154 = .ok (.iadd, 1) := by decide +kernel
theorem jd_Mod_walk_155 : decode jm_m_Mod_walk.2.1 155 = .ok (.putfield 148, 3) := by decide +kernel
theorem jd_Mod_walk_158 : decode jm_m_Mod_walk.2.1 158 = .ok (.iinc 4 1, 3) := by decide +kernel
theorem jd_Mod_walk_161 : decode jm_m_Mod_walk.2.1 161 = .ok (.goto (-149), 3) := by decide +kernel
theorem jd_Mod_walk_164 : decode jm_m_Mod_walk.2.1 164 = .ok (.iload_n 3, 1) := by decide +kernel
theorem jd_Mod_walk_165 : decode jm_m_Mod_walk.2.1 165 = .ok (.ifCond .eq 8, 3) := by decide +kernel
theorem jd_Mod_walk_168 : decode jm_m_Mod_walk.2.1 168 = .ok (.bipush (-6), 2) := by decide +kernel
theorem jd_Mod_walk_170 : decode jm_m_Mod_walk.2.1 170 = .ok (.goto 7, 3) := by decide +kernel
theorem jd_Mod_walk_173 : decode jm_m_Mod_walk.2.1 173 = .ok (.aload_n 0, 1) := by decide +kernel
theorem jd_Mod_walk_174 : decode jm_m_Mod_walk.2.1 174 = .ok (.getfield 130, 3) := by decide +kernel
theorem jd_Mod_walk_177 : decode jm_m_Mod_walk.2.1 177 = .ok (.ireturn, 1) := by decide +kernel
theorem jd_Mod_closed_0 : decode jm_m_Mod_closed.2.1 0 = .ok (.iload_n 1, 1) := by decide +kernel
theorem jd_Mod_closed_1 : decode jm_m_Mod_closed.2.1 1 = .ok (.istore_n 2, 1) := by decide +kernel
theorem jd_Mod_closed_2 : decode jm_m_Mod_closed.2.1 2 = .ok (.iload_n 2, 1) := by decide +kernel
theorem jd_Mod_closed_3 : decode jm_m_Mod_closed.2.1 3 = .ok (.ifCond .lt 34, 3) := by decide +kernel
theorem jd_Mod_closed_6 : decode jm_m_Mod_closed.2.1 6 = .ok (.aload_n 0, 1) := by decide +kernel
theorem jd_Mod_closed_7 : decode jm_m_Mod_closed.2.1 7 = .ok (.getfield 25, 3) := by decide +kernel
theorem jd_Mod_closed_10 : decode jm_m_Mod_closed.2.1 10 = .ok (.iload_n 2, 1) := by decide +kernel
theorem jd_Mod_closed_11 : decode jm_m_Mod_closed.2.1 11 = .ok (.dup2, 1) := by decide +kernel
theorem jd_Mod_closed_12 : decode jm_m_Mod_closed.2.1 12 = .ok (.iaload, 1) := by decide +kernel
theorem jd_Mod_closed_13 : decode jm_m_Mod_closed.2.1 13 = .ok (.iconst 1, 1) := by decide +kernel
theorem jd_Mod_closed_14 : decode jm_m_Mod_closed.2.1 14 = .ok (.isub, 1) := by decide +kernel
theorem jd_Mod_closed_15 : decode jm_m_Mod_closed.2.1 15 = .ok (.iastore, 1) := by decide +kernel
theorem jd_Mod_closed_16 : decode jm_m_Mod_closed.2.1 16 = .ok (.aload_n 0, 1) := by decide +kernel
theorem jd_Mod_closed_17 : decode jm_m_Mod_closed.2.1 17 = .ok (.getfield 25, 3) := by decide +kernel
theorem jd_Mod_closed_20 : decode jm_m_Mod_closed.2.1 20 = .ok (.iload_n 2, 1) := by decide +kernel
theorem jd_Mod_closed_21 : decode jm_m_Mod_closed.2.1 21 = .ok (.iaload, 1) := by decide +kernel
theorem jd_Mod_closed_22 : decode jm_m_Mod_closed.2.1 22 = .ok (.ifCond .le 5, 3) := by decide +kernel
theorem jd_Mod_closed_25 : decode jm_m_Mod_closed.2.1 25 = .ok (.iload_n 2, 1) := by decide +kernel
theorem jd_Mod_closed_26 : decode jm_m_Mod_closed.2.1 26 = .ok (.ireturn, 1) := by decide +kernel
theorem jd_Mod_closed_27 : decode jm_m_Mod_closed.2.1 27 = .ok (.aload_n 0, 1) := by decide +kernel
theorem jd_Mod_closed_28 : decode jm_m_Mod_closed.2.1 28 = .ok (.getfield 22, 3) := by decide +kernel
theorem jd_Mod_closed_31 : decode jm_m_Mod_closed.2.1 31 = .ok (.iload_n 2, 1) := by decide +kernel
theorem jd_Mod_closed_32 : decode jm_m_Mod_closed.2.1 32 = .ok (.iaload, 1) := by decide +kernel
theorem jd_Mod_closed_33 : decode jm_m_Mod_closed.2.1 33 = .ok (.istore_n 2, 1) := by decide +kernel
theorem jd_Mod_closed_34 : decode jm_m_Mod_closed.2.1 34 = .ok (.goto (-32), 3) := by decide +kernel
theorem jd_Mod_closed_37 : decode jm_m_Mod_closed.2.1 37 = .ok (.iconst (-1), 1) := by decide +kernel
theorem jd_Mod_closed_38 : decode jm_m_Mod_closed.2.1 38 = .ok (.ireturn, 1) := by decide +kernel
theorem jd_Mod_fault_0 : decode jm_m_Mod_fault.2.1 0 = .ok (.aload_n 0, 1) := by decide +kernel
theorem jd_Mod_fault_1 : decode jm_m_Mod_fault.2.1 1 = .ok (.iconst 0, 1) := by decide +kernel
