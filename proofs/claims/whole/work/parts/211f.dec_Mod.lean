theorem jd_Mod_findBest_206 : decode jm_m_Mod_findBest.2.1 206 = .ok (.iload_n 1, 1) := by decide +kernel
theorem jd_Mod_findBest_207 : decode jm_m_Mod_findBest.2.1 207 = .ok (.iaload, 1) := by decide +kernel
theorem jd_Mod_findBest_208 : decode jm_m_Mod_findBest.2.1 208 = .ok (.iastore, 1) := by decide +kernel
theorem jd_Mod_findBest_209 : decode jm_m_Mod_findBest.2.1 209 = .ok (.aload_n 0, 1) := by decide +kernel
theorem jd_Mod_findBest_210 : decode jm_m_Mod_findBest.2.1 210 = .ok (.iload_n 1, 1) := by decide +kernel
theorem jd_Mod_findBest_211 : decode jm_m_Mod_findBest.2.1 211 = .ok (.iconst 1, 1) := by decide +kernel
theorem jd_Mod_findBest_212 : decode jm_m_Mod_findBest.2.1 212 = .ok (.iadd, 1) := by decide +kernel
theorem jd_Mod_findBest_213 : decode jm_m_Mod_findBest.2.1 213 = .ok (.invokevirtual 257, 3) := by decide +kernel
theorem jd_Mod_findBest_216 : decode jm_m_Mod_findBest.2.1 216 = .ok (.aload_n 0, 1) := by decide +kernel
theorem jd_Mod_findBest_217 : decode jm_m_Mod_findBest.2.1 217 = .ok (.getfield 251, 3) := by decide +kernel
theorem jd_Mod_findBest_220 : decode jm_m_Mod_findBest.2.1 220 = .ok (.if_icmp .ge 7, 3) := by decide +kernel
theorem jd_Mod_findBest_223 : decode jm_m_Mod_findBest.2.1 223 = .ok (.iconst 1, 1) := by decide +kernel
theorem jd_Mod_findBest_224 : decode jm_m_Mod_findBest.2.1 224 = .ok (.goto 4, 3) := by decide +kernel
theorem jd_Mod_findBest_227 : decode jm_m_Mod_findBest.2.1 227 = .ok (.iconst 0, 1) := by decide +kernel
theorem jd_Mod_findBest_228 : decode jm_m_Mod_findBest.2.1 228 = .ok (.istore 5, 2) := by decide +kernel
theorem jd_Mod_findBest_230 : decode jm_m_Mod_findBest.2.1 230 = .ok (.iload 5, 2) := by decide +kernel
theorem jd_Mod_findBest_232 : decode jm_m_Mod_findBest.2.1 232 = .ok (.ifCond .eq 9, 3) := by decide +kernel
theorem jd_Mod_findBest_235 : decode jm_m_Mod_findBest.2.1 235 = .ok (.iload_n 1, 1) := by decide +kernel
theorem jd_Mod_findBest_236 : decode jm_m_Mod_findBest.2.1 236 = .ok (.iconst 1, 1) := by decide +kernel
theorem jd_Mod_findBest_237 : decode jm_m_Mod_findBest.2.1 237 = .ok (.iadd, 1) := by decide +kernel
theorem jd_Mod_findBest_238 : decode jm_m_Mod_findBest.2.1 238 = .ok (.goto 4, 3) := by decide +kernel
theorem jd_Mod_findBest_241 : decode jm_m_Mod_findBest.2.1 241 = .ok (.iload_n 1, 1) := by decide +kernel
theorem jd_Mod_findBest_242 : decode jm_m_Mod_findBest.2.1 242 = .ok (.istore_n 1, 1) := by decide +kernel
theorem jd_Mod_findBest_243 : decode jm_m_Mod_findBest.2.1 243 = .ok (.iload 5, 2) := by decide +kernel
theorem jd_Mod_findBest_245 : decode jm_m_Mod_findBest.2.1 245 = .ok (.ifCond .eq 7, 3) := by decide +kernel
theorem jd_Mod_findBest_248 : decode jm_m_Mod_findBest.2.1 248 = .ok (.iconst 0, 1) := by decide +kernel
theorem jd_Mod_findBest_249 : decode jm_m_Mod_findBest.2.1 249 = .ok (.goto 6, 3) := by decide +kernel
theorem jd_Mod_findBest_252 : decode jm_m_Mod_findBest.2.1 252 = .ok (.iload_n 3, 1) := by decide +kernel
theorem jd_Mod_findBest_253 : decode jm_m_Mod_findBest.2.1 253 = .ok (.iconst 1, 1) := by decide +kernel
theorem jd_Mod_findBest_254 : decode jm_m_Mod_findBest.2.1 254 = .ok (.iadd, 1) := by decide +kernel
theorem jd_Mod_findBest_255 : decode jm_m_Mod_findBest.2.1 255 = .ok (.istore_n 2, 1) := by decide +kernel
theorem jd_Mod_findBest_256 : decode jm_m_Mod_findBest.2.1 256 = .ok (.goto (-239), 3) := by decide +kernel
theorem jd_Mod_findBest_259 : decode jm_m_Mod_findBest.2.1 259 = .ok (.return_, 1) := by decide +kernel
theorem jd_Mod_best_0 : decode jm_m_Mod_best.2.1 0 = .ok (.aload_n 0, 1) := by decide +kernel
theorem jd_Mod_best_1 : decode jm_m_Mod_best.2.1 1 = .ok (.getfield 231, 3) := by decide +kernel
theorem jd_Mod_best_4 : decode jm_m_Mod_best.2.1 4 = .ok (.bipush 10, 2) := by decide +kernel
theorem jd_Mod_best_6 : decode jm_m_Mod_best.2.1 6 = .ok (.if_icmp .le 6, 3) := by decide +kernel
theorem jd_Mod_best_9 : decode jm_m_Mod_best.2.1 9 = .ok (.bipush (-3), 2) := by decide +kernel
theorem jd_Mod_best_11 : decode jm_m_Mod_best.2.1 11 = .ok (.ireturn, 1) := by decide +kernel
theorem jd_Mod_best_12 : decode jm_m_Mod_best.2.1 12 = .ok (.aload_n 0, 1) := by decide +kernel
theorem jd_Mod_best_13 : decode jm_m_Mod_best.2.1 13 = .ok (.invokevirtual 260, 3) := by decide +kernel
theorem jd_Mod_best_16 : decode jm_m_Mod_best.2.1 16 = .ok (.iload_n 1, 1) := by decide +kernel
theorem jd_Mod_best_17 : decode jm_m_Mod_best.2.1 17 = .ok (.iconst (-1), 1) := by decide +kernel
theorem jd_Mod_best_18 : decode jm_m_Mod_best.2.1 18 = .ok (.if_icmp .ne 10, 3) := by decide +kernel
theorem jd_Mod_best_21 : decode jm_m_Mod_best.2.1 21 = .ok (.aload_n 0, 1) := by decide +kernel
theorem jd_Mod_best_22 : decode jm_m_Mod_best.2.1 22 = .ok (.getfield 251, 3) := by decide +kernel
theorem jd_Mod_best_25 : decode jm_m_Mod_best.2.1 25 = .ok (.goto 30, 3) := by decide +kernel
theorem jd_Mod_best_28 : decode jm_m_Mod_best.2.1 28 = .ok (.iload_n 1, 1) := by decide +kernel
theorem jd_Mod_best_29 : decode jm_m_Mod_best.2.1 29 = .ok (.i2l, 1) := by decide +kernel
theorem jd_Mod_best_30 : decode jm_m_Mod_best.2.1 30 = .ok (.lconst 0, 1) := by decide +kernel
theorem jd_Mod_best_31 : decode jm_m_Mod_best.2.1 31 = .ok (.aload_n 0, 1) := by decide +kernel
theorem jd_Mod_best_32 : decode jm_m_Mod_best.2.1 32 = .ok (.getfield 231, 3) := by decide +kernel
theorem jd_Mod_best_35 : decode jm_m_Mod_best.2.1 35 = .ok (.iconst 1, 1) := by decide +kernel
theorem jd_Mod_best_36 : decode jm_m_Mod_best.2.1 36 = .ok (.isub, 1) := by decide +kernel
theorem jd_Mod_best_37 : decode jm_m_Mod_best.2.1 37 = .ok (.i2l, 1) := by decide +kernel
theorem jd_Mod_best_38 : decode jm_m_Mod_best.2.1 38 = .ok (.invokestatic 126, 3) := by decide +kernel
theorem jd_Mod_best_41 : decode jm_m_Mod_best.2.1 41 = .ok (.ifCond .eq 12, 3) := by decide +kernel
theorem jd_Mod_best_44 : decode jm_m_Mod_best.2.1 44 = .ok (.aload_n 0, 1) := by decide +kernel
theorem jd_Mod_best_45 : decode jm_m_Mod_best.2.1 45 = .ok (.getfield 94, 3) := by decide +kernel
theorem jd_Mod_best_48 : decode jm_m_Mod_best.2.1 48 = .ok (.iload_n 1, 1) := by decide +kernel
theorem jd_Mod_best_49 : decode jm_m_Mod_best.2.1 49 = .ok (.iaload, 1) := by decide +kernel
theorem jd_Mod_best_50 : decode jm_m_Mod_best.2.1 50 = .ok (.goto 5, 3) := by decide +kernel
theorem jd_Mod_best_53 : decode jm_m_Mod_best.2.1 53 = .ok (.bipush (-6), 2) := by decide +kernel
theorem jd_Mod_best_55 : decode jm_m_Mod_best.2.1 55 = .ok (.ireturn, 1) := by decide +kernel
theorem jd_Mod_lay_0 : decode jm_m_Mod_lay.2.1 0 = .ok (.aload_n 0, 1) := by decide +kernel
theorem jd_Mod_lay_1 : decode jm_m_Mod_lay.2.1 1 = .ok (.getfield 70, 3) := by decide +kernel
theorem jd_Mod_lay_4 : decode jm_m_Mod_lay.2.1 4 = .ok (.iload_n 2, 1) := by decide +kernel
theorem jd_Mod_lay_5 : decode jm_m_Mod_lay.2.1 5 = .ok (.aload_n 0, 1) := by decide +kernel
theorem jd_Mod_lay_6 : decode jm_m_Mod_lay.2.1 6 = .ok (.getfield 100, 3) := by decide +kernel
theorem jd_Mod_lay_9 : decode jm_m_Mod_lay.2.1 9 = .ok (.bipush 6, 2) := by decide +kernel
theorem jd_Mod_lay_11 : decode jm_m_Mod_lay.2.1 11 = .ok (.iload_n 1, 1) := by decide +kernel
theorem jd_Mod_lay_12 : decode jm_m_Mod_lay.2.1 12 = .ok (.imul, 1) := by decide +kernel
theorem jd_Mod_lay_13 : decode jm_m_Mod_lay.2.1 13 = .ok (.iaload, 1) := by decide +kernel
theorem jd_Mod_lay_14 : decode jm_m_Mod_lay.2.1 14 = .ok (.iastore, 1) := by decide +kernel
theorem jd_Mod_lay_15 : decode jm_m_Mod_lay.2.1 15 = .ok (.aload_n 0, 1) := by decide +kernel
theorem jd_Mod_lay_16 : decode jm_m_Mod_lay.2.1 16 = .ok (.getfield 73, 3) := by decide +kernel
theorem jd_Mod_lay_19 : decode jm_m_Mod_lay.2.1 19 = .ok (.iload_n 2, 1) := by decide +kernel
theorem jd_Mod_lay_20 : decode jm_m_Mod_lay.2.1 20 = .ok (.aload_n 0, 1) := by decide +kernel
theorem jd_Mod_lay_21 : decode jm_m_Mod_lay.2.1 21 = .ok (.getfield 100, 3) := by decide +kernel
theorem jd_Mod_lay_24 : decode jm_m_Mod_lay.2.1 24 = .ok (.bipush 6, 2) := by decide +kernel
theorem jd_Mod_lay_26 : decode jm_m_Mod_lay.2.1 26 = .ok (.iload_n 1, 1) := by decide +kernel
theorem jd_Mod_lay_27 : decode jm_m_Mod_lay.2.1 27 = .ok (.imul, 1) := by decide +kernel
theorem jd_Mod_lay_28 : decode jm_m_Mod_lay.2.1 28 = .ok (.iconst 1, 1) := by decide +kernel
theorem jd_Mod_lay_29 : decode jm_m_Mod_lay.2.1 29 = .ok (.iadd, 1) := by decide +kernel
theorem jd_Mod_lay_30 : decode jm_m_Mod_lay.2.1 30 = .ok (.iaload, 1) := by decide +kernel
theorem jd_Mod_lay_31 : decode jm_m_Mod_lay.2.1 31 = .ok (.iastore, 1) := by decide +kernel
theorem jd_Mod_lay_32 : decode jm_m_Mod_lay.2.1 32 = .ok (.aload_n 0, 1) := by decide +kernel
theorem jd_Mod_lay_33 : decode jm_m_Mod_lay.2.1 33 = .ok (.getfield 76, 3) := by decide +kernel
theorem jd_Mod_lay_36 : decode jm_m_Mod_lay.2.1 36 = .ok (.iload_n 2, 1) := by decide +kernel
theorem jd_Mod_lay_37 : decode jm_m_Mod_lay.2.1 37 = .ok (.aload_n 0, 1) := by decide +kernel
theorem jd_Mod_lay_38 : decode jm_m_Mod_lay.2.1 38 = .ok (.getfield 100, 3) := by decide +kernel
theorem jd_Mod_lay_41 : decode jm_m_Mod_lay.2.1 41 = .ok (.bipush 6, 2) := by decide +kernel
theorem jd_Mod_lay_43 : decode jm_m_Mod_lay.2.1 43 = .ok (.iload_n 1, 1) := by decide +kernel
theorem jd_Mod_lay_44 : decode jm_m_Mod_lay.2.1 44 = .ok (.imul, 1) := by decide +kernel
theorem jd_Mod_lay_45 : decode jm_m_Mod_lay.2.1 45 = .ok (.iconst 2, 1) := by decide +kernel
theorem jd_Mod_lay_46 : decode jm_m_Mod_lay.2.1 46 = .ok (.iadd, 1) := by decide +kernel
theorem jd_Mod_lay_47 : decode jm_m_Mod_lay.2.1 47 = .ok (.iaload, 1) := by decide +kernel
theorem jd_Mod_lay_48 : decode jm_m_Mod_lay.2.1 48 = .ok (.iastore, 1) := by decide +kernel
theorem jd_Mod_lay_49 : decode jm_m_Mod_lay.2.1 49 = .ok (.aload_n 0, 1) := by decide +kernel
theorem jd_Mod_lay_50 : decode jm_m_Mod_lay.2.1 50 = .ok (.getfield 79, 3) := by decide +kernel
theorem jd_Mod_lay_53 : decode jm_m_Mod_lay.2.1 53 = .ok (.iload_n 2, 1) := by decide +kernel
theorem jd_Mod_lay_54 : decode jm_m_Mod_lay.2.1 54 = .ok (.aload_n 0, 1) := by decide +kernel
theorem jd_Mod_lay_55 : decode jm_m_Mod_lay.2.1 55 = .ok (.getfield 100, 3) := by decide +kernel
theorem jd_Mod_lay_58 : decode jm_m_Mod_lay.2.1 58 = .ok (.bipush 6, 2) := by decide +kernel
theorem jd_Mod_lay_60 : decode jm_m_Mod_lay.2.1 60 = .ok (.iload_n 1, 1) := by decide +kernel
theorem jd_Mod_lay_61 : decode jm_m_Mod_lay.2.1 61 = .ok (.imul, 1) := by decide +kernel
theorem jd_Mod_lay_62 : decode jm_m_Mod_lay.2.1 62 = .ok (.iconst 3, 1) := by decide +kernel
theorem jd_Mod_lay_63 : decode jm_m_Mod_lay.2.1 63 = .ok (.iadd, 1) := by decide +kernel
theorem jd_Mod_lay_64 : decode jm_m_Mod_lay.2.1 64 = .ok (.iaload, 1) := by decide +kernel
theorem jd_Mod_lay_65 : decode jm_m_Mod_lay.2.1 65 = .ok (.iastore, 1) := by decide +kernel
theorem jd_Mod_lay_66 : decode jm_m_Mod_lay.2.1 66 = .ok (.aload_n 0, 1) := by decide +kernel
theorem jd_Mod_lay_67 : decode jm_m_Mod_lay.2.1 67 = .ok (.getfield 82, 3) := by decide +kernel
theorem jd_Mod_lay_70 : decode jm_m_Mod_lay.2.1 70 = .ok (.iload_n 2, 1) := by decide +kernel
theorem jd_Mod_lay_71 : decode jm_m_Mod_lay.2.1 71 = .ok (.aload_n 0, 1) := by decide +kernel
theorem jd_Mod_lay_72 : decode jm_m_Mod_lay.2.1 72 = .ok (.getfield 100, 3) := by decide +kernel
theorem jd_Mod_lay_75 : decode jm_m_Mod_lay.2.1 75 = .ok (.bipush 6, 2) := by decide +kernel
theorem jd_Mod_lay_77 : decode jm_m_Mod_lay.2.1 77 = .ok (.iload_n 1, 1) := by decide +kernel
theorem jd_Mod_lay_78 : decode jm_m_Mod_lay.2.1 78 = .ok (.imul, 1) := by decide +kernel
theorem jd_Mod_lay_79 : decode jm_m_Mod_lay.2.1 79 = .ok (.iconst 4, 1) := by decide +kernel
theorem jd_Mod_lay_80 : decode jm_m_Mod_lay.2.1 80 = .ok (.iadd, 1) := by decide +kernel
theorem jd_Mod_lay_81 : decode jm_m_Mod_lay.2.1 81 = .ok (.iaload, 1) := by decide +kernel
theorem jd_Mod_lay_82 : decode jm_m_Mod_lay.2.1 82 = .ok (.iastore, 1) := by decide +kernel
theorem jd_Mod_lay_83 : decode jm_m_Mod_lay.2.1 83 = .ok (.aload_n 0, 1) := by decide +kernel
theorem jd_Mod_lay_84 : decode jm_m_Mod_lay.2.1 84 = .ok (.getfield 85, 3) := by decide +kernel
theorem jd_Mod_lay_87 : decode jm_m_Mod_lay.2.1 87 = .ok (.iload_n 2, 1) := by decide +kernel
theorem jd_Mod_lay_88 : decode jm_m_Mod_lay.2.1 88 = .ok (.aload_n 0, 1) := by decide +kernel
theorem jd_Mod_lay_89 : decode jm_m_Mod_lay.2.1 89 = .ok (.getfield 100, 3) := by decide +kernel
theorem jd_Mod_lay_92 : decode jm_m_Mod_lay.2.1 92 = .ok (.bipush 6, 2) := by decide +kernel
theorem jd_Mod_lay_94 : decode jm_m_Mod_lay.2.1 94 = .ok (.iload_n 1, 1) := by decide +kernel
theorem jd_Mod_lay_95 : decode jm_m_Mod_lay.2.1 95 = .ok (.imul, 1) := by decide +kernel
theorem jd_Mod_lay_96 : decode jm_m_Mod_lay.2.1 96 = .ok (.iconst 5, 1) := by decide +kernel
theorem jd_Mod_lay_97 : decode jm_m_Mod_lay.2.1 97 = .ok (.iadd, 1) := by decide +kernel
theorem jd_Mod_lay_98 : decode jm_m_Mod_lay.2.1 98 = .ok (.iaload, 1) := by decide +kernel
theorem jd_Mod_lay_99 : decode jm_m_Mod_lay.2.1 99 = .ok (.iastore, 1) := by decide +kernel
theorem jd_Mod_lay_100 : decode jm_m_Mod_lay.2.1 100 = .ok (.return_, 1) := by decide +kernel
theorem jd_Mod_keepAside_0 : decode jm_m_Mod_keepAside.2.1 0 = .ok (.iconst 0, 1) := by decide +kernel
theorem jd_Mod_keepAside_1 : decode jm_m_Mod_keepAside.2.1 1 = .ok (.istore_n 1, 1) := by decide +kernel
theorem jd_Mod_keepAside_2 : decode jm_m_Mod_keepAside.2.1 2 = .ok (.iload_n 1, 1) := by decide +kernel
theorem jd_Mod_keepAside_3 : decode jm_m_Mod_keepAside.2.1 3 = .ok (.aload_n 0, 1) := by decide +kernel
theorem jd_Mod_keepAside_4 : decode jm_m_Mod_keepAside.2.1 4 = .ok (.getfield 231, 3) := by decide +kernel
theorem jd_Mod_keepAside_7 : decode jm_m_Mod_keepAside.2.1 7 = .ok (.if_icmp .ge 109, 3) := by decide +kernel
theorem jd_Mod_keepAside_10 : decode jm_m_Mod_keepAside.2.1 10 = .ok (.aload_n 0, 1) := by decide +kernel
theorem jd_Mod_keepAside_11 : decode jm_m_Mod_keepAside.2.1 11 = .ok (.getfield 100, 3) := by decide +kernel
theorem jd_Mod_keepAside_14 : decode jm_m_Mod_keepAside.2.1 14 = .ok (.bipush 6, 2) := by decide +kernel
theorem jd_Mod_keepAside_16 : decode jm_m_Mod_keepAside.2.1 16 = .ok (.iload_n 1, 1) := by decide +kernel
theorem jd_Mod_keepAside_17 : decode jm_m_Mod_keepAside.2.1 17 = .ok (.imul, 1) := by decide +kernel
theorem jd_Mod_keepAside_18 : decode jm_m_Mod_keepAside.2.1 18 = .ok (.aload_n 0, 1) := by decide +kernel
theorem jd_Mod_keepAside_19 : decode jm_m_Mod_keepAside.2.1 19 = .ok (.getfield 70, 3) := by decide +kernel
theorem jd_Mod_keepAside_22 : decode jm_m_Mod_keepAside.2.1 22 = .ok (.iload_n 1, 1) := by decide +kernel
theorem jd_Mod_keepAside_23 : decode jm_m_Mod_keepAside.2.1 23 = .ok (.iaload, 1) := by decide +kernel
theorem jd_Mod_keepAside_24 : decode jm_m_Mod_keepAside.2.1 24 = .ok (.iastore, 1) := by decide +kernel
theorem jd_Mod_keepAside_25 : decode jm_m_Mod_keepAside.2.1 25 = .ok (.aload_n 0, 1) := by decide +kernel
theorem jd_Mod_keepAside_26 : decode jm_m_Mod_keepAside.2.1 26 = .ok (.getfield 100, 3) := by decide +kernel
theorem jd_Mod_keepAside_29 : decode jm_m_Mod_keepAside.2.1 29 = .ok (.bipush 6, 2) := by decide +kernel
theorem jd_Mod_keepAside_31 : decode jm_m_Mod_keepAside.2.1 31 = .ok (.iload_n 1, 1) := by decide +kernel
theorem jd_Mod_keepAside_32 : decode jm_m_Mod_keepAside.2.1 32 = .ok (.imul, 1) := by decide +kernel
theorem jd_Mod_keepAside_33 : decode jm_m_Mod_keepAside.2.1 33 = .ok (.iconst 1, 1) := by decide +kernel
theorem jd_Mod_keepAside_34 : decode jm_m_Mod_keepAside.2.1 34 = .ok (.iadd, 1) := by decide +kernel
theorem jd_Mod_keepAside_35 : decode jm_m_Mod_keepAside.2.1 35 = .ok (.aload_n 0, 1) := by decide +kernel
theorem jd_Mod_keepAside_36 : decode jm_m_Mod_keepAside.2.1 36 = .ok (.getfield 73, 3) := by decide +kernel
theorem jd_Mod_keepAside_39 : decode jm_m_Mod_keepAside.2.1 39 = .ok (.iload_n 1, 1) := by decide +kernel
theorem jd_Mod_keepAside_40 : decode jm_m_Mod_keepAside.2.1 40 = .ok (.iaload, 1) := by decide +kernel
theorem jd_Mod_keepAside_41 : decode jm_m_Mod_keepAside.2.1 41 = .ok (.iastore, 1) := by decide +kernel
theorem jd_Mod_keepAside_42 : decode jm_m_Mod_keepAside.2.1 42 = .ok (.aload_n 0, 1) := by decide +kernel
theorem jd_Mod_keepAside_43 : decode jm_m_Mod_keepAside.2.1 43 = .ok (.getfield 100, 3) := by decide +kernel
theorem jd_Mod_keepAside_46 : decode jm_m_Mod_keepAside.2.1 46 = .ok (.bipush 6, 2) := by decide +kernel
theorem jd_Mod_keepAside_48 : decode jm_m_Mod_keepAside.2.1 48 = .ok (.iload_n 1, 1) := by decide +kernel
theorem jd_Mod_keepAside_49 : decode jm_m_Mod_keepAside.2.1 49 = .ok (.imul, 1) := by decide +kernel
theorem jd_Mod_keepAside_50 : decode jm_m_Mod_keepAside.2.1 50 = .ok (.iconst 2, 1) := by decide +kernel
theorem jd_Mod_keepAside_51 : decode jm_m_Mod_keepAside.2.1 51 = .ok (.iadd, 1) := by decide +kernel
theorem jd_Mod_keepAside_52 : decode jm_m_Mod_keepAside.2.1 52 = .ok (.aload_n 0, 1) := by decide +kernel
theorem jd_Mod_keepAside_53 : decode jm_m_Mod_keepAside.2.1 53 = .ok (.getfield 76, 3) := by decide +kernel
theorem jd_Mod_keepAside_56 : decode jm_m_Mod_keepAside.2.1 56 = .ok (.iload_n 1, 1) := by decide +kernel
theorem jd_Mod_keepAside_57 : decode jm_m_Mod_keepAside.2.1 57 = .ok (.iaload, 1) := by decide +kernel
theorem jd_Mod_keepAside_58 : decode jm_m_Mod_keepAside.2.1 58 = .ok (.iastore, 1) := by decide +kernel
theorem jd_Mod_keepAside_59 : decode jm_m_Mod_keepAside.2.1 59 = .ok (.aload_n 0, 1) := by decide +kernel
theorem jd_Mod_keepAside_60 : decode jm_m_Mod_keepAside.2.1 60 = .ok (.getfield 100, 3) := by decide +kernel
theorem jd_Mod_keepAside_63 : decode jm_m_Mod_keepAside.2.1 63 = .ok (.bipush 6, 2) := by decide +kernel
theorem jd_Mod_keepAside_65 : decode jm_m_Mod_keepAside.2.1 65 = .ok (.iload_n 1, 1) := by decide +kernel
theorem jd_Mod_keepAside_66 : decode jm_m_Mod_keepAside.2.1 66 = .ok (.imul, 1) := by decide +kernel
theorem jd_Mod_keepAside_67 : decode jm_m_Mod_keepAside.2.1 67 = .ok (.iconst 3, 1) := by decide +kernel
theorem jd_Mod_keepAside_68 : decode jm_m_Mod_keepAside.2.1 68 = .ok (.iadd, 1) := by decide +kernel
theorem jd_Mod_keepAside_69 : decode jm_m_Mod_keepAside.2.1 69 = .ok (.aload_n 0, 1) := by decide +kernel
theorem jd_Mod_keepAside_70 : decode jm_m_Mod_keepAside.2.1 70 = .ok (.getfield 79, 3) := by decide +kernel
theorem jd_Mod_keepAside_73 : decode jm_m_Mod_keepAside.2.1 73 = .ok (.iload_n 1, 1) := by decide +kernel
theorem jd_Mod_keepAside_74 : decode jm_m_Mod_keepAside.2.1 74 = .ok (.iaload, 1) := by decide +kernel
theorem jd_Mod_keepAside_75 : decode jm_m_Mod_keepAside.2.1 75 = .ok (.iastore, 1) := by decide +kernel
theorem jd_Mod_keepAside_76 : decode jm_m_Mod_keepAside.2.1 76 = .ok (.aload_n 0, 1) := by decide +kernel
theorem jd_Mod_keepAside_77 : decode jm_m_Mod_keepAside.2.1 77 = .ok (.getfield 100, 3) := by decide +kernel
theorem jd_Mod_keepAside_80 : decode jm_m_Mod_keepAside.2.1 80 = .ok (.bipush 6, 2) := by decide +kernel
theorem jd_Mod_keepAside_82 : decode jm_m_Mod_keepAside.2.1 82 = .ok (.iload_n 1, 1) := by decide +kernel
theorem jd_Mod_keepAside_83 : decode jm_m_Mod_keepAside.2.1 83 = .ok (.imul, 1) := by decide +kernel
theorem jd_Mod_keepAside_84 : decode jm_m_Mod_keepAside.2.1 84 = .ok (.iconst 4, 1) := by decide +kernel
theorem jd_Mod_keepAside_85 : decode jm_m_Mod_keepAside.2.1 85 = .ok (.iadd, 1) := by decide +kernel
theorem jd_Mod_keepAside_86 : decode jm_m_Mod_keepAside.2.1 86 = .ok (.aload_n 0, 1) := by decide +kernel
theorem jd_Mod_keepAside_87 : decode jm_m_Mod_keepAside.2.1 87 = .ok (.getfield 82, 3) := by decide +kernel
theorem jd_Mod_keepAside_90 : decode jm_m_Mod_keepAside.2.1 90 = .ok (.iload_n 1, 1) := by decide +kernel
theorem jd_Mod_keepAside_91 : decode jm_m_Mod_keepAside.2.1 91 = .ok (.iaload, 1) := by decide +kernel
theorem jd_Mod_keepAside_92 : decode jm_m_Mod_keepAside.2.1 92 = .ok (.iastore, 1) := by decide +kernel
theorem jd_Mod_keepAside_93 : decode jm_m_Mod_keepAside.2.1 93 = .ok (.aload_n 0, 1) := by decide +kernel
theorem jd_Mod_keepAside_94 : decode jm_m_Mod_keepAside.2.1 94 = .ok (.getfield 100, 3) := by decide +kernel
theorem jd_Mod_keepAside_97 : decode jm_m_Mod_keepAside.2.1 97 = .ok (.bipush 6, 2) := by decide +kernel
theorem jd_Mod_keepAside_99 : decode jm_m_Mod_keepAside.2.1 99 = .ok (.iload_n 1, 1) := by decide +kernel
theorem jd_Mod_keepAside_100 : decode jm_m_Mod_keepAside.2.1 100 = .ok (.imul, 1) := by decide +kernel
theorem jd_Mod_keepAside_101 : decode jm_m_Mod_keepAside.2.1 101 = .ok (.iconst 5, 1) := by decide +kernel
theorem jd_Mod_keepAside_102 : decode jm_m_Mod_keepAside.2.1 102 = .ok (.iadd, 1) := by decide +kernel
theorem jd_Mod_keepAside_103 : decode jm_m_Mod_keepAside.2.1 103 = .ok (.aload_n 0, 1) := by decide +kernel
theorem jd_Mod_keepAside_104 : decode jm_m_Mod_keepAside.2.1 104 = .ok (.getfield 85, 3) := by decide +kernel
theorem jd_Mod_keepAside_107 : decode jm_m_Mod_keepAside.2.1 107 = .ok (.iload_n 1, 1) := by decide +kernel
theorem jd_Mod_keepAside_108 : decode jm_m_Mod_keepAside.2.1 108 = .ok (.iaload, 1) := by decide +kernel
theorem jd_Mod_keepAside_109 : decode jm_m_Mod_keepAside.2.1 109 = .ok (.iastore, 1) := by decide +kernel
theorem jd_Mod_keepAside_110 : decode jm_m_Mod_keepAside.2.1 110 = .ok (.iinc 1 1, 3) := by decide +kernel
theorem jd_Mod_keepAside_113 : decode jm_m_Mod_keepAside.2.1 113 = .ok (.goto (-111), 3) := by decide +kernel
theorem jd_Mod_keepAside_116 : decode jm_m_Mod_keepAside.2.1 116 = .ok (.return_, 1) := by decide +kernel
theorem jd_Mod_sort_0 : decode jm_m_Mod_sort.2.1 0 = .ok (.aload_n 0, 1) := by decide +kernel
theorem jd_Mod_sort_1 : decode jm_m_Mod_sort.2.1 1 = .ok (.getfield 231, 3) := by decide +kernel
theorem jd_Mod_sort_4 : decode jm_m_Mod_sort.2.1 4 = .ok (.bipush 10, 2) := by decide +kernel
theorem jd_Mod_sort_6 : decode jm_m_Mod_sort.2.1 6 = .ok (.if_icmp .le 6, 3) := by decide +kernel
theorem jd_Mod_sort_9 : decode jm_m_Mod_sort.2.1 9 = .ok (.bipush (-3), 2) := by decide +kernel
theorem jd_Mod_sort_11 : decode jm_m_Mod_sort.2.1 11 = .ok (.ireturn, 1) := by decide +kernel
theorem jd_Mod_sort_12 : decode jm_m_Mod_sort.2.1 12 = .ok (.aload_n 0, 1) := by decide +kernel
theorem jd_Mod_sort_13 : decode jm_m_Mod_sort.2.1 13 = .ok (.invokevirtual 260, 3) := by decide +kernel
theorem jd_Mod_sort_16 : decode jm_m_Mod_sort.2.1 16 = .ok (.aload_n 0, 1) := by decide +kernel
theorem jd_Mod_sort_17 : decode jm_m_Mod_sort.2.1 17 = .ok (.invokevirtual 263, 3) := by decide +kernel
theorem jd_Mod_sort_20 : decode jm_m_Mod_sort.2.1 20 = .ok (.iconst 0, 1) := by decide +kernel
theorem jd_Mod_sort_21 : decode jm_m_Mod_sort.2.1 21 = .ok (.istore_n 1, 1) := by decide +kernel
theorem jd_Mod_sort_22 : decode jm_m_Mod_sort.2.1 22 = .ok (.iload_n 1, 1) := by decide +kernel
theorem jd_Mod_sort_23 : decode jm_m_Mod_sort.2.1 23 = .ok (.aload_n 0, 1) := by decide +kernel
theorem jd_Mod_sort_24 : decode jm_m_Mod_sort.2.1 24 = .ok (.getfield 231, 3) := by decide +kernel
theorem jd_Mod_sort_27 : decode jm_m_Mod_sort.2.1 27 = .ok (.if_icmp .ge 20, 3) := by decide +kernel
theorem jd_Mod_sort_30 : decode jm_m_Mod_sort.2.1 30 = .ok (.aload_n 0, 1) := by decide +kernel
theorem jd_Mod_sort_31 : decode jm_m_Mod_sort.2.1 31 = .ok (.aload_n 0, 1) := by decide +kernel
theorem jd_Mod_sort_32 : decode jm_m_Mod_sort.2.1 32 = .ok (.getfield 94, 3) := by decide +kernel
theorem jd_Mod_sort_35 : decode jm_m_Mod_sort.2.1 35 = .ok (.iload_n 1, 1) := by decide +kernel
theorem jd_Mod_sort_36 : decode jm_m_Mod_sort.2.1 36 = .ok (.iaload, 1) := by decide +kernel
theorem jd_Mod_sort_37 : decode jm_m_Mod_sort.2.1 37 = .ok (.iload_n 1, 1) := by decide +kernel
theorem jd_Mod_sort_38 : decode jm_m_Mod_sort.2.1 38 = .ok (.invokevirtual 266, 3) := by decide +kernel
theorem jd_Mod_sort_41 : decode jm_m_Mod_sort.2.1 41 = .ok (.iinc 1 1, 3) := by decide +kernel
theorem jd_Mod_sort_44 : decode jm_m_Mod_sort.2.1 44 = .ok (.goto (-22), 3) := by decide +kernel
theorem jd_Mod_sort_47 : decode jm_m_Mod_sort.2.1 47 = .ok (.aload_n 0, 1) := by decide +kernel
theorem jd_Mod_sort_48 : decode jm_m_Mod_sort.2.1 48 = .ok (.getfield 251, 3) := by decide +kernel
theorem jd_Mod_sort_51 : decode jm_m_Mod_sort.2.1 51 = .ok (.ireturn, 1) := by decide +kernel
theorem jd_Mod_keep_0 : decode jm_m_Mod_keep.2.1 0 = .ok (.iload_n 1, 1) := by decide +kernel
theorem jd_Mod_keep_1 : decode jm_m_Mod_keep.2.1 1 = .ok (.i2l, 1) := by decide +kernel
theorem jd_Mod_keep_2 : decode jm_m_Mod_keep.2.1 2 = .ok (.lconst 0, 1) := by decide +kernel
theorem jd_Mod_keep_3 : decode jm_m_Mod_keep.2.1 3 = .ok (.ldc2_w 269, 3) := by decide +kernel
theorem jd_Mod_keep_6 : decode jm_m_Mod_keep.2.1 6 = .ok (.invokestatic 126, 3) := by decide +kernel
theorem jd_Mod_keep_9 : decode jm_m_Mod_keep.2.1 9 = .ok (.ifCond .ne 6, 3) := by decide +kernel
theorem jd_Mod_keep_12 : decode jm_m_Mod_keep.2.1 12 = .ok (.bipush (-2), 2) := by decide +kernel
theorem jd_Mod_keep_14 : decode jm_m_Mod_keep.2.1 14 = .ok (.ireturn, 1) := by decide +kernel
theorem jd_Mod_keep_15 : decode jm_m_Mod_keep.2.1 15 = .ok (.aload_n 0, 1) := by decide +kernel
theorem jd_Mod_keep_16 : decode jm_m_Mod_keep.2.1 16 = .ok (.getfield 118, 3) := by decide +kernel
theorem jd_Mod_keep_19 : decode jm_m_Mod_keep.2.1 19 = .ok (.istore_n 2, 1) := by decide +kernel
theorem jd_Mod_keep_20 : decode jm_m_Mod_keep.2.1 20 = .ok (.aload_n 0, 1) := by decide +kernel
theorem jd_Mod_keep_21 : decode jm_m_Mod_keep.2.1 21 = .ok (.iload_n 1, 1) := by decide +kernel
theorem jd_Mod_keep_22 : decode jm_m_Mod_keep.2.1 22 = .ok (.putfield 118, 3) := by decide +kernel
theorem jd_Mod_keep_25 : decode jm_m_Mod_keep.2.1 25 = .ok (.iload_n 2, 1) := by decide +kernel
theorem jd_Mod_keep_26 : decode jm_m_Mod_keep.2.1 26 = .ok (.ireturn, 1) := by decide +kernel
theorem jd_Mod_weigh_0 : decode jm_m_Mod_weigh.2.1 0 = .ok (.aload_n 0, 1) := by decide +kernel
theorem jd_Mod_weigh_1 : decode jm_m_Mod_weigh.2.1 1 = .ok (.iload_n 1, 1) := by decide +kernel
theorem jd_Mod_weigh_2 : decode jm_m_Mod_weigh.2.1 2 = .ok (.invokevirtual 241, 3) := by decide +kernel
theorem jd_Mod_weigh_5 : decode jm_m_Mod_weigh.2.1 5 = .ok (.ifCond .ne 5, 3) := by decide +kernel
theorem jd_Mod_weigh_8 : decode jm_m_Mod_weigh.2.1 8 = .ok (.iconst (-1), 1) := by decide +kernel
theorem jd_Mod_weigh_9 : decode jm_m_Mod_weigh.2.1 9 = .ok (.ireturn, 1) := by decide +kernel
theorem jd_Mod_weigh_10 : decode jm_m_Mod_weigh.2.1 10 = .ok (.iload_n 2, 1) := by decide +kernel
theorem jd_Mod_weigh_11 : decode jm_m_Mod_weigh.2.1 11 = .ok (.i2l, 1) := by decide +kernel
theorem jd_Mod_weigh_12 : decode jm_m_Mod_weigh.2.1 12 = .ok (.lconst 1, 1) := by decide +kernel
theorem jd_Mod_weigh_13 : decode jm_m_Mod_weigh.2.1 13 = .ok (.ldc2_w 271, 3) := by decide +kernel
theorem jd_Mod_weigh_16 : decode jm_m_Mod_weigh.2.1 16 = .ok (.invokestatic 126, 3) := by decide +kernel
theorem jd_Mod_weigh_19 : decode jm_m_Mod_weigh.2.1 19 = .ok (.ifCond .ne 6, 3) := by decide +kernel
theorem jd_Mod_weigh_22 : decode jm_m_Mod_weigh.2.1 22 = .ok (.bipush (-2), 2) := by decide +kernel
theorem jd_Mod_weigh_24 : decode jm_m_Mod_weigh.2.1 24 = .ok (.ireturn, 1) := by decide +kernel
theorem jd_Mod_weigh_25 : decode jm_m_Mod_weigh.2.1 25 = .ok (.aload_n 0, 1) := by decide +kernel
theorem jd_Mod_weigh_26 : decode jm_m_Mod_weigh.2.1 26 = .ok (.getfield 85, 3) := by decide +kernel
theorem jd_Mod_weigh_29 : decode jm_m_Mod_weigh.2.1 29 = .ok (.iload_n 1, 1) := by decide +kernel
theorem jd_Mod_weigh_30 : decode jm_m_Mod_weigh.2.1 30 = .ok (.iaload, 1) := by decide +kernel
theorem jd_Mod_weigh_31 : decode jm_m_Mod_weigh.2.1 31 = .ok (.istore_n 3, 1) := by decide +kernel
theorem jd_Mod_weigh_32 : decode jm_m_Mod_weigh.2.1 32 = .ok (.aload_n 0, 1) := by decide +kernel
theorem jd_Mod_weigh_33 : decode jm_m_Mod_weigh.2.1 33 = .ok (.getfield 85, 3) := by decide +kernel
theorem jd_Mod_weigh_36 : decode jm_m_Mod_weigh.2.1 36 = .ok (.iload_n 1, 1) := by decide +kernel
theorem jd_Mod_weigh_37 : decode jm_m_Mod_weigh.2.1 37 = .ok (.iload_n 2, 1) := by decide +kernel
theorem jd_Mod_weigh_38 : decode jm_m_Mod_weigh.2.1 38 = .ok (.iastore, 1) := by decide +kernel
theorem jd_Mod_weigh_39 : decode jm_m_Mod_weigh.2.1 39 = .ok (.iload_n 3, 1) := by decide +kernel
theorem jd_Mod_weigh_40 : decode jm_m_Mod_weigh.2.1 40 = .ok (.ireturn, 1) := by decide +kernel
theorem jd_Mod_livesTo_0 : decode jm_m_Mod_livesTo.2.1 0 = .ok (.iload_n 1, 1) := by decide +kernel
theorem jd_Mod_livesTo_1 : decode jm_m_Mod_livesTo.2.1 1 = .ok (.istore_n 2, 1) := by decide +kernel
theorem jd_Mod_livesTo_2 : decode jm_m_Mod_livesTo.2.1 2 = .ok (.iload_n 1, 1) := by decide +kernel
theorem jd_Mod_livesTo_3 : decode jm_m_Mod_livesTo.2.1 3 = .ok (.iconst 1, 1) := by decide +kernel
theorem jd_Mod_livesTo_4 : decode jm_m_Mod_livesTo.2.1 4 = .ok (.iadd, 1) := by decide +kernel
theorem jd_Mod_livesTo_5 : decode jm_m_Mod_livesTo.2.1 5 = .ok (.istore_n 3, 1) := by decide +kernel
theorem jd_Mod_livesTo_6 : decode jm_m_Mod_livesTo.2.1 6 = .ok (.iload_n 3, 1) := by decide +kernel
theorem jd_Mod_livesTo_7 : decode jm_m_Mod_livesTo.2.1 7 = .ok (.aload_n 0, 1) := by decide +kernel
theorem jd_Mod_livesTo_8 : decode jm_m_Mod_livesTo.2.1 8 = .ok (.getfield 231, 3) := by decide +kernel
theorem jd_Mod_livesTo_11 : decode jm_m_Mod_livesTo.2.1 11 = .ok (.if_icmp .ge 46, 3) := by decide +kernel
theorem jd_Mod_livesTo_14 : decode jm_m_Mod_livesTo.2.1 14 = .ok (.aload_n 0, 1) := by decide +kernel
theorem jd_Mod_livesTo_15 : decode jm_m_Mod_livesTo.2.1 15 = .ok (.iload_n 3, 1) := by decide +kernel
theorem jd_Mod_livesTo_16 : decode jm_m_Mod_livesTo.2.1 16 = .ok (.aload_n 0, 1) := by decide +kernel
theorem jd_Mod_livesTo_17 : decode jm_m_Mod_livesTo.2.1 17 = .ok (.getfield 73, 3) := by decide +kernel
theorem jd_Mod_livesTo_20 : decode jm_m_Mod_livesTo.2.1 20 = .ok (.iload_n 1, 1) := by decide +kernel
theorem jd_Mod_livesTo_21 : decode jm_m_Mod_livesTo.2.1 21 = .ok (.iaload, 1) := by decide +kernel
theorem jd_Mod_livesTo_22 : decode jm_m_Mod_livesTo.2.1 22 = .ok (.invokevirtual 234, 3) := by decide +kernel
theorem jd_Mod_livesTo_25 : decode jm_m_Mod_livesTo.2.1 25 = .ok (.ifCond .eq 7, 3) := by decide +kernel
theorem jd_Mod_livesTo_28 : decode jm_m_Mod_livesTo.2.1 28 = .ok (.iload_n 3, 1) := by decide +kernel
theorem jd_Mod_livesTo_29 : decode jm_m_Mod_livesTo.2.1 29 = .ok (.goto 4, 3) := by decide +kernel
theorem jd_Mod_livesTo_32 : decode jm_m_Mod_livesTo.2.1 32 = .ok (.iload_n 2, 1) := by decide +kernel
theorem jd_Mod_livesTo_33 : decode jm_m_Mod_livesTo.2.1 33 = .ok (.istore_n 2, 1) := by decide +kernel
theorem jd_Mod_livesTo_34 : decode jm_m_Mod_livesTo.2.1 34 = .ok (.aload_n 0, 1) := by decide +kernel
theorem jd_Mod_livesTo_35 : decode jm_m_Mod_livesTo.2.1 35 = .ok (.getfield 73, 3) := by decide +kernel
theorem jd_Mod_livesTo_38 : decode jm_m_Mod_livesTo.2.1 38 = .ok (.iload_n 3, 1) := by decide +kernel
theorem jd_Mod_livesTo_39 : decode jm_m_Mod_livesTo.2.1 39 = .ok (.iaload, 1) := by decide +kernel
theorem jd_Mod_livesTo_40 : decode jm_m_Mod_livesTo.2.1 40 = .ok (.aload_n 0, 1) := by decide +kernel
theorem jd_Mod_livesTo_41 : decode jm_m_Mod_livesTo.2.1 41 = .ok (.getfield 73, 3) := by decide +kernel
theorem jd_Mod_livesTo_44 : decode jm_m_Mod_livesTo.2.1 44 = .ok (.iload_n 1, 1) := by decide +kernel
theorem jd_Mod_livesTo_45 : decode jm_m_Mod_livesTo.2.1 45 = .ok (.iaload, 1) := by decide +kernel
theorem jd_Mod_livesTo_46 : decode jm_m_Mod_livesTo.2.1 46 = .ok (.if_icmp .ne 5, 3) := by decide +kernel
theorem jd_Mod_livesTo_49 : decode jm_m_Mod_livesTo.2.1 49 = .ok (.iload_n 2, 1) := by decide +kernel
theorem jd_Mod_livesTo_50 : decode jm_m_Mod_livesTo.2.1 50 = .ok (.ireturn, 1) := by decide +kernel
theorem jd_Mod_livesTo_51 : decode jm_m_Mod_livesTo.2.1 51 = .ok (.iinc 3 1, 3) := by decide +kernel
theorem jd_Mod_livesTo_54 : decode jm_m_Mod_livesTo.2.1 54 = .ok (.goto (-48), 3) := by decide +kernel
theorem jd_Mod_livesTo_57 : decode jm_m_Mod_livesTo.2.1 57 = .ok (.aload_n 0, 1) := by decide +kernel
theorem jd_Mod_livesTo_58 : decode jm_m_Mod_livesTo.2.1 58 = .ok (.getfield 118, 3) := by decide +kernel
theorem jd_Mod_livesTo_61 : decode jm_m_Mod_livesTo.2.1 61 = .ok (.aload_n 0, 1) := by decide +kernel
theorem jd_Mod_livesTo_62 : decode jm_m_Mod_livesTo.2.1 62 = .ok (.getfield 73, 3) := by decide +kernel
theorem jd_Mod_livesTo_65 : decode jm_m_Mod_livesTo.2.1 65 = .ok (.iload_n 1, 1) := by decide +kernel
theorem jd_Mod_livesTo_66 : decode jm_m_Mod_livesTo.2.1 66 = .ok (.iaload, 1) := by decide +kernel
theorem jd_Mod_livesTo_67 : decode jm_m_Mod_livesTo.2.1 67 = .ok (.ishr, 1) := by decide +kernel
theorem jd_Mod_livesTo_68 : decode jm_m_Mod_livesTo.2.1 68 = .ok (.iconst 1, 1) := by decide +kernel
theorem jd_Mod_livesTo_69 : decode jm_m_Mod_livesTo.2.1 69 = .ok (.iand, 1) := by decide +kernel
theorem jd_Mod_livesTo_70 : decode jm_m_Mod_livesTo.2.1 70 = .ok (.iconst 1, 1) := by decide +kernel
theorem jd_Mod_livesTo_71 : decode jm_m_Mod_livesTo.2.1 71 = .ok (.if_icmp .ne 10, 3) := by decide +kernel
theorem jd_Mod_livesTo_74 : decode jm_m_Mod_livesTo.2.1 74 = .ok (.aload_n 0, 1) := by decide +kernel
theorem jd_Mod_livesTo_75 : decode jm_m_Mod_livesTo.2.1 75 = .ok (.getfield 231, 3) := by decide +kernel
theorem jd_Mod_livesTo_78 : decode jm_m_Mod_livesTo.2.1 78 = .ok (.goto 4, 3) := by decide +kernel
theorem jd_Mod_livesTo_81 : decode jm_m_Mod_livesTo.2.1 81 = .ok (.iload_n 2, 1) := by decide +kernel
theorem jd_Mod_livesTo_82 : decode jm_m_Mod_livesTo.2.1 82 = .ok (.ireturn, 1) := by decide +kernel
theorem jd_Mod_lives_0 : decode jm_m_Mod_lives.2.1 0 = .ok (.aload_n 0, 1) := by decide +kernel
theorem jd_Mod_lives_1 : decode jm_m_Mod_lives.2.1 1 = .ok (.iload_n 1, 1) := by decide +kernel
theorem jd_Mod_lives_2 : decode jm_m_Mod_lives.2.1 2 = .ok (.invokevirtual 241, 3) := by decide +kernel
theorem jd_Mod_lives_5 : decode jm_m_Mod_lives.2.1 5 = .ok (.ifCond .eq 13, 3) := by decide +kernel
theorem jd_Mod_lives_8 : decode jm_m_Mod_lives.2.1 8 = .ok (.aload_n 0, 1) := by decide +kernel
theorem jd_Mod_lives_9 : decode jm_m_Mod_lives.2.1 9 = .ok (.iload_n 1, 1) := by decide +kernel
theorem jd_Mod_lives_10 : decode jm_m_Mod_lives.2.1 10 = .ok (.invokevirtual 273, 3) := by decide +kernel
theorem jd_Mod_lives_13 : decode jm_m_Mod_lives.2.1 13 = .ok (.iload_n 1, 1) := by decide +kernel
theorem jd_Mod_lives_14 : decode jm_m_Mod_lives.2.1 14 = .ok (.isub, 1) := by decide +kernel
theorem jd_Mod_lives_15 : decode jm_m_Mod_lives.2.1 15 = .ok (.goto 4, 3) := by decide +kernel
theorem jd_Mod_lives_18 : decode jm_m_Mod_lives.2.1 18 = .ok (.iconst (-1), 1) := by decide +kernel
theorem jd_Mod_lives_19 : decode jm_m_Mod_lives.2.1 19 = .ok (.ireturn, 1) := by decide +kernel
theorem jd_Mod_placeOf_0 : decode jm_m_Mod_placeOf.2.1 0 = .ok (.iconst 0, 1) := by decide +kernel
theorem jd_Mod_placeOf_1 : decode jm_m_Mod_placeOf.2.1 1 = .ok (.istore_n 2, 1) := by decide +kernel
theorem jd_Mod_placeOf_2 : decode jm_m_Mod_placeOf.2.1 2 = .ok (.iconst 0, 1) := by decide +kernel
theorem jd_Mod_placeOf_3 : decode jm_m_Mod_placeOf.2.1 3 = .ok (.istore_n 3, 1) := by decide +kernel
theorem jd_Mod_placeOf_4 : decode jm_m_Mod_placeOf.2.1 4 = .ok (.iload_n 3, 1) := by decide +kernel
theorem jd_Mod_placeOf_5 : decode jm_m_Mod_placeOf.2.1 5 = .ok (.iload_n 1, 1) := by decide +kernel
theorem jd_Mod_placeOf_6 : decode jm_m_Mod_placeOf.2.1 6 = .ok (.if_icmp .gt 28, 3) := by decide +kernel
theorem jd_Mod_placeOf_9 : decode jm_m_Mod_placeOf.2.1 9 = .ok (.iload_n 2, 1) := by decide +kernel
theorem jd_Mod_placeOf_10 : decode jm_m_Mod_placeOf.2.1 10 = .ok (.aload_n 0, 1) := by decide +kernel
theorem jd_Mod_placeOf_11 : decode jm_m_Mod_placeOf.2.1 11 = .ok (.iload_n 3, 1) := by decide +kernel
theorem jd_Mod_placeOf_12 : decode jm_m_Mod_placeOf.2.1 12 = .ok (.invokevirtual 273, 3) := by decide +kernel
theorem jd_Mod_placeOf_15 : decode jm_m_Mod_placeOf.2.1 15 = .ok (.iload_n 1, 1) := by decide +kernel
theorem jd_Mod_placeOf_16 : decode jm_m_Mod_placeOf.2.1 16 = .ok (.if_icmp .le 9, 3) := by decide +kernel
theorem jd_Mod_placeOf_19 : decode jm_m_Mod_placeOf.2.1 19 = .ok (.iconst 1, 1) := by decide +kernel
theorem jd_Mod_placeOf_20 : decode jm_m_Mod_placeOf.2.1 20 = .ok (.iload_n 3, 1) := by decide +kernel
theorem jd_Mod_placeOf_21 : decode jm_m_Mod_placeOf.2.1 21 = .ok (.ishl, 1) := by decide +kernel
theorem jd_Mod_placeOf_22 : decode jm_m_Mod_placeOf.2.1 22 = .ok (.goto 4, 3) := by decide +kernel
theorem jd_Mod_placeOf_25 : decode jm_m_Mod_placeOf.2.1 25 = .ok (.iconst 0, 1) := by decide +kernel
theorem jd_Mod_placeOf_26 : decode jm_m_Mod_placeOf.2.1 26 = .ok (.ior, 1) := by decide +kernel
theorem jd_Mod_placeOf_27 : decode jm_m_Mod_placeOf.2.1 27 = .ok (.istore_n 2, 1) := by decide +kernel
theorem jd_Mod_placeOf_28 : decode jm_m_Mod_placeOf.2.1 28 = .ok (.iinc 3 1, 3) := by decide +kernel
theorem jd_Mod_placeOf_31 : decode jm_m_Mod_placeOf.2.1 31 = .ok (.goto (-27), 3) := by decide +kernel
theorem jd_Mod_placeOf_34 : decode jm_m_Mod_placeOf.2.1 34 = .ok (.iload_n 2, 1) := by decide +kernel
theorem jd_Mod_placeOf_35 : decode jm_m_Mod_placeOf.2.1 35 = .ok (.ireturn, 1) := by decide +kernel
theorem jd_Mod_place_0 : decode jm_m_Mod_place.2.1 0 = .ok (.aload_n 0, 1) := by decide +kernel
theorem jd_Mod_place_1 : decode jm_m_Mod_place.2.1 1 = .ok (.iload_n 1, 1) := by decide +kernel
theorem jd_Mod_place_2 : decode jm_m_Mod_place.2.1 2 = .ok (.invokevirtual 241, 3) := by decide +kernel
theorem jd_Mod_place_5 : decode jm_m_Mod_place.2.1 5 = .ok (.ifCond .eq 11, 3) := by decide +kernel
theorem jd_Mod_place_8 : decode jm_m_Mod_place.2.1 8 = .ok (.aload_n 0, 1) := by decide +kernel
theorem jd_Mod_place_9 : decode jm_m_Mod_place.2.1 9 = .ok (.iload_n 1, 1) := by decide +kernel
theorem jd_Mod_place_10 : decode jm_m_Mod_place.2.1 10 = .ok (.invokevirtual 276, 3) := by decide +kernel
theorem jd_Mod_place_13 : decode jm_m_Mod_place.2.1 13 = .ok (.goto 4, 3) := by decide +kernel
theorem jd_Mod_place_16 : decode jm_m_Mod_place.2.1 16 = .ok (.iconst (-1), 1) := by decide +kernel
theorem jd_Mod_place_17 : decode jm_m_Mod_place.2.1 17 = .ok (.ireturn, 1) := by decide +kernel
theorem jd_Mod_count_0 : decode jm_m_Mod_count.2.1 0 = .ok (.iconst 0, 1) := by decide +kernel
theorem jd_Mod_count_1 : decode jm_m_Mod_count.2.1 1 = .ok (.istore_n 1, 1) := by decide +kernel
theorem jd_Mod_count_2 : decode jm_m_Mod_count.2.1 2 = .ok (.iconst 0, 1) := by decide +kernel
theorem jd_Mod_count_3 : decode jm_m_Mod_count.2.1 3 = .ok (.istore_n 2, 1) := by decide +kernel
theorem jd_Mod_count_4 : decode jm_m_Mod_count.2.1 4 = .ok (.iload_n 2, 1) := by decide +kernel
theorem jd_Mod_count_5 : decode jm_m_Mod_count.2.1 5 = .ok (.bipush 12, 2) := by decide +kernel
theorem jd_Mod_count_7 : decode jm_m_Mod_count.2.1 7 = .ok (.if_icmp .ge 17, 3) := by decide +kernel
theorem jd_Mod_count_10 : decode jm_m_Mod_count.2.1 10 = .ok (.iload_n 1, 1) := by decide +kernel
theorem jd_Mod_count_11 : decode jm_m_Mod_count.2.1 11 = .ok (.iload_n 0, 1) := by decide +kernel
theorem jd_Mod_count_12 : decode jm_m_Mod_count.2.1 12 = .ok (.iload_n 2, 1) := by decide +kernel
theorem jd_Mod_count_13 : decode jm_m_Mod_count.2.1 13 = .ok (.ishr, 1) := by decide +kernel
theorem jd_Mod_count_14 : decode jm_m_Mod_count.2.1 14 = .ok (.iconst 1, 1) := by decide +kernel
theorem jd_Mod_count_15 : decode jm_m_Mod_count.2.1 15 = .ok (.iand, 1) := by decide +kernel
theorem jd_Mod_count_16 : decode jm_m_Mod_count.2.1 16 = .ok (.iadd, 1) := by decide +kernel
theorem jd_Mod_count_17 : decode jm_m_Mod_count.2.1 17 = .ok (.istore_n 1, 1) := by decide +kernel
theorem jd_Mod_count_18 : decode jm_m_Mod_count.2.1 18 = .ok (.iinc 2 1, 3) := by decide +kernel
theorem jd_Mod_count_21 : decode jm_m_Mod_count.2.1 21 = .ok (.goto (-17), 3) := by decide +kernel
theorem jd_Mod_count_24 : decode jm_m_Mod_count.2.1 24 = .ok (.iload_n 1, 1) := by decide +kernel
theorem jd_Mod_count_25 : decode jm_m_Mod_count.2.1 25 = .ok (.ireturn, 1) := by decide +kernel
