theorem jd_Machine_init_0 : decode jm_m_Machine_init.2.1 0 = .ok (.aload_n 0, 1) := by decide +kernel
theorem jd_Machine_init_1 : decode jm_m_Machine_init.2.1 1 = .ok (.invokespecial 1, 3) := by decide +kernel
theorem jd_Machine_init_4 : decode jm_m_Machine_init.2.1 4 = .ok (.aload_n 0, 1) := by decide +kernel
theorem jd_Machine_init_5 : decode jm_m_Machine_init.2.1 5 = .ok (.bipush 6, 2) := by decide +kernel
theorem jd_Machine_init_7 : decode jm_m_Machine_init.2.1 7 = .ok (.newarray .long, 2) := by decide +kernel
theorem jd_Machine_init_9 : decode jm_m_Machine_init.2.1 9 = .ok (.putfield 9, 3) := by decide +kernel
theorem jd_Machine_init_12 : decode jm_m_Machine_init.2.1 12 = .ok (.aload_n 0, 1) := by decide +kernel
theorem jd_Machine_init_13 : decode jm_m_Machine_init.2.1 13 = .ok (.aload_n 1, 1) := by decide +kernel
theorem jd_Machine_init_14 : decode jm_m_Machine_init.2.1 14 = .ok (.putfield 15, 3) := by decide +kernel
theorem jd_Machine_init_17 : decode jm_m_Machine_init.2.1 17 = .ok (.return_, 1) := by decide +kernel
theorem jd_Machine_behindRow_0 : decode jm_m_Machine_behindRow.2.1 0 = .ok (.iconst 0, 1) := by decide +kernel
theorem jd_Machine_behindRow_1 : decode jm_m_Machine_behindRow.2.1 1 = .ok (.istore 5, 2) := by decide +kernel
theorem jd_Machine_behindRow_3 : decode jm_m_Machine_behindRow.2.1 3 = .ok (.iload 5, 2) := by decide +kernel
theorem jd_Machine_behindRow_5 : decode jm_m_Machine_behindRow.2.1 5 = .ok (.bipush 6, 2) := by decide +kernel
theorem jd_Machine_behindRow_7 : decode jm_m_Machine_behindRow.2.1 7 = .ok (.if_icmp .ge 17, 3) := by decide +kernel
theorem jd_Machine_behindRow_10 : decode jm_m_Machine_behindRow.2.1 10 = .ok (.aload_n 0, 1) := by decide +kernel
theorem jd_Machine_behindRow_11 : decode jm_m_Machine_behindRow.2.1 11 = .ok (.getfield 9, 3) := by decide +kernel
theorem jd_Machine_behindRow_14 : decode jm_m_Machine_behindRow.2.1 14 = .ok (.iload 5, 2) := by decide +kernel
theorem jd_Machine_behindRow_16 : decode jm_m_Machine_behindRow.2.1 16 = .ok (.lconst 0, 1) := by decide +kernel
theorem jd_Machine_behindRow_17 : decode jm_m_Machine_behindRow.2.1 17 = .ok (.lastore, 1) := by decide +kernel
theorem jd_Machine_behindRow_18 : decode jm_m_Machine_behindRow.2.1 18 = .ok (.iinc 5 1, 3) := by decide +kernel
theorem jd_Machine_behindRow_21 : decode jm_m_Machine_behindRow.2.1 21 = .ok (.goto (-18), 3) := by decide +kernel
theorem jd_Machine_behindRow_24 : decode jm_m_Machine_behindRow.2.1 24 = .ok (.aload_n 0, 1) := by decide +kernel
theorem jd_Machine_behindRow_25 : decode jm_m_Machine_behindRow.2.1 25 = .ok (.getfield 9, 3) := by decide +kernel
theorem jd_Machine_behindRow_28 : decode jm_m_Machine_behindRow.2.1 28 = .ok (.iconst 0, 1) := by decide +kernel
theorem jd_Machine_behindRow_29 : decode jm_m_Machine_behindRow.2.1 29 = .ok (.lload_n 1, 1) := by decide +kernel
theorem jd_Machine_behindRow_30 : decode jm_m_Machine_behindRow.2.1 30 = .ok (.lastore, 1) := by decide +kernel
theorem jd_Machine_behindRow_31 : decode jm_m_Machine_behindRow.2.1 31 = .ok (.aload_n 0, 1) := by decide +kernel
theorem jd_Machine_behindRow_32 : decode jm_m_Machine_behindRow.2.1 32 = .ok (.getfield 9, 3) := by decide +kernel
theorem jd_Machine_behindRow_35 : decode jm_m_Machine_behindRow.2.1 35 = .ok (.iconst 1, 1) := by decide +kernel
theorem jd_Machine_behindRow_36 : decode jm_m_Machine_behindRow.2.1 36 = .ok (.lload_n 3, 1) := by decide +kernel
theorem jd_Machine_behindRow_37 : decode jm_m_Machine_behindRow.2.1 37 = .ok (.lastore, 1) := by decide +kernel
theorem jd_Machine_behindRow_38 : decode jm_m_Machine_behindRow.2.1 38 = .ok (.iconst 0, 1) := by decide +kernel
theorem jd_Machine_behindRow_39 : decode jm_m_Machine_behindRow.2.1 39 = .ok (.istore 5, 2) := by decide +kernel
theorem jd_Machine_behindRow_41 : decode jm_m_Machine_behindRow.2.1 41 = .ok (.iload 5, 2) := by decide +kernel
theorem jd_Machine_behindRow_43 : decode jm_m_Machine_behindRow.2.1 43 = .ok (.aload_n 0, 1) := by decide +kernel
theorem jd_Machine_behindRow_44 : decode jm_m_Machine_behindRow.2.1 44 = .ok (.getfield 15, 3) := by decide +kernel
theorem jd_Machine_behindRow_47 : decode jm_m_Machine_behindRow.2.1 47 = .ok (.getfield 19, 3) := by decide +kernel
theorem jd_Machine_behindRow_50 : decode jm_m_Machine_behindRow.2.1 50 = .ok (.if_icmp .ge 83, 3) := by decide +kernel
theorem jd_Machine_behindRow_53 : decode jm_m_Machine_behindRow.2.1 53 = .ok (.aload_n 0, 1) := by decide +kernel
theorem jd_Machine_behindRow_54 : decode jm_m_Machine_behindRow.2.1 54 = .ok (.getfield 9, 3) := by decide +kernel
theorem jd_Machine_behindRow_57 : decode jm_m_Machine_behindRow.2.1 57 = .ok (.aload_n 0, 1) := by decide +kernel
theorem jd_Machine_behindRow_58 : decode jm_m_Machine_behindRow.2.1 58 = .ok (.getfield 15, 3) := by decide +kernel
theorem jd_Machine_behindRow_61 : decode jm_m_Machine_behindRow.2.1 61 = .ok (.getfield 23, 3) := by decide +kernel
theorem jd_Machine_behindRow_64 : decode jm_m_Machine_behindRow.2.1 64 = .ok (.iconst 2, 1) := by decide +kernel
theorem jd_Machine_behindRow_65 : decode jm_m_Machine_behindRow.2.1 65 = .ok (.aaload, 1) := by decide +kernel
theorem jd_Machine_behindRow_66 : decode jm_m_Machine_behindRow.2.1 66 = .ok (.iload 5, 2) := by decide +kernel
theorem jd_Machine_behindRow_68 : decode jm_m_Machine_behindRow.2.1 68 = .ok (.iaload, 1) := by decide +kernel
theorem jd_Machine_behindRow_69 : decode jm_m_Machine_behindRow.2.1 69 = .ok (.laload, 1) := by decide +kernel
theorem jd_Machine_behindRow_70 : decode jm_m_Machine_behindRow.2.1 70 = .ok (.lstore 6, 2) := by decide +kernel
theorem jd_Machine_behindRow_72 : decode jm_m_Machine_behindRow.2.1 72 = .ok (.aload_n 0, 1) := by decide +kernel
theorem jd_Machine_behindRow_73 : decode jm_m_Machine_behindRow.2.1 73 = .ok (.getfield 9, 3) := by decide +kernel
theorem jd_Machine_behindRow_76 : decode jm_m_Machine_behindRow.2.1 76 = .ok (.aload_n 0, 1) := by decide +kernel
theorem jd_Machine_behindRow_77 : decode jm_m_Machine_behindRow.2.1 77 = .ok (.getfield 15, 3) := by decide +kernel
theorem jd_Machine_behindRow_80 : decode jm_m_Machine_behindRow.2.1 80 = .ok (.getfield 23, 3) := by decide +kernel
theorem jd_Machine_behindRow_83 : decode jm_m_Machine_behindRow.2.1 83 = .ok (.iconst 3, 1) := by decide +kernel
theorem jd_Machine_behindRow_84 : decode jm_m_Machine_behindRow.2.1 84 = .ok (.aaload, 1) := by decide +kernel
theorem jd_Machine_behindRow_85 : decode jm_m_Machine_behindRow.2.1 85 = .ok (.iload 5, 2) := by decide +kernel
theorem jd_Machine_behindRow_87 : decode jm_m_Machine_behindRow.2.1 87 = .ok (.iaload, 1) := by decide +kernel
theorem jd_Machine_behindRow_88 : decode jm_m_Machine_behindRow.2.1 88 = .ok (.laload, 1) := by decide +kernel
theorem jd_Machine_behindRow_89 : decode jm_m_Machine_behindRow.2.1 89 = .ok (.lstore 8, 2) := by decide +kernel
theorem jd_Machine_behindRow_91 : decode jm_m_Machine_behindRow.2.1 91 = .ok (.aload_n 0, 1) := by decide +kernel
theorem jd_Machine_behindRow_92 : decode jm_m_Machine_behindRow.2.1 92 = .ok (.getfield 9, 3) := by decide +kernel
theorem jd_Machine_behindRow_95 : decode jm_m_Machine_behindRow.2.1 95 = .ok (.aload_n 0, 1) := by decide +kernel
theorem jd_Machine_behindRow_96 : decode jm_m_Machine_behindRow.2.1 96 = .ok (.getfield 15, 3) := by decide +kernel
theorem jd_Machine_behindRow_99 : decode jm_m_Machine_behindRow.2.1 99 = .ok (.getfield 23, 3) := by decide +kernel
theorem jd_Machine_behindRow_102 : decode jm_m_Machine_behindRow.2.1 102 = .ok (.iconst 1, 1) := by decide +kernel
theorem jd_Machine_behindRow_103 : decode jm_m_Machine_behindRow.2.1 103 = .ok (.aaload, 1) := by decide +kernel
theorem jd_Machine_behindRow_104 : decode jm_m_Machine_behindRow.2.1 104 = .ok (.iload 5, 2) := by decide +kernel
theorem jd_Machine_behindRow_106 : decode jm_m_Machine_behindRow.2.1 106 = .ok (.iaload, 1) := by decide +kernel
theorem jd_Machine_behindRow_107 : decode jm_m_Machine_behindRow.2.1 107 = .ok (.aload_n 0, 1) := by decide +kernel
theorem jd_Machine_behindRow_108 : decode jm_m_Machine_behindRow.2.1 108 = .ok (.getfield 15, 3) := by decide +kernel
theorem jd_Machine_behindRow_111 : decode jm_m_Machine_behindRow.2.1 111 = .ok (.getfield 23, 3) := by decide +kernel
theorem jd_Machine_behindRow_114 : decode jm_m_Machine_behindRow.2.1 114 = .ok (.iconst 0, 1) := by decide +kernel
theorem jd_Machine_behindRow_115 : decode jm_m_Machine_behindRow.2.1 115 = .ok (.aaload, 1) := by decide +kernel
theorem jd_Machine_behindRow_116 : decode jm_m_Machine_behindRow.2.1 116 = .ok (.iload 5, 2) := by decide +kernel
theorem jd_Machine_behindRow_118 : decode jm_m_Machine_behindRow.2.1 118 = .ok (.iaload, 1) := by decide +kernel
theorem jd_Machine_behindRow_119 : decode jm_m_Machine_behindRow.2.1 119 = .ok (.lload 6, 2) := by decide +kernel
theorem jd_Machine_behindRow_121 : decode jm_m_Machine_behindRow.2.1 121 = .ok (.lload 8, 2) := by decide +kernel
theorem jd_Machine_behindRow_123 : decode jm_m_Machine_behindRow.2.1 123 = .ok (.invokestatic 27, 3) := by decide +kernel
theorem jd_Machine_behindRow_126 : decode jm_m_Machine_behindRow.2.1 126 = .ok (.lastore, 1) := by decide +kernel
theorem jd_Machine_behindRow_127 : decode jm_m_Machine_behindRow.2.1 127 = .ok (.iinc 5 1, 3) := by decide +kernel
theorem jd_Machine_behindRow_130 : decode jm_m_Machine_behindRow.2.1 130 = .ok (.goto (-89), 3) := by decide +kernel
theorem jd_Machine_behindRow_133 : decode jm_m_Machine_behindRow.2.1 133 = .ok (.return_, 1) := by decide +kernel
theorem jd_Machine_result_0 : decode jm_m_Machine_result.2.1 0 = .ok (.iload_n 0, 1) := by decide +kernel
theorem jd_Machine_result_1 : decode jm_m_Machine_result.2.1 1 = .ok (.tableswitch 103 0 5 #[39, 59, 83, 87, 91, 95], 39) := by decide +kernel
theorem jd_Machine_result_40 : decode jm_m_Machine_result.2.1 40 = .ok (.lload_n 1, 1) := by decide +kernel
theorem jd_Machine_result_41 : decode jm_m_Machine_result.2.1 41 = .ok (.ldc2_w 31, 3) := by decide +kernel
theorem jd_Machine_result_44 : decode jm_m_Machine_result.2.1 44 = .ok (.land, 1) := by decide +kernel
theorem jd_Machine_result_45 : decode jm_m_Machine_result.2.1 45 = .ok (.lload_n 3, 1) := by decide +kernel
theorem jd_Machine_result_46 : decode jm_m_Machine_result.2.1 46 = .ok (.ldc2_w 31, 3) := by decide +kernel
theorem jd_Machine_result_49 : decode jm_m_Machine_result.2.1 49 = .ok (.land, 1) := by decide +kernel
theorem jd_Machine_result_50 : decode jm_m_Machine_result.2.1 50 = .ok (.ladd, 1) := by decide +kernel
theorem jd_Machine_result_51 : decode jm_m_Machine_result.2.1 51 = .ok (.lload_n 1, 1) := by decide +kernel
theorem jd_Machine_result_52 : decode jm_m_Machine_result.2.1 52 = .ok (.lload_n 3, 1) := by decide +kernel
theorem jd_Machine_result_53 : decode jm_m_Machine_result.2.1 53 = .ok (.lxor, 1) := by decide +kernel
theorem jd_Machine_result_54 : decode jm_m_Machine_result.2.1 54 = .ok (.ldc2_w 33, 3) := by decide +kernel
theorem jd_Machine_result_57 : decode jm_m_Machine_result.2.1 57 = .ok (.land, 1) := by decide +kernel
theorem jd_Machine_result_58 : decode jm_m_Machine_result.2.1 58 = .ok (.lxor, 1) := by decide +kernel
theorem jd_Machine_result_59 : decode jm_m_Machine_result.2.1 59 = .ok (.lreturn, 1) := by decide +kernel
theorem jd_Machine_result_60 : decode jm_m_Machine_result.2.1 60 = .ok (.lload_n 1, 1) := by decide +kernel
theorem jd_Machine_result_61 : decode jm_m_Machine_result.2.1 61 = .ok (.ldc2_w 33, 3) := by decide +kernel
theorem jd_Machine_result_64 : decode jm_m_Machine_result.2.1 64 = .ok (.lor, 1) := by decide +kernel
theorem jd_Machine_result_65 : decode jm_m_Machine_result.2.1 65 = .ok (.lload_n 3, 1) := by decide +kernel
theorem jd_Machine_result_66 : decode jm_m_Machine_result.2.1 66 = .ok (.ldc2_w 31, 3) := by decide +kernel
theorem jd_Machine_result_69 : decode jm_m_Machine_result.2.1 69 = .ok (.land, 1) := by decide +kernel
theorem jd_Machine_result_70 : decode jm_m_Machine_result.2.1 70 = .ok (.lsub, 1) := by decide +kernel
theorem jd_Machine_result_71 : decode jm_m_Machine_result.2.1 71 = .ok (.lload_n 1, 1) := by decide +kernel
theorem jd_Machine_result_72 : decode jm_m_Machine_result.2.1 72 = .ok (.lload_n 3, 1) := by decide +kernel
theorem jd_Machine_result_73 : decode jm_m_Machine_result.2.1 73 = .ok (.ldc2_w 35, 3) := by decide +kernel
theorem jd_Machine_result_76 : decode jm_m_Machine_result.2.1 76 = .ok (.lxor, 1) := by decide +kernel
theorem jd_Machine_result_77 : decode jm_m_Machine_result.2.1 77 = .ok (.lxor, 1) := by decide +kernel
theorem jd_Machine_result_78 : decode jm_m_Machine_result.2.1 78 = .ok (.ldc2_w 33, 3) := by decide +kernel
theorem jd_Machine_result_81 : decode jm_m_Machine_result.2.1 81 = .ok (.land, 1) := by decide +kernel
theorem jd_Machine_result_82 : decode jm_m_Machine_result.2.1 82 = .ok (.lxor, 1) := by decide +kernel
theorem jd_Machine_result_83 : decode jm_m_Machine_result.2.1 83 = .ok (.lreturn, 1) := by decide +kernel
theorem jd_Machine_result_84 : decode jm_m_Machine_result.2.1 84 = .ok (.lload_n 1, 1) := by decide +kernel
theorem jd_Machine_result_85 : decode jm_m_Machine_result.2.1 85 = .ok (.lload_n 3, 1) := by decide +kernel
theorem jd_Machine_result_86 : decode jm_m_Machine_result.2.1 86 = .ok (.land, 1) := by decide +kernel
theorem jd_Machine_result_87 : decode jm_m_Machine_result.2.1 87 = .ok (.lreturn, 1) := by decide +kernel
theorem jd_Machine_result_88 : decode jm_m_Machine_result.2.1 88 = .ok (.lload_n 1, 1) := by decide +kernel
theorem jd_Machine_result_89 : decode jm_m_Machine_result.2.1 89 = .ok (.lload_n 3, 1) := by decide +kernel
theorem jd_Machine_result_90 : decode jm_m_Machine_result.2.1 90 = .ok (.lor, 1) := by decide +kernel
theorem jd_Machine_result_91 : decode jm_m_Machine_result.2.1 91 = .ok (.lreturn, 1) := by decide +kernel
theorem jd_Machine_result_92 : decode jm_m_Machine_result.2.1 92 = .ok (.lload_n 1, 1) := by decide +kernel
theorem jd_Machine_result_93 : decode jm_m_Machine_result.2.1 93 = .ok (.lload_n 3, 1) := by decide +kernel
theorem jd_Machine_result_94 : decode jm_m_Machine_result.2.1 94 = .ok (.lxor, 1) := by decide +kernel
theorem jd_Machine_result_95 : decode jm_m_Machine_result.2.1 95 = .ok (.lreturn, 1) := by decide +kernel
theorem jd_Machine_result_96 : decode jm_m_Machine_result.2.1 96 = .ok (.lload_n 1, 1) := by decide +kernel
theorem jd_Machine_result_97 : decode jm_m_Machine_result.2.1 97 = .ok (.ldc2_w 31, 3) := by decide +kernel
theorem jd_Machine_result_100 : decode jm_m_Machine_result.2.1 100 = .ok (.land, 1) := by decide +kernel
theorem jd_Machine_result_101 : decode jm_m_Machine_result.2.1 101 = .ok (.iconst 1, 1) := by decide +kernel
theorem jd_Machine_result_102 : decode jm_m_Machine_result.2.1 102 = .ok (.lshl, 1) := by decide +kernel
theorem jd_Machine_result_103 : decode jm_m_Machine_result.2.1 103 = .ok (.lreturn, 1) := by decide +kernel
theorem jd_Machine_result_104 : decode jm_m_Machine_result.2.1 104 = .ok (.lload_n 1, 1) := by decide +kernel
theorem jd_Machine_result_105 : decode jm_m_Machine_result.2.1 105 = .ok (.ldc2_w 35, 3) := by decide +kernel
theorem jd_Machine_result_108 : decode jm_m_Machine_result.2.1 108 = .ok (.lxor, 1) := by decide +kernel
theorem jd_Machine_result_109 : decode jm_m_Machine_result.2.1 109 = .ok (.lreturn, 1) := by decide +kernel
