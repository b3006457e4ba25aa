theorem jd_Pad_init_0 : decode jm_m_Pad_init.2.1 0 = .ok (.aload_n 0, 1) := by decide +kernel
theorem jd_Pad_init_1 : decode jm_m_Pad_init.2.1 1 = .ok (.invokespecial 3, 3) := by decide +kernel
theorem jd_Pad_init_4 : decode jm_m_Pad_init.2.1 4 = .ok (.aload_n 0, 1) := by decide +kernel
theorem jd_Pad_init_5 : decode jm_m_Pad_init.2.1 5 = .ok (.bipush 60, 2) := by decide +kernel
theorem jd_Pad_init_7 : decode jm_m_Pad_init.2.1 7 = .ok (.newarray .int, 2) := by decide +kernel
theorem jd_Pad_init_9 : decode jm_m_Pad_init.2.1 9 = .ok (.putfield 11, 3) := by decide +kernel
theorem jd_Pad_init_12 : decode jm_m_Pad_init.2.1 12 = .ok (.aload_n 0, 1) := by decide +kernel
theorem jd_Pad_init_13 : decode jm_m_Pad_init.2.1 13 = .ok (.bipush 13, 2) := by decide +kernel
theorem jd_Pad_init_15 : decode jm_m_Pad_init.2.1 15 = .ok (.newarray .int, 2) := by decide +kernel
theorem jd_Pad_init_17 : decode jm_m_Pad_init.2.1 17 = .ok (.putfield 15, 3) := by decide +kernel
theorem jd_Pad_init_20 : decode jm_m_Pad_init.2.1 20 = .ok (.return_, 1) := by decide +kernel
theorem jd_Pad_lay_0 : decode jm_m_Pad_lay.2.1 0 = .ok (.aload_n 0, 1) := by decide +kernel
theorem jd_Pad_lay_1 : decode jm_m_Pad_lay.2.1 1 = .ok (.getfield 18, 3) := by decide +kernel
theorem jd_Pad_lay_4 : decode jm_m_Pad_lay.2.1 4 = .ok (.bipush 60, 2) := by decide +kernel
theorem jd_Pad_lay_6 : decode jm_m_Pad_lay.2.1 6 = .ok (.if_icmp .lt 5, 3) := by decide +kernel
theorem jd_Pad_lay_9 : decode jm_m_Pad_lay.2.1 9 = .ok (.iconst 0, 1) := by decide +kernel
theorem jd_Pad_lay_10 : decode jm_m_Pad_lay.2.1 10 = .ok (.ireturn, 1) := by decide +kernel
theorem jd_Pad_lay_11 : decode jm_m_Pad_lay.2.1 11 = .ok (.aload_n 0, 1) := by decide +kernel
theorem jd_Pad_lay_12 : decode jm_m_Pad_lay.2.1 12 = .ok (.getfield 11, 3) := by decide +kernel
theorem jd_Pad_lay_15 : decode jm_m_Pad_lay.2.1 15 = .ok (.aload_n 0, 1) := by decide +kernel
theorem jd_Pad_lay_16 : decode jm_m_Pad_lay.2.1 16 = .ok (.getfield 18, 3) := by decide +kernel
theorem jd_Pad_lay_19 : decode jm_m_Pad_lay.2.1 19 = .ok (.iload_n 1, 1) := by decide +kernel
theorem jd_Pad_lay_20 : decode jm_m_Pad_lay.2.1 20 = .ok (.iastore, 1) := by decide +kernel
theorem jd_Pad_lay_21 : decode jm_m_Pad_lay.2.1 21 = .ok (.aload_n 0, 1) := by decide +kernel
theorem jd_Pad_lay_22 : decode jm_m_Pad_lay.2.1 22 = .ok (.dup, 1) := by decide +kernel
theorem jd_Pad_lay_23 : decode jm_m_Pad_lay.2.1 23 = .ok (.getfield 18, 3) := by decide +kernel
theorem jd_Pad_lay_26 : decode jm_m_Pad_lay.2.1 26 = .ok (.iconst 1, 1) := by decide +kernel
theorem jd_Pad_lay_27 : decode jm_m_Pad_lay.2.1 27 = .ok (.iadd, 1) := by decide +kernel
theorem jd_Pad_lay_28 : decode jm_m_Pad_lay.2.1 28 = .ok (.putfield 18, 3) := by decide +kernel
theorem jd_Pad_lay_31 : decode jm_m_Pad_lay.2.1 31 = .ok (.iconst 1, 1) := by decide +kernel
theorem jd_Pad_lay_32 : decode jm_m_Pad_lay.2.1 32 = .ok (.ireturn, 1) := by decide +kernel
theorem jd_Pad_faultAsTree_0 : decode jm_m_Pad_faultAsTree.2.1 0 = .ok (.aload_n 0, 1) := by decide +kernel
theorem jd_Pad_faultAsTree_1 : decode jm_m_Pad_faultAsTree.2.1 1 = .ok (.iconst 0, 1) := by decide +kernel
theorem jd_Pad_faultAsTree_2 : decode jm_m_Pad_faultAsTree.2.1 2 = .ok (.invokevirtual 22, 3) := by decide +kernel
theorem jd_Pad_faultAsTree_5 : decode jm_m_Pad_faultAsTree.2.1 5 = .ok (.ireturn, 1) := by decide +kernel
theorem jd_Pad_faultAsPattern_0 : decode jm_m_Pad_faultAsPattern.2.1 0 = .ok (.aload_n 0, 1) := by decide +kernel
theorem jd_Pad_faultAsPattern_1 : decode jm_m_Pad_faultAsPattern.2.1 1 = .ok (.iconst 1, 1) := by decide +kernel
theorem jd_Pad_faultAsPattern_2 : decode jm_m_Pad_faultAsPattern.2.1 2 = .ok (.invokevirtual 22, 3) := by decide +kernel
theorem jd_Pad_faultAsPattern_5 : decode jm_m_Pad_faultAsPattern.2.1 5 = .ok (.ireturn, 1) := by decide +kernel
theorem jd_Pad_firstFault_0 : decode jm_m_Pad_firstFault.2.1 0 = .ok (.iconst 0, 1) := by decide +kernel
theorem jd_Pad_firstFault_1 : decode jm_m_Pad_firstFault.2.1 1 = .ok (.istore_n 2, 1) := by decide +kernel
theorem jd_Pad_firstFault_2 : decode jm_m_Pad_firstFault.2.1 2 = .ok (.aload_n 0, 1) := by decide +kernel
theorem jd_Pad_firstFault_3 : decode jm_m_Pad_firstFault.2.1 3 = .ok (.getfield 15, 3) := by decide +kernel
theorem jd_Pad_firstFault_6 : decode jm_m_Pad_firstFault.2.1 6 = .ok (.iconst 0, 1) := by decide +kernel
theorem jd_Pad_firstFault_7 : decode jm_m_Pad_firstFault.2.1 7 = .ok (.iconst 1, 1) := by decide +kernel
theorem jd_Pad_firstFault_8 : decode jm_m_Pad_firstFault.2.1 8 = .ok (.iastore, 1) := by decide +kernel
theorem jd_Pad_firstFault_9 : decode jm_m_Pad_firstFault.2.1 9 = .ok (.iconst 0, 1) := by decide +kernel
theorem jd_Pad_firstFault_10 : decode jm_m_Pad_firstFault.2.1 10 = .ok (.istore_n 3, 1) := by decide +kernel
theorem jd_Pad_firstFault_11 : decode jm_m_Pad_firstFault.2.1 11 = .ok (.iload_n 3, 1) := by decide +kernel
theorem jd_Pad_firstFault_12 : decode jm_m_Pad_firstFault.2.1 12 = .ok (.aload_n 0, 1) := by decide +kernel
theorem jd_Pad_firstFault_13 : decode jm_m_Pad_firstFault.2.1 13 = .ok (.getfield 18, 3) := by decide +kernel
theorem jd_Pad_firstFault_16 : decode jm_m_Pad_firstFault.2.1 16 = .ok (.if_icmp .ge 113, 3) := by decide +kernel
theorem jd_Pad_firstFault_19 : decode jm_m_Pad_firstFault.2.1 19 = .ok (.aload_n 0, 1) := by decide +kernel
theorem jd_Pad_firstFault_20 : decode jm_m_Pad_firstFault.2.1 20 = .ok (.getfield 11, 3) := by decide +kernel
theorem jd_Pad_firstFault_23 : decode jm_m_Pad_firstFault.2.1 23 = .ok (.iload_n 3, 1) := by decide +kernel
theorem jd_Pad_firstFault_24 : decode jm_m_Pad_firstFault.2.1 24 = .ok (.iaload, 1) := by decide +kernel
theorem jd_Pad_firstFault_25 : decode jm_m_Pad_firstFault.2.1 25 = .ok (.invokestatic 26, 3) := by decide +kernel
theorem jd_Pad_firstFault_28 : decode jm_m_Pad_firstFault.2.1 28 = .ok (.istore 4, 2) := by decide +kernel
theorem jd_Pad_firstFault_30 : decode jm_m_Pad_firstFault.2.1 30 = .ok (.iload_n 1, 1) := by decide +kernel
theorem jd_Pad_firstFault_31 : decode jm_m_Pad_firstFault.2.1 31 = .ok (.ifCond .eq 15, 3) := by decide +kernel
theorem jd_Pad_firstFault_34 : decode jm_m_Pad_firstFault.2.1 34 = .ok (.aload_n 0, 1) := by decide +kernel
theorem jd_Pad_firstFault_35 : decode jm_m_Pad_firstFault.2.1 35 = .ok (.getfield 11, 3) := by decide +kernel
theorem jd_Pad_firstFault_38 : decode jm_m_Pad_firstFault.2.1 38 = .ok (.iload_n 3, 1) := by decide +kernel
theorem jd_Pad_firstFault_39 : decode jm_m_Pad_firstFault.2.1 39 = .ok (.iaload, 1) := by decide +kernel
theorem jd_Pad_firstFault_40 : decode jm_m_Pad_firstFault.2.1 40 = .ok (.invokestatic 30, 3) := by decide +kernel
theorem jd_Pad_firstFault_43 : decode jm_m_Pad_firstFault.2.1 43 = .ok (.goto 12, 3) := by decide +kernel
theorem jd_Pad_firstFault_46 : decode jm_m_Pad_firstFault.2.1 46 = .ok (.aload_n 0, 1) := by decide +kernel
theorem jd_Pad_firstFault_47 : decode jm_m_Pad_firstFault.2.1 47 = .ok (.getfield 11, 3) := by decide +kernel
theorem jd_Pad_firstFault_50 : decode jm_m_Pad_firstFault.2.1 50 = .ok (.iload_n 3, 1) := by decide +kernel
theorem jd_Pad_firstFault_51 : decode jm_m_Pad_firstFault.2.1 51 = .ok (.iaload, 1) := by decide +kernel
theorem jd_Pad_firstFault_52 : decode jm_m_Pad_firstFault.2.1 52 = .ok (.invokestatic 34, 3) := by decide +kernel
theorem jd_Pad_firstFault_55 : decode jm_m_Pad_firstFault.2.1 55 = .ok (.istore 5, 2) := by decide +kernel
theorem jd_Pad_firstFault_57 : decode jm_m_Pad_firstFault.2.1 57 = .ok (.iload 4, 2) := by decide +kernel
theorem jd_Pad_firstFault_59 : decode jm_m_Pad_firstFault.2.1 59 = .ok (.ifCond .le 17, 3) := by decide +kernel
theorem jd_Pad_firstFault_62 : decode jm_m_Pad_firstFault.2.1 62 = .ok (.iload_n 2, 1) := by decide +kernel
theorem jd_Pad_firstFault_63 : decode jm_m_Pad_firstFault.2.1 63 = .ok (.bipush 12, 2) := by decide +kernel
theorem jd_Pad_firstFault_65 : decode jm_m_Pad_firstFault.2.1 65 = .ok (.if_icmp .ge 7, 3) := by decide +kernel
theorem jd_Pad_firstFault_68 : decode jm_m_Pad_firstFault.2.1 68 = .ok (.iconst 1, 1) := by decide +kernel
theorem jd_Pad_firstFault_69 : decode jm_m_Pad_firstFault.2.1 69 = .ok (.goto 9, 3) := by decide +kernel
theorem jd_Pad_firstFault_72 : decode jm_m_Pad_firstFault.2.1 72 = .ok (.iconst 0, 1) := by decide +kernel
theorem jd_Pad_firstFault_73 : decode jm_m_Pad_firstFault.2.1 73 = .ok (.goto 5, 3) := by decide +kernel
theorem jd_Pad_firstFault_76 : decode jm_m_Pad_firstFault.2.1 76 = .ok (.iload 5, 2) := by decide +kernel
theorem jd_Pad_firstFault_78 : decode jm_m_Pad_firstFault.2.1 78 = .ok (.istore 6, 2) := by decide +kernel
theorem jd_Pad_firstFault_80 : decode jm_m_Pad_firstFault.2.1 80 = .ok (.iload_n 2, 1) := by decide +kernel
theorem jd_Pad_firstFault_81 : decode jm_m_Pad_firstFault.2.1 81 = .ok (.ifCond .lt 8, 3) := by decide +kernel
theorem jd_Pad_firstFault_84 : decode jm_m_Pad_firstFault.2.1 84 = .ok (.iload 6, 2) := by decide +kernel
theorem jd_Pad_firstFault_86 : decode jm_m_Pad_firstFault.2.1 86 = .ok (.ifCond .ne 5, 3) := by decide +kernel
theorem jd_Pad_firstFault_89 : decode jm_m_Pad_firstFault.2.1 89 = .ok (.iload_n 3, 1) := by decide +kernel
theorem jd_Pad_firstFault_90 : decode jm_m_Pad_firstFault.2.1 90 = .ok (.ireturn, 1) := by decide +kernel
theorem jd_Pad_firstFault_91 : decode jm_m_Pad_firstFault.2.1 91 = .ok (.aload_n 0, 1) := by decide +kernel
theorem jd_Pad_firstFault_92 : decode jm_m_Pad_firstFault.2.1 92 = .ok (.getfield 15, 3) := by decide +kernel
theorem jd_Pad_firstFault_95 : decode jm_m_Pad_firstFault.2.1 95 = .ok (.iload_n 2, 1) := by decide +kernel
theorem jd_Pad_firstFault_96 : decode jm_m_Pad_firstFault.2.1 96 = .ok (.dup2, 1) := by decide +kernel
theorem jd_Pad_firstFault_97 : decode jm_m_Pad_firstFault.2.1 97 = .ok (.iaload, 1) := by decide +kernel
theorem jd_Pad_firstFault_98 : decode jm_m_Pad_firstFault.2.1 98 = .ok (.iconst 1, 1) := by decide +kernel
theorem jd_Pad_firstFault_99 : decode jm_m_Pad_firstFault.2.1 99 = .ok (.isub, 1) := by decide +kernel
theorem jd_Pad_firstFault_100 : decode jm_m_Pad_firstFault.2.1 100 = .ok (.iastore, 1) := by decide +kernel
theorem jd_Pad_firstFault_101 : decode jm_m_Pad_firstFault.2.1 101 = .ok (.iload 4, 2) := by decide +kernel
theorem jd_Pad_firstFault_103 : decode jm_m_Pad_firstFault.2.1 103 = .ok (.ifCond .le 14, 3) := by decide +kernel
theorem jd_Pad_firstFault_106 : decode jm_m_Pad_firstFault.2.1 106 = .ok (.iinc 2 1, 3) := by decide +kernel
theorem jd_Pad_firstFault_109 : decode jm_m_Pad_firstFault.2.1 109 = .ok (.aload_n 0, 1) := by decide +kernel
theorem jd_Pad_firstFault_110 : decode jm_m_Pad_firstFault.2.1 110 = .ok (.getfield 15, 3) := by decide +kernel
theorem jd_Pad_firstFault_113 : decode jm_m_Pad_firstFault.2.1 113 = .ok (.iload_n 2, 1) := by decide +kernel
theorem jd_Pad_firstFault_114 : decode jm_m_Pad_firstFault.2.1 114 = .ok (.iload 4, 2) := by decide +kernel
theorem jd_Pad_firstFault_116 : decode jm_m_Pad_firstFault.2.1 116 = .ok (.iastore, 1) := by decide +kernel
theorem jd_Pad_firstFault_117 : decode jm_m_Pad_firstFault.2.1 117 = .ok (.aload_n 0, 1) := by decide +kernel
theorem jd_Pad_firstFault_118 : decode jm_m_Pad_firstFault.2.1 118 = .ok (.iload_n 2, 1) := by decide +kernel
theorem jd_Pad_firstFault_119 : decode jm_m_Pad_firstFault.2.1 119 = .ok (.invokevirtual 37, 3) := by decide +kernel
theorem jd_Pad_firstFault_122 : decode jm_m_Pad_firstFault.2.1 122 = .ok (.istore_n 2, 1) := by decide +kernel
theorem jd_Pad_firstFault_123 : decode jm_m_Pad_firstFault.2.1 123 = .ok (.iinc 3 1, 3) := by decide +kernel
theorem jd_Pad_firstFault_126 : decode jm_m_Pad_firstFault.2.1 126 = .ok (.goto (-115), 3) := by decide +kernel
theorem jd_Pad_firstFault_129 : decode jm_m_Pad_firstFault.2.1 129 = .ok (.iload_n 2, 1) := by decide +kernel
theorem jd_Pad_firstFault_130 : decode jm_m_Pad_firstFault.2.1 130 = .ok (.ifCond .ge 8, 3) := by decide +kernel
theorem jd_Pad_firstFault_133 : decode jm_m_Pad_firstFault.2.1 133 = .ok (.bipush (-6), 2) := by decide +kernel
theorem jd_Pad_firstFault_135 : decode jm_m_Pad_firstFault.2.1 135 = .ok (.goto 7, 3) := by decide +kernel
theorem jd_Pad_firstFault_138 : decode jm_m_Pad_firstFault.2.1 138 = .ok (.aload_n 0, 1) := by decide +kernel
theorem jd_Pad_firstFault_139 : decode jm_m_Pad_firstFault.2.1 139 = .ok (.getfield 18, 3) := by decide +kernel
theorem jd_Pad_firstFault_142 : decode jm_m_Pad_firstFault.2.1 142 = .ok (.ireturn, 1) := by decide +kernel
theorem jd_Pad_deepestOpen_0 : decode jm_m_Pad_deepestOpen.2.1 0 = .ok (.iload_n 1, 1) := by decide +kernel
theorem jd_Pad_deepestOpen_1 : decode jm_m_Pad_deepestOpen.2.1 1 = .ok (.istore_n 2, 1) := by decide +kernel
theorem jd_Pad_deepestOpen_2 : decode jm_m_Pad_deepestOpen.2.1 2 = .ok (.iload_n 2, 1) := by decide +kernel
theorem jd_Pad_deepestOpen_3 : decode jm_m_Pad_deepestOpen.2.1 3 = .ok (.ifCond .lt 20, 3) := by decide +kernel
theorem jd_Pad_deepestOpen_6 : decode jm_m_Pad_deepestOpen.2.1 6 = .ok (.aload_n 0, 1) := by decide +kernel
theorem jd_Pad_deepestOpen_7 : decode jm_m_Pad_deepestOpen.2.1 7 = .ok (.getfield 15, 3) := by decide +kernel
theorem jd_Pad_deepestOpen_10 : decode jm_m_Pad_deepestOpen.2.1 10 = .ok (.iload_n 2, 1) := by decide +kernel
theorem jd_Pad_deepestOpen_11 : decode jm_m_Pad_deepestOpen.2.1 11 = .ok (.iaload, 1) := by decide +kernel
theorem jd_Pad_deepestOpen_12 : decode jm_m_Pad_deepestOpen.2.1 12 = .ok (.ifCond .le 5, 3) := by decide +kernel
theorem jd_Pad_deepestOpen_15 : decode jm_m_Pad_deepestOpen.2.1 15 = .ok (.iload_n 2, 1) := by decide +kernel
theorem jd_Pad_deepestOpen_16 : decode jm_m_Pad_deepestOpen.2.1 16 = .ok (.ireturn, 1) := by decide +kernel
theorem jd_Pad_deepestOpen_17 : decode jm_m_Pad_deepestOpen.2.1 17 = .ok (.iinc 2 (-1), 3) := by decide +kernel
theorem jd_Pad_deepestOpen_20 : decode jm_m_Pad_deepestOpen.2.1 20 = .ok (.goto (-18), 3) := by decide +kernel
theorem jd_Pad_deepestOpen_23 : decode jm_m_Pad_deepestOpen.2.1 23 = .ok (.iconst (-1), 1) := by decide +kernel
theorem jd_Pad_deepestOpen_24 : decode jm_m_Pad_deepestOpen.2.1 24 = .ok (.ireturn, 1) := by decide +kernel
theorem jd_Pad_partsOf_0 : decode jm_m_Pad_partsOf.2.1 0 = .ok (.iload_n 0, 1) := by decide +kernel
theorem jd_Pad_partsOf_1 : decode jm_m_Pad_partsOf.2.1 1 = .ok (.lookupswitch 63 #[(38, 59), (42, 59), (43, 59), (45, 59), (64, 61), (126, 61)], 59) := by decide +kernel
theorem jd_Pad_partsOf_60 : decode jm_m_Pad_partsOf.2.1 60 = .ok (.iconst 2, 1) := by decide +kernel
theorem jd_Pad_partsOf_61 : decode jm_m_Pad_partsOf.2.1 61 = .ok (.ireturn, 1) := by decide +kernel
theorem jd_Pad_partsOf_62 : decode jm_m_Pad_partsOf.2.1 62 = .ok (.iconst 1, 1) := by decide +kernel
theorem jd_Pad_partsOf_63 : decode jm_m_Pad_partsOf.2.1 63 = .ok (.ireturn, 1) := by decide +kernel
theorem jd_Pad_partsOf_64 : decode jm_m_Pad_partsOf.2.1 64 = .ok (.iconst 0, 1) := by decide +kernel
theorem jd_Pad_partsOf_65 : decode jm_m_Pad_partsOf.2.1 65 = .ok (.ireturn, 1) := by decide +kernel
theorem jd_Pad_isNumber_0 : decode jm_m_Pad_isNumber.2.1 0 = .ok (.iload_n 0, 1) := by decide +kernel
theorem jd_Pad_isNumber_1 : decode jm_m_Pad_isNumber.2.1 1 = .ok (.bipush 48, 2) := by decide +kernel
theorem jd_Pad_isNumber_3 : decode jm_m_Pad_isNumber.2.1 3 = .ok (.if_icmp .lt 13, 3) := by decide +kernel
theorem jd_Pad_isNumber_6 : decode jm_m_Pad_isNumber.2.1 6 = .ok (.iload_n 0, 1) := by decide +kernel
theorem jd_Pad_isNumber_7 : decode jm_m_Pad_isNumber.2.1 7 = .ok (.bipush 57, 2) := by decide +kernel
theorem jd_Pad_isNumber_9 : decode jm_m_Pad_isNumber.2.1 9 = .ok (.if_icmp .gt 7, 3) := by decide +kernel
theorem jd_Pad_isNumber_12 : decode jm_m_Pad_isNumber.2.1 12 = .ok (.iconst 1, 1) := by decide +kernel
theorem jd_Pad_isNumber_13 : decode jm_m_Pad_isNumber.2.1 13 = .ok (.goto 4, 3) := by decide +kernel
theorem jd_Pad_isNumber_16 : decode jm_m_Pad_isNumber.2.1 16 = .ok (.iconst 0, 1) := by decide +kernel
theorem jd_Pad_isNumber_17 : decode jm_m_Pad_isNumber.2.1 17 = .ok (.ireturn, 1) := by decide +kernel
theorem jd_Pad_isVariable_0 : decode jm_m_Pad_isVariable.2.1 0 = .ok (.iload_n 0, 1) := by decide +kernel
theorem jd_Pad_isVariable_1 : decode jm_m_Pad_isVariable.2.1 1 = .ok (.bipush 97, 2) := by decide +kernel
theorem jd_Pad_isVariable_3 : decode jm_m_Pad_isVariable.2.1 3 = .ok (.if_icmp .lt 13, 3) := by decide +kernel
theorem jd_Pad_isVariable_6 : decode jm_m_Pad_isVariable.2.1 6 = .ok (.iload_n 0, 1) := by decide +kernel
theorem jd_Pad_isVariable_7 : decode jm_m_Pad_isVariable.2.1 7 = .ok (.bipush 104, 2) := by decide +kernel
theorem jd_Pad_isVariable_9 : decode jm_m_Pad_isVariable.2.1 9 = .ok (.if_icmp .gt 7, 3) := by decide +kernel
theorem jd_Pad_isVariable_12 : decode jm_m_Pad_isVariable.2.1 12 = .ok (.iconst 1, 1) := by decide +kernel
theorem jd_Pad_isVariable_13 : decode jm_m_Pad_isVariable.2.1 13 = .ok (.goto 4, 3) := by decide +kernel
theorem jd_Pad_isVariable_16 : decode jm_m_Pad_isVariable.2.1 16 = .ok (.iconst 0, 1) := by decide +kernel
theorem jd_Pad_isVariable_17 : decode jm_m_Pad_isVariable.2.1 17 = .ok (.ireturn, 1) := by decide +kernel
theorem jd_Pad_isTreeLeaf_0 : decode jm_m_Pad_isTreeLeaf.2.1 0 = .ok (.iload_n 0, 1) := by decide +kernel
theorem jd_Pad_isTreeLeaf_1 : decode jm_m_Pad_isTreeLeaf.2.1 1 = .ok (.invokestatic 40, 3) := by decide +kernel
theorem jd_Pad_isTreeLeaf_4 : decode jm_m_Pad_isTreeLeaf.2.1 4 = .ok (.ifCond .ne 10, 3) := by decide +kernel
theorem jd_Pad_isTreeLeaf_7 : decode jm_m_Pad_isTreeLeaf.2.1 7 = .ok (.iload_n 0, 1) := by decide +kernel
theorem jd_Pad_isTreeLeaf_8 : decode jm_m_Pad_isTreeLeaf.2.1 8 = .ok (.invokestatic 43, 3) := by decide +kernel
theorem jd_Pad_isTreeLeaf_11 : decode jm_m_Pad_isTreeLeaf.2.1 11 = .ok (.ifCond .eq 7, 3) := by decide +kernel
theorem jd_Pad_isTreeLeaf_14 : decode jm_m_Pad_isTreeLeaf.2.1 14 = .ok (.iconst 1, 1) := by decide +kernel
theorem jd_Pad_isTreeLeaf_15 : decode jm_m_Pad_isTreeLeaf.2.1 15 = .ok (.goto 4, 3) := by decide +kernel
theorem jd_Pad_isTreeLeaf_18 : decode jm_m_Pad_isTreeLeaf.2.1 18 = .ok (.iconst 0, 1) := by decide +kernel
theorem jd_Pad_isTreeLeaf_19 : decode jm_m_Pad_isTreeLeaf.2.1 19 = .ok (.ireturn, 1) := by decide +kernel
theorem jd_Pad_isPatternLeaf_0 : decode jm_m_Pad_isPatternLeaf.2.1 0 = .ok (.iload_n 0, 1) := by decide +kernel
theorem jd_Pad_isPatternLeaf_1 : decode jm_m_Pad_isPatternLeaf.2.1 1 = .ok (.invokestatic 40, 3) := by decide +kernel
theorem jd_Pad_isPatternLeaf_4 : decode jm_m_Pad_isPatternLeaf.2.1 4 = .ok (.ifCond .ne 22, 3) := by decide +kernel
theorem jd_Pad_isPatternLeaf_7 : decode jm_m_Pad_isPatternLeaf.2.1 7 = .ok (.iload_n 0, 1) := by decide +kernel
theorem jd_Pad_isPatternLeaf_8 : decode jm_m_Pad_isPatternLeaf.2.1 8 = .ok (.bipush 75, 2) := by decide +kernel
theorem jd_Pad_isPatternLeaf_10 : decode jm_m_Pad_isPatternLeaf.2.1 10 = .ok (.if_icmp .eq 16, 3) := by decide +kernel
theorem jd_Pad_isPatternLeaf_13 : decode jm_m_Pad_isPatternLeaf.2.1 13 = .ok (.iload_n 0, 1) := by decide +kernel
theorem jd_Pad_isPatternLeaf_14 : decode jm_m_Pad_isPatternLeaf.2.1 14 = .ok (.bipush 86, 2) := by decide +kernel
theorem jd_Pad_isPatternLeaf_16 : decode jm_m_Pad_isPatternLeaf.2.1 16 = .ok (.if_icmp .eq 10, 3) := by decide +kernel
theorem jd_Pad_isPatternLeaf_19 : decode jm_m_Pad_isPatternLeaf.2.1 19 = .ok (.iload_n 0, 1) := by decide +kernel
theorem jd_Pad_isPatternLeaf_20 : decode jm_m_Pad_isPatternLeaf.2.1 20 = .ok (.invokestatic 46, 3) := by decide +kernel
theorem jd_Pad_isPatternLeaf_23 : decode jm_m_Pad_isPatternLeaf.2.1 23 = .ok (.ifCond .lt 7, 3) := by decide +kernel
theorem jd_Pad_isPatternLeaf_26 : decode jm_m_Pad_isPatternLeaf.2.1 26 = .ok (.iconst 1, 1) := by decide +kernel
theorem jd_Pad_isPatternLeaf_27 : decode jm_m_Pad_isPatternLeaf.2.1 27 = .ok (.goto 4, 3) := by decide +kernel
theorem jd_Pad_isPatternLeaf_30 : decode jm_m_Pad_isPatternLeaf.2.1 30 = .ok (.iconst 0, 1) := by decide +kernel
theorem jd_Pad_isPatternLeaf_31 : decode jm_m_Pad_isPatternLeaf.2.1 31 = .ok (.ireturn, 1) := by decide +kernel
