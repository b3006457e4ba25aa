theorem jd_Mod_crowd_0 : decode jm_m_Mod_crowd.2.1 0 = .ok (.iconst 0, 1) := by decide +kernel
theorem jd_Mod_crowd_1 : decode jm_m_Mod_crowd.2.1 1 = .ok (.istore_n 1, 1) := by decide +kernel
theorem jd_Mod_crowd_2 : decode jm_m_Mod_crowd.2.1 2 = .ok (.iconst 0, 1) := by decide +kernel
theorem jd_Mod_crowd_3 : decode jm_m_Mod_crowd.2.1 3 = .ok (.istore_n 2, 1) := by decide +kernel
theorem jd_Mod_crowd_4 : decode jm_m_Mod_crowd.2.1 4 = .ok (.iload_n 2, 1) := by decide +kernel
theorem jd_Mod_crowd_5 : decode jm_m_Mod_crowd.2.1 5 = .ok (.aload_n 0, 1) := by decide +kernel
theorem jd_Mod_crowd_6 : decode jm_m_Mod_crowd.2.1 6 = .ok (.getfield 231, 3) := by decide +kernel
theorem jd_Mod_crowd_9 : decode jm_m_Mod_crowd.2.1 9 = .ok (.if_icmp .ge 29, 3) := by decide +kernel
theorem jd_Mod_crowd_12 : decode jm_m_Mod_crowd.2.1 12 = .ok (.aload_n 0, 1) := by decide +kernel
theorem jd_Mod_crowd_13 : decode jm_m_Mod_crowd.2.1 13 = .ok (.iload_n 2, 1) := by decide +kernel
theorem jd_Mod_crowd_14 : decode jm_m_Mod_crowd.2.1 14 = .ok (.invokevirtual 276, 3) := by decide +kernel
theorem jd_Mod_crowd_17 : decode jm_m_Mod_crowd.2.1 17 = .ok (.invokestatic 279, 3) := by decide +kernel
theorem jd_Mod_crowd_20 : decode jm_m_Mod_crowd.2.1 20 = .ok (.istore_n 3, 1) := by decide +kernel
theorem jd_Mod_crowd_21 : decode jm_m_Mod_crowd.2.1 21 = .ok (.iload_n 3, 1) := by decide +kernel
theorem jd_Mod_crowd_22 : decode jm_m_Mod_crowd.2.1 22 = .ok (.iload_n 1, 1) := by decide +kernel
theorem jd_Mod_crowd_23 : decode jm_m_Mod_crowd.2.1 23 = .ok (.if_icmp .le 7, 3) := by decide +kernel
theorem jd_Mod_crowd_26 : decode jm_m_Mod_crowd.2.1 26 = .ok (.iload_n 3, 1) := by decide +kernel
theorem jd_Mod_crowd_27 : decode jm_m_Mod_crowd.2.1 27 = .ok (.goto 4, 3) := by decide +kernel
theorem jd_Mod_crowd_30 : decode jm_m_Mod_crowd.2.1 30 = .ok (.iload_n 1, 1) := by decide +kernel
theorem jd_Mod_crowd_31 : decode jm_m_Mod_crowd.2.1 31 = .ok (.istore_n 1, 1) := by decide +kernel
theorem jd_Mod_crowd_32 : decode jm_m_Mod_crowd.2.1 32 = .ok (.iinc 2 1, 3) := by decide +kernel
theorem jd_Mod_crowd_35 : decode jm_m_Mod_crowd.2.1 35 = .ok (.goto (-31), 3) := by decide +kernel
theorem jd_Mod_crowd_38 : decode jm_m_Mod_crowd.2.1 38 = .ok (.iload_n 1, 1) := by decide +kernel
theorem jd_Mod_crowd_39 : decode jm_m_Mod_crowd.2.1 39 = .ok (.ireturn, 1) := by decide +kernel
theorem jd_Mod_weightOf_0 : decode jm_m_Mod_weightOf.2.1 0 = .ok (.iconst 0, 1) := by decide +kernel
theorem jd_Mod_weightOf_1 : decode jm_m_Mod_weightOf.2.1 1 = .ok (.istore_n 2, 1) := by decide +kernel
theorem jd_Mod_weightOf_2 : decode jm_m_Mod_weightOf.2.1 2 = .ok (.iconst 0, 1) := by decide +kernel
theorem jd_Mod_weightOf_3 : decode jm_m_Mod_weightOf.2.1 3 = .ok (.istore_n 3, 1) := by decide +kernel
theorem jd_Mod_weightOf_4 : decode jm_m_Mod_weightOf.2.1 4 = .ok (.iload_n 3, 1) := by decide +kernel
theorem jd_Mod_weightOf_5 : decode jm_m_Mod_weightOf.2.1 5 = .ok (.aload_n 0, 1) := by decide +kernel
theorem jd_Mod_weightOf_6 : decode jm_m_Mod_weightOf.2.1 6 = .ok (.getfield 231, 3) := by decide +kernel
theorem jd_Mod_weightOf_9 : decode jm_m_Mod_weightOf.2.1 9 = .ok (.if_icmp .ge 31, 3) := by decide +kernel
theorem jd_Mod_weightOf_12 : decode jm_m_Mod_weightOf.2.1 12 = .ok (.iload_n 2, 1) := by decide +kernel
theorem jd_Mod_weightOf_13 : decode jm_m_Mod_weightOf.2.1 13 = .ok (.iload_n 1, 1) := by decide +kernel
theorem jd_Mod_weightOf_14 : decode jm_m_Mod_weightOf.2.1 14 = .ok (.iload_n 3, 1) := by decide +kernel
theorem jd_Mod_weightOf_15 : decode jm_m_Mod_weightOf.2.1 15 = .ok (.ishr, 1) := by decide +kernel
theorem jd_Mod_weightOf_16 : decode jm_m_Mod_weightOf.2.1 16 = .ok (.iconst 1, 1) := by decide +kernel
theorem jd_Mod_weightOf_17 : decode jm_m_Mod_weightOf.2.1 17 = .ok (.iand, 1) := by decide +kernel
theorem jd_Mod_weightOf_18 : decode jm_m_Mod_weightOf.2.1 18 = .ok (.iconst 1, 1) := by decide +kernel
theorem jd_Mod_weightOf_19 : decode jm_m_Mod_weightOf.2.1 19 = .ok (.if_icmp .ne 12, 3) := by decide +kernel
theorem jd_Mod_weightOf_22 : decode jm_m_Mod_weightOf.2.1 22 = .ok (.aload_n 0, 1) := by decide +kernel
theorem jd_Mod_weightOf_23 : decode jm_m_Mod_weightOf.2.1 23 = .ok (.getfield 85, 3) := by decide +kernel
theorem jd_Mod_weightOf_26 : decode jm_m_Mod_weightOf.2.1 26 = .ok (.iload_n 3, 1) := by decide +kernel
theorem jd_Mod_weightOf_27 : decode jm_m_Mod_weightOf.2.1 27 = .ok (.iaload, 1) := by decide +kernel
theorem jd_Mod_weightOf_28 : decode jm_m_Mod_weightOf.2.1 28 = .ok (.goto 4, 3) := by decide +kernel
theorem jd_Mod_weightOf_31 : decode jm_m_Mod_weightOf.2.1 31 = .ok (.iconst 0, 1) := by decide +kernel
theorem jd_Mod_weightOf_32 : decode jm_m_Mod_weightOf.2.1 32 = .ok (.iadd, 1) := by decide +kernel
theorem jd_Mod_weightOf_33 : decode jm_m_Mod_weightOf.2.1 33 = .ok (.istore_n 2, 1) := by decide +kernel
theorem jd_Mod_weightOf_34 : decode jm_m_Mod_weightOf.2.1 34 = .ok (.iinc 3 1, 3) := by decide +kernel
theorem jd_Mod_weightOf_37 : decode jm_m_Mod_weightOf.2.1 37 = .ok (.goto (-33), 3) := by decide +kernel
theorem jd_Mod_weightOf_40 : decode jm_m_Mod_weightOf.2.1 40 = .ok (.iload_n 2, 1) := by decide +kernel
theorem jd_Mod_weightOf_41 : decode jm_m_Mod_weightOf.2.1 41 = .ok (.ireturn, 1) := by decide +kernel
theorem jd_Mod_isEnough_0 : decode jm_m_Mod_isEnough.2.1 0 = .ok (.iconst 1, 1) := by decide +kernel
theorem jd_Mod_isEnough_1 : decode jm_m_Mod_isEnough.2.1 1 = .ok (.istore_n 3, 1) := by decide +kernel
theorem jd_Mod_isEnough_2 : decode jm_m_Mod_isEnough.2.1 2 = .ok (.iconst 0, 1) := by decide +kernel
theorem jd_Mod_isEnough_3 : decode jm_m_Mod_isEnough.2.1 3 = .ok (.istore 4, 2) := by decide +kernel
theorem jd_Mod_isEnough_5 : decode jm_m_Mod_isEnough.2.1 5 = .ok (.iload 4, 2) := by decide +kernel
theorem jd_Mod_isEnough_7 : decode jm_m_Mod_isEnough.2.1 7 = .ok (.aload_n 0, 1) := by decide +kernel
theorem jd_Mod_isEnough_8 : decode jm_m_Mod_isEnough.2.1 8 = .ok (.getfield 231, 3) := by decide +kernel
theorem jd_Mod_isEnough_11 : decode jm_m_Mod_isEnough.2.1 11 = .ok (.if_icmp .ge 37, 3) := by decide +kernel
theorem jd_Mod_isEnough_14 : decode jm_m_Mod_isEnough.2.1 14 = .ok (.iload_n 3, 1) := by decide +kernel
theorem jd_Mod_isEnough_15 : decode jm_m_Mod_isEnough.2.1 15 = .ok (.ifCond .eq 25, 3) := by decide +kernel
theorem jd_Mod_isEnough_18 : decode jm_m_Mod_isEnough.2.1 18 = .ok (.aload_n 0, 1) := by decide +kernel
theorem jd_Mod_isEnough_19 : decode jm_m_Mod_isEnough.2.1 19 = .ok (.getfield 103, 3) := by decide +kernel
theorem jd_Mod_isEnough_22 : decode jm_m_Mod_isEnough.2.1 22 = .ok (.iload 4, 2) := by decide +kernel
theorem jd_Mod_isEnough_24 : decode jm_m_Mod_isEnough.2.1 24 = .ok (.iaload, 1) := by decide +kernel
theorem jd_Mod_isEnough_25 : decode jm_m_Mod_isEnough.2.1 25 = .ok (.iload_n 1, 1) := by decide +kernel
theorem jd_Mod_isEnough_26 : decode jm_m_Mod_isEnough.2.1 26 = .ok (.iconst (-1), 1) := by decide +kernel
theorem jd_Mod_isEnough_27 : decode jm_m_Mod_isEnough.2.1 27 = .ok (.ixor, 1) := by decide +kernel
theorem jd_Mod_isEnough_28 : decode jm_m_Mod_isEnough.2.1 28 = .ok (.iand, 1) := by decide +kernel
theorem jd_Mod_isEnough_29 : decode jm_m_Mod_isEnough.2.1 29 = .ok (.invokestatic 279, 3) := by decide +kernel
theorem jd_Mod_isEnough_32 : decode jm_m_Mod_isEnough.2.1 32 = .ok (.iload_n 2, 1) := by decide +kernel
theorem jd_Mod_isEnough_33 : decode jm_m_Mod_isEnough.2.1 33 = .ok (.if_icmp .gt 7, 3) := by decide +kernel
theorem jd_Mod_isEnough_36 : decode jm_m_Mod_isEnough.2.1 36 = .ok (.iconst 1, 1) := by decide +kernel
theorem jd_Mod_isEnough_37 : decode jm_m_Mod_isEnough.2.1 37 = .ok (.goto 4, 3) := by decide +kernel
theorem jd_Mod_isEnough_40 : decode jm_m_Mod_isEnough.2.1 40 = .ok (.iconst 0, 1) := by decide +kernel
theorem jd_Mod_isEnough_41 : decode jm_m_Mod_isEnough.2.1 41 = .ok (.istore_n 3, 1) := by decide +kernel
theorem jd_Mod_isEnough_42 : decode jm_m_Mod_isEnough.2.1 42 = .ok (.iinc 4 1, 3) := by decide +kernel
theorem jd_Mod_isEnough_45 : decode jm_m_Mod_isEnough.2.1 45 = .ok (.goto (-40), 3) := by decide +kernel
theorem jd_Mod_isEnough_48 : decode jm_m_Mod_isEnough.2.1 48 = .ok (.iload_n 3, 1) := by decide +kernel
theorem jd_Mod_isEnough_49 : decode jm_m_Mod_isEnough.2.1 49 = .ok (.ireturn, 1) := by decide +kernel
theorem jd_Mod_spilled_0 : decode jm_m_Mod_spilled.2.1 0 = .ok (.iload_n 1, 1) := by decide +kernel
theorem jd_Mod_spilled_1 : decode jm_m_Mod_spilled.2.1 1 = .ok (.i2l, 1) := by decide +kernel
theorem jd_Mod_spilled_2 : decode jm_m_Mod_spilled.2.1 2 = .ok (.lconst 0, 1) := by decide +kernel
theorem jd_Mod_spilled_3 : decode jm_m_Mod_spilled.2.1 3 = .ok (.ldc2_w 282, 3) := by decide +kernel
theorem jd_Mod_spilled_6 : decode jm_m_Mod_spilled.2.1 6 = .ok (.invokestatic 126, 3) := by decide +kernel
theorem jd_Mod_spilled_9 : decode jm_m_Mod_spilled.2.1 9 = .ok (.ifCond .eq 13, 3) := by decide +kernel
theorem jd_Mod_spilled_12 : decode jm_m_Mod_spilled.2.1 12 = .ok (.iload_n 2, 1) := by decide +kernel
theorem jd_Mod_spilled_13 : decode jm_m_Mod_spilled.2.1 13 = .ok (.i2l, 1) := by decide +kernel
theorem jd_Mod_spilled_14 : decode jm_m_Mod_spilled.2.1 14 = .ok (.lconst 0, 1) := by decide +kernel
theorem jd_Mod_spilled_15 : decode jm_m_Mod_spilled.2.1 15 = .ok (.lconst 1, 1) := by decide +kernel
theorem jd_Mod_spilled_16 : decode jm_m_Mod_spilled.2.1 16 = .ok (.invokestatic 126, 3) := by decide +kernel
theorem jd_Mod_spilled_19 : decode jm_m_Mod_spilled.2.1 19 = .ok (.ifCond .ne 6, 3) := by decide +kernel
theorem jd_Mod_spilled_22 : decode jm_m_Mod_spilled.2.1 22 = .ok (.bipush (-2), 2) := by decide +kernel
theorem jd_Mod_spilled_24 : decode jm_m_Mod_spilled.2.1 24 = .ok (.ireturn, 1) := by decide +kernel
theorem jd_Mod_spilled_25 : decode jm_m_Mod_spilled.2.1 25 = .ok (.iconst 0, 1) := by decide +kernel
theorem jd_Mod_spilled_26 : decode jm_m_Mod_spilled.2.1 26 = .ok (.istore_n 3, 1) := by decide +kernel
theorem jd_Mod_spilled_27 : decode jm_m_Mod_spilled.2.1 27 = .ok (.iload_n 3, 1) := by decide +kernel
theorem jd_Mod_spilled_28 : decode jm_m_Mod_spilled.2.1 28 = .ok (.aload_n 0, 1) := by decide +kernel
theorem jd_Mod_spilled_29 : decode jm_m_Mod_spilled.2.1 29 = .ok (.getfield 231, 3) := by decide +kernel
theorem jd_Mod_spilled_32 : decode jm_m_Mod_spilled.2.1 32 = .ok (.if_icmp .ge 20, 3) := by decide +kernel
theorem jd_Mod_spilled_35 : decode jm_m_Mod_spilled.2.1 35 = .ok (.aload_n 0, 1) := by decide +kernel
theorem jd_Mod_spilled_36 : decode jm_m_Mod_spilled.2.1 36 = .ok (.getfield 103, 3) := by decide +kernel
theorem jd_Mod_spilled_39 : decode jm_m_Mod_spilled.2.1 39 = .ok (.iload_n 3, 1) := by decide +kernel
theorem jd_Mod_spilled_40 : decode jm_m_Mod_spilled.2.1 40 = .ok (.aload_n 0, 1) := by decide +kernel
theorem jd_Mod_spilled_41 : decode jm_m_Mod_spilled.2.1 41 = .ok (.iload_n 3, 1) := by decide +kernel
theorem jd_Mod_spilled_42 : decode jm_m_Mod_spilled.2.1 42 = .ok (.invokevirtual 276, 3) := by decide +kernel
theorem jd_Mod_spilled_45 : decode jm_m_Mod_spilled.2.1 45 = .ok (.iastore, 1) := by decide +kernel
theorem jd_Mod_spilled_46 : decode jm_m_Mod_spilled.2.1 46 = .ok (.iinc 3 1, 3) := by decide +kernel
theorem jd_Mod_spilled_49 : decode jm_m_Mod_spilled.2.1 49 = .ok (.goto (-22), 3) := by decide +kernel
theorem jd_Mod_spilled_52 : decode jm_m_Mod_spilled.2.1 52 = .ok (.bipush (-6), 2) := by decide +kernel
theorem jd_Mod_spilled_54 : decode jm_m_Mod_spilled.2.1 54 = .ok (.istore_n 3, 1) := by decide +kernel
theorem jd_Mod_spilled_55 : decode jm_m_Mod_spilled.2.1 55 = .ok (.iconst 0, 1) := by decide +kernel
theorem jd_Mod_spilled_56 : decode jm_m_Mod_spilled.2.1 56 = .ok (.istore 4, 2) := by decide +kernel
theorem jd_Mod_spilled_58 : decode jm_m_Mod_spilled.2.1 58 = .ok (.iload 4, 2) := by decide +kernel
theorem jd_Mod_spilled_60 : decode jm_m_Mod_spilled.2.1 60 = .ok (.iconst 1, 1) := by decide +kernel
theorem jd_Mod_spilled_61 : decode jm_m_Mod_spilled.2.1 61 = .ok (.aload_n 0, 1) := by decide +kernel
theorem jd_Mod_spilled_62 : decode jm_m_Mod_spilled.2.1 62 = .ok (.getfield 231, 3) := by decide +kernel
theorem jd_Mod_spilled_65 : decode jm_m_Mod_spilled.2.1 65 = .ok (.ishl, 1) := by decide +kernel
theorem jd_Mod_spilled_66 : decode jm_m_Mod_spilled.2.1 66 = .ok (.if_icmp .ge 56, 3) := by decide +kernel
theorem jd_Mod_spilled_69 : decode jm_m_Mod_spilled.2.1 69 = .ok (.iload_n 3, 1) := by decide +kernel
theorem jd_Mod_spilled_70 : decode jm_m_Mod_spilled.2.1 70 = .ok (.ifCond .lt 17, 3) := by decide +kernel
theorem jd_Mod_spilled_73 : decode jm_m_Mod_spilled.2.1 73 = .ok (.aload_n 0, 1) := by decide +kernel
theorem jd_Mod_spilled_74 : decode jm_m_Mod_spilled.2.1 74 = .ok (.iload 4, 2) := by decide +kernel
theorem jd_Mod_spilled_76 : decode jm_m_Mod_spilled.2.1 76 = .ok (.invokevirtual 284, 3) := by decide +kernel
theorem jd_Mod_spilled_79 : decode jm_m_Mod_spilled.2.1 79 = .ok (.aload_n 0, 1) := by decide +kernel
theorem jd_Mod_spilled_80 : decode jm_m_Mod_spilled.2.1 80 = .ok (.iload_n 3, 1) := by decide +kernel
theorem jd_Mod_spilled_81 : decode jm_m_Mod_spilled.2.1 81 = .ok (.invokevirtual 284, 3) := by decide +kernel
theorem jd_Mod_spilled_84 : decode jm_m_Mod_spilled.2.1 84 = .ok (.if_icmp .ge 7, 3) := by decide +kernel
theorem jd_Mod_spilled_87 : decode jm_m_Mod_spilled.2.1 87 = .ok (.iconst 1, 1) := by decide +kernel
theorem jd_Mod_spilled_88 : decode jm_m_Mod_spilled.2.1 88 = .ok (.goto 4, 3) := by decide +kernel
theorem jd_Mod_spilled_91 : decode jm_m_Mod_spilled.2.1 91 = .ok (.iconst 0, 1) := by decide +kernel
theorem jd_Mod_spilled_92 : decode jm_m_Mod_spilled.2.1 92 = .ok (.istore 5, 2) := by decide +kernel
theorem jd_Mod_spilled_94 : decode jm_m_Mod_spilled.2.1 94 = .ok (.iload 5, 2) := by decide +kernel
theorem jd_Mod_spilled_96 : decode jm_m_Mod_spilled.2.1 96 = .ok (.ifCond .eq 18, 3) := by decide +kernel
theorem jd_Mod_spilled_99 : decode jm_m_Mod_spilled.2.1 99 = .ok (.aload_n 0, 1) := by decide +kernel
theorem jd_Mod_spilled_100 : decode jm_m_Mod_spilled.2.1 100 = .ok (.iload 4, 2) := by decide +kernel
theorem jd_Mod_spilled_102 : decode jm_m_Mod_spilled.2.1 102 = .ok (.iload_n 1, 1) := by decide +kernel
theorem jd_Mod_spilled_103 : decode jm_m_Mod_spilled.2.1 103 = .ok (.invokevirtual 287, 3) := by decide +kernel
theorem jd_Mod_spilled_106 : decode jm_m_Mod_spilled.2.1 106 = .ok (.ifCond .eq 8, 3) := by decide +kernel
theorem jd_Mod_spilled_109 : decode jm_m_Mod_spilled.2.1 109 = .ok (.iload 4, 2) := by decide +kernel
theorem jd_Mod_spilled_111 : decode jm_m_Mod_spilled.2.1 111 = .ok (.goto 4, 3) := by decide +kernel
theorem jd_Mod_spilled_114 : decode jm_m_Mod_spilled.2.1 114 = .ok (.iload_n 3, 1) := by decide +kernel
theorem jd_Mod_spilled_115 : decode jm_m_Mod_spilled.2.1 115 = .ok (.istore_n 3, 1) := by decide +kernel
theorem jd_Mod_spilled_116 : decode jm_m_Mod_spilled.2.1 116 = .ok (.iinc 4 1, 3) := by decide +kernel
theorem jd_Mod_spilled_119 : decode jm_m_Mod_spilled.2.1 119 = .ok (.goto (-61), 3) := by decide +kernel
theorem jd_Mod_spilled_122 : decode jm_m_Mod_spilled.2.1 122 = .ok (.iload_n 2, 1) := by decide +kernel
theorem jd_Mod_spilled_123 : decode jm_m_Mod_spilled.2.1 123 = .ok (.ifCond .ne 7, 3) := by decide +kernel
theorem jd_Mod_spilled_126 : decode jm_m_Mod_spilled.2.1 126 = .ok (.iload_n 3, 1) := by decide +kernel
theorem jd_Mod_spilled_127 : decode jm_m_Mod_spilled.2.1 127 = .ok (.goto 8, 3) := by decide +kernel
theorem jd_Mod_spilled_130 : decode jm_m_Mod_spilled.2.1 130 = .ok (.aload_n 0, 1) := by decide +kernel
theorem jd_Mod_spilled_131 : decode jm_m_Mod_spilled.2.1 131 = .ok (.iload_n 3, 1) := by decide +kernel
theorem jd_Mod_spilled_132 : decode jm_m_Mod_spilled.2.1 132 = .ok (.invokevirtual 284, 3) := by decide +kernel
theorem jd_Mod_spilled_135 : decode jm_m_Mod_spilled.2.1 135 = .ok (.ireturn, 1) := by decide +kernel
theorem jd_Mod_worked_0 : decode jm_m_Mod_worked.2.1 0 = .ok (.iload_n 0, 1) := by decide +kernel
theorem jd_Mod_worked_1 : decode jm_m_Mod_worked.2.1 1 = .ok (.tableswitch 72 0 5 #[39, 46, 53, 57, 61, 65], 39) := by decide +kernel
theorem jd_Mod_worked_40 : decode jm_m_Mod_worked.2.1 40 = .ok (.iload_n 1, 1) := by decide +kernel
theorem jd_Mod_worked_41 : decode jm_m_Mod_worked.2.1 41 = .ok (.iload_n 2, 1) := by decide +kernel
theorem jd_Mod_worked_42 : decode jm_m_Mod_worked.2.1 42 = .ok (.iadd, 1) := by decide +kernel
theorem jd_Mod_worked_43 : decode jm_m_Mod_worked.2.1 43 = .ok (.bipush 15, 2) := by decide +kernel
theorem jd_Mod_worked_45 : decode jm_m_Mod_worked.2.1 45 = .ok (.iand, 1) := by decide +kernel
theorem jd_Mod_worked_46 : decode jm_m_Mod_worked.2.1 46 = .ok (.ireturn, 1) := by decide +kernel
theorem jd_Mod_worked_47 : decode jm_m_Mod_worked.2.1 47 = .ok (.iload_n 1, 1) := by decide +kernel
theorem jd_Mod_worked_48 : decode jm_m_Mod_worked.2.1 48 = .ok (.iload_n 2, 1) := by decide +kernel
theorem jd_Mod_worked_49 : decode jm_m_Mod_worked.2.1 49 = .ok (.isub, 1) := by decide +kernel
theorem jd_Mod_worked_50 : decode jm_m_Mod_worked.2.1 50 = .ok (.bipush 15, 2) := by decide +kernel
theorem jd_Mod_worked_52 : decode jm_m_Mod_worked.2.1 52 = .ok (.iand, 1) := by decide +kernel
theorem jd_Mod_worked_53 : decode jm_m_Mod_worked.2.1 53 = .ok (.ireturn, 1) := by decide +kernel
theorem jd_Mod_worked_54 : decode jm_m_Mod_worked.2.1 54 = .ok (.iload_n 1, 1) := by decide +kernel
theorem jd_Mod_worked_55 : decode jm_m_Mod_worked.2.1 55 = .ok (.iload_n 2, 1) := by decide +kernel
theorem jd_Mod_worked_56 : decode jm_m_Mod_worked.2.1 56 = .ok (.iand, 1) := by decide +kernel
theorem jd_Mod_worked_57 : decode jm_m_Mod_worked.2.1 57 = .ok (.ireturn, 1) := by decide +kernel
theorem jd_Mod_worked_58 : decode jm_m_Mod_worked.2.1 58 = .ok (.iload_n 1, 1) := by decide +kernel
theorem jd_Mod_worked_59 : decode jm_m_Mod_worked.2.1 59 = .ok (.iload_n 2, 1) := by decide +kernel
theorem jd_Mod_worked_60 : decode jm_m_Mod_worked.2.1 60 = .ok (.ior, 1) := by decide +kernel
theorem jd_Mod_worked_61 : decode jm_m_Mod_worked.2.1 61 = .ok (.ireturn, 1) := by decide +kernel
theorem jd_Mod_worked_62 : decode jm_m_Mod_worked.2.1 62 = .ok (.iload_n 1, 1) := by decide +kernel
theorem jd_Mod_worked_63 : decode jm_m_Mod_worked.2.1 63 = .ok (.iload_n 2, 1) := by decide +kernel
theorem jd_Mod_worked_64 : decode jm_m_Mod_worked.2.1 64 = .ok (.ixor, 1) := by decide +kernel
theorem jd_Mod_worked_65 : decode jm_m_Mod_worked.2.1 65 = .ok (.ireturn, 1) := by decide +kernel
theorem jd_Mod_worked_66 : decode jm_m_Mod_worked.2.1 66 = .ok (.iconst 2, 1) := by decide +kernel
theorem jd_Mod_worked_67 : decode jm_m_Mod_worked.2.1 67 = .ok (.iload_n 1, 1) := by decide +kernel
theorem jd_Mod_worked_68 : decode jm_m_Mod_worked.2.1 68 = .ok (.imul, 1) := by decide +kernel
theorem jd_Mod_worked_69 : decode jm_m_Mod_worked.2.1 69 = .ok (.bipush 15, 2) := by decide +kernel
theorem jd_Mod_worked_71 : decode jm_m_Mod_worked.2.1 71 = .ok (.iand, 1) := by decide +kernel
theorem jd_Mod_worked_72 : decode jm_m_Mod_worked.2.1 72 = .ok (.ireturn, 1) := by decide +kernel
theorem jd_Mod_worked_73 : decode jm_m_Mod_worked.2.1 73 = .ok (.iload_n 1, 1) := by decide +kernel
theorem jd_Mod_worked_74 : decode jm_m_Mod_worked.2.1 74 = .ok (.iconst (-1), 1) := by decide +kernel
theorem jd_Mod_worked_75 : decode jm_m_Mod_worked.2.1 75 = .ok (.ixor, 1) := by decide +kernel
theorem jd_Mod_worked_76 : decode jm_m_Mod_worked.2.1 76 = .ok (.bipush 15, 2) := by decide +kernel
theorem jd_Mod_worked_78 : decode jm_m_Mod_worked.2.1 78 = .ok (.iand, 1) := by decide +kernel
theorem jd_Mod_worked_79 : decode jm_m_Mod_worked.2.1 79 = .ok (.ireturn, 1) := by decide +kernel
theorem jd_Mod_begin_0 : decode jm_m_Mod_begin.2.1 0 = .ok (.iconst 0, 1) := by decide +kernel
theorem jd_Mod_begin_1 : decode jm_m_Mod_begin.2.1 1 = .ok (.istore_n 3, 1) := by decide +kernel
theorem jd_Mod_begin_2 : decode jm_m_Mod_begin.2.1 2 = .ok (.iload_n 3, 1) := by decide +kernel
theorem jd_Mod_begin_3 : decode jm_m_Mod_begin.2.1 3 = .ok (.bipush 6, 2) := by decide +kernel
theorem jd_Mod_begin_5 : decode jm_m_Mod_begin.2.1 5 = .ok (.if_icmp .ge 33, 3) := by decide +kernel
theorem jd_Mod_begin_8 : decode jm_m_Mod_begin.2.1 8 = .ok (.aload_n 0, 1) := by decide +kernel
theorem jd_Mod_begin_9 : decode jm_m_Mod_begin.2.1 9 = .ok (.getfield 106, 3) := by decide +kernel
theorem jd_Mod_begin_12 : decode jm_m_Mod_begin.2.1 12 = .ok (.iload_n 3, 1) := by decide +kernel
theorem jd_Mod_begin_13 : decode jm_m_Mod_begin.2.1 13 = .ok (.iload_n 3, 1) := by decide +kernel
theorem jd_Mod_begin_14 : decode jm_m_Mod_begin.2.1 14 = .ok (.ifCond .ne 7, 3) := by decide +kernel
theorem jd_Mod_begin_17 : decode jm_m_Mod_begin.2.1 17 = .ok (.iload_n 1, 1) := by decide +kernel
theorem jd_Mod_begin_18 : decode jm_m_Mod_begin.2.1 18 = .ok (.goto 13, 3) := by decide +kernel
theorem jd_Mod_begin_21 : decode jm_m_Mod_begin.2.1 21 = .ok (.iload_n 3, 1) := by decide +kernel
theorem jd_Mod_begin_22 : decode jm_m_Mod_begin.2.1 22 = .ok (.iconst 1, 1) := by decide +kernel
theorem jd_Mod_begin_23 : decode jm_m_Mod_begin.2.1 23 = .ok (.if_icmp .ne 7, 3) := by decide +kernel
theorem jd_Mod_begin_26 : decode jm_m_Mod_begin.2.1 26 = .ok (.iload_n 2, 1) := by decide +kernel
theorem jd_Mod_begin_27 : decode jm_m_Mod_begin.2.1 27 = .ok (.goto 4, 3) := by decide +kernel
theorem jd_Mod_begin_30 : decode jm_m_Mod_begin.2.1 30 = .ok (.iconst 0, 1) := by decide +kernel
theorem jd_Mod_begin_31 : decode jm_m_Mod_begin.2.1 31 = .ok (.iastore, 1) := by decide +kernel
theorem jd_Mod_begin_32 : decode jm_m_Mod_begin.2.1 32 = .ok (.iinc 3 1, 3) := by decide +kernel
theorem jd_Mod_begin_35 : decode jm_m_Mod_begin.2.1 35 = .ok (.goto (-33), 3) := by decide +kernel
theorem jd_Mod_begin_38 : decode jm_m_Mod_begin.2.1 38 = .ok (.return_, 1) := by decide +kernel
theorem jd_Mod_runRow_0 : decode jm_m_Mod_runRow.2.1 0 = .ok (.aload_n 0, 1) := by decide +kernel
theorem jd_Mod_runRow_1 : decode jm_m_Mod_runRow.2.1 1 = .ok (.iload_n 1, 1) := by decide +kernel
theorem jd_Mod_runRow_2 : decode jm_m_Mod_runRow.2.1 2 = .ok (.iload_n 2, 1) := by decide +kernel
theorem jd_Mod_runRow_3 : decode jm_m_Mod_runRow.2.1 3 = .ok (.invokevirtual 290, 3) := by decide +kernel
theorem jd_Mod_runRow_6 : decode jm_m_Mod_runRow.2.1 6 = .ok (.iconst 0, 1) := by decide +kernel
theorem jd_Mod_runRow_7 : decode jm_m_Mod_runRow.2.1 7 = .ok (.istore_n 3, 1) := by decide +kernel
theorem jd_Mod_runRow_8 : decode jm_m_Mod_runRow.2.1 8 = .ok (.iload_n 3, 1) := by decide +kernel
theorem jd_Mod_runRow_9 : decode jm_m_Mod_runRow.2.1 9 = .ok (.aload_n 0, 1) := by decide +kernel
theorem jd_Mod_runRow_10 : decode jm_m_Mod_runRow.2.1 10 = .ok (.getfield 231, 3) := by decide +kernel
theorem jd_Mod_runRow_13 : decode jm_m_Mod_runRow.2.1 13 = .ok (.if_icmp .ge 51, 3) := by decide +kernel
theorem jd_Mod_runRow_16 : decode jm_m_Mod_runRow.2.1 16 = .ok (.aload_n 0, 1) := by decide +kernel
theorem jd_Mod_runRow_17 : decode jm_m_Mod_runRow.2.1 17 = .ok (.getfield 106, 3) := by decide +kernel
theorem jd_Mod_runRow_20 : decode jm_m_Mod_runRow.2.1 20 = .ok (.aload_n 0, 1) := by decide +kernel
theorem jd_Mod_runRow_21 : decode jm_m_Mod_runRow.2.1 21 = .ok (.getfield 73, 3) := by decide +kernel
theorem jd_Mod_runRow_24 : decode jm_m_Mod_runRow.2.1 24 = .ok (.iload_n 3, 1) := by decide +kernel
theorem jd_Mod_runRow_25 : decode jm_m_Mod_runRow.2.1 25 = .ok (.iaload, 1) := by decide +kernel
theorem jd_Mod_runRow_26 : decode jm_m_Mod_runRow.2.1 26 = .ok (.aload_n 0, 1) := by decide +kernel
theorem jd_Mod_runRow_27 : decode jm_m_Mod_runRow.2.1 27 = .ok (.getfield 70, 3) := by decide +kernel
theorem jd_Mod_runRow_30 : decode jm_m_Mod_runRow.2.1 30 = .ok (.iload_n 3, 1) := by decide +kernel
theorem jd_Mod_runRow_31 : decode jm_m_Mod_runRow.2.1 31 = .ok (.iaload, 1) := by decide +kernel
theorem jd_Mod_runRow_32 : decode jm_m_Mod_runRow.2.1 32 = .ok (.aload_n 0, 1) := by decide +kernel
theorem jd_Mod_runRow_33 : decode jm_m_Mod_runRow.2.1 33 = .ok (.getfield 106, 3) := by decide +kernel
theorem jd_Mod_runRow_36 : decode jm_m_Mod_runRow.2.1 36 = .ok (.aload_n 0, 1) := by decide +kernel
theorem jd_Mod_runRow_37 : decode jm_m_Mod_runRow.2.1 37 = .ok (.getfield 76, 3) := by decide +kernel
theorem jd_Mod_runRow_40 : decode jm_m_Mod_runRow.2.1 40 = .ok (.iload_n 3, 1) := by decide +kernel
theorem jd_Mod_runRow_41 : decode jm_m_Mod_runRow.2.1 41 = .ok (.iaload, 1) := by decide +kernel
theorem jd_Mod_runRow_42 : decode jm_m_Mod_runRow.2.1 42 = .ok (.iaload, 1) := by decide +kernel
theorem jd_Mod_runRow_43 : decode jm_m_Mod_runRow.2.1 43 = .ok (.aload_n 0, 1) := by decide +kernel
theorem jd_Mod_runRow_44 : decode jm_m_Mod_runRow.2.1 44 = .ok (.getfield 106, 3) := by decide +kernel
theorem jd_Mod_runRow_47 : decode jm_m_Mod_runRow.2.1 47 = .ok (.aload_n 0, 1) := by decide +kernel
theorem jd_Mod_runRow_48 : decode jm_m_Mod_runRow.2.1 48 = .ok (.getfield 79, 3) := by decide +kernel
theorem jd_Mod_runRow_51 : decode jm_m_Mod_runRow.2.1 51 = .ok (.iload_n 3, 1) := by decide +kernel
theorem jd_Mod_runRow_52 : decode jm_m_Mod_runRow.2.1 52 = .ok (.iaload, 1) := by decide +kernel
theorem jd_Mod_runRow_53 : decode jm_m_Mod_runRow.2.1 53 = .ok (.iaload, 1) := by decide +kernel
theorem jd_Mod_runRow_54 : decode jm_m_Mod_runRow.2.1 54 = .ok (.invokestatic 293, 3) := by decide +kernel
theorem jd_Mod_runRow_57 : decode jm_m_Mod_runRow.2.1 57 = .ok (.iastore, 1) := by decide +kernel
theorem jd_Mod_runRow_58 : decode jm_m_Mod_runRow.2.1 58 = .ok (.iinc 3 1, 3) := by decide +kernel
theorem jd_Mod_runRow_61 : decode jm_m_Mod_runRow.2.1 61 = .ok (.goto (-53), 3) := by decide +kernel
theorem jd_Mod_runRow_64 : decode jm_m_Mod_runRow.2.1 64 = .ok (.return_, 1) := by decide +kernel
theorem jd_Mod_isWord_0 : decode jm_m_Mod_isWord.2.1 0 = .ok (.iload_n 0, 1) := by decide +kernel
theorem jd_Mod_isWord_1 : decode jm_m_Mod_isWord.2.1 1 = .ok (.i2l, 1) := by decide +kernel
theorem jd_Mod_isWord_2 : decode jm_m_Mod_isWord.2.1 2 = .ok (.lconst 0, 1) := by decide +kernel
theorem jd_Mod_isWord_3 : decode jm_m_Mod_isWord.2.1 3 = .ok (.ldc2_w 297, 3) := by decide +kernel
theorem jd_Mod_isWord_6 : decode jm_m_Mod_isWord.2.1 6 = .ok (.invokestatic 126, 3) := by decide +kernel
theorem jd_Mod_isWord_9 : decode jm_m_Mod_isWord.2.1 9 = .ok (.ireturn, 1) := by decide +kernel
theorem jd_Mod_run_0 : decode jm_m_Mod_run.2.1 0 = .ok (.iload_n 1, 1) := by decide +kernel
theorem jd_Mod_run_1 : decode jm_m_Mod_run.2.1 1 = .ok (.invokestatic 299, 3) := by decide +kernel
theorem jd_Mod_run_4 : decode jm_m_Mod_run.2.1 4 = .ok (.ifCond .eq 17, 3) := by decide +kernel
theorem jd_Mod_run_7 : decode jm_m_Mod_run.2.1 7 = .ok (.iload_n 2, 1) := by decide +kernel
theorem jd_Mod_run_8 : decode jm_m_Mod_run.2.1 8 = .ok (.invokestatic 299, 3) := by decide +kernel
theorem jd_Mod_run_11 : decode jm_m_Mod_run.2.1 11 = .ok (.ifCond .eq 10, 3) := by decide +kernel
theorem jd_Mod_run_14 : decode jm_m_Mod_run.2.1 14 = .ok (.iload_n 3, 1) := by decide +kernel
theorem jd_Mod_run_15 : decode jm_m_Mod_run.2.1 15 = .ok (.invokestatic 228, 3) := by decide +kernel
theorem jd_Mod_run_18 : decode jm_m_Mod_run.2.1 18 = .ok (.ifCond .ne 6, 3) := by decide +kernel
theorem jd_Mod_run_21 : decode jm_m_Mod_run.2.1 21 = .ok (.bipush (-2), 2) := by decide +kernel
theorem jd_Mod_run_23 : decode jm_m_Mod_run.2.1 23 = .ok (.ireturn, 1) := by decide +kernel
theorem jd_Mod_run_24 : decode jm_m_Mod_run.2.1 24 = .ok (.aload_n 0, 1) := by decide +kernel
theorem jd_Mod_run_25 : decode jm_m_Mod_run.2.1 25 = .ok (.iload_n 1, 1) := by decide +kernel
theorem jd_Mod_run_26 : decode jm_m_Mod_run.2.1 26 = .ok (.iload_n 2, 1) := by decide +kernel
theorem jd_Mod_run_27 : decode jm_m_Mod_run.2.1 27 = .ok (.invokevirtual 302, 3) := by decide +kernel
theorem jd_Mod_run_30 : decode jm_m_Mod_run.2.1 30 = .ok (.aload_n 0, 1) := by decide +kernel
theorem jd_Mod_run_31 : decode jm_m_Mod_run.2.1 31 = .ok (.getfield 106, 3) := by decide +kernel
theorem jd_Mod_run_34 : decode jm_m_Mod_run.2.1 34 = .ok (.iload_n 3, 1) := by decide +kernel
theorem jd_Mod_run_35 : decode jm_m_Mod_run.2.1 35 = .ok (.iaload, 1) := by decide +kernel
theorem jd_Mod_run_36 : decode jm_m_Mod_run.2.1 36 = .ok (.ireturn, 1) := by decide +kernel
theorem jd_Mod_layShorts_0 : decode jm_m_Mod_layShorts.2.1 0 = .ok (.iconst 0, 1) := by decide +kernel
theorem jd_Mod_layShorts_1 : decode jm_m_Mod_layShorts.2.1 1 = .ok (.istore_n 1, 1) := by decide +kernel
theorem jd_Mod_layShorts_2 : decode jm_m_Mod_layShorts.2.1 2 = .ok (.iconst 0, 1) := by decide +kernel
theorem jd_Mod_layShorts_3 : decode jm_m_Mod_layShorts.2.1 3 = .ok (.istore_n 2, 1) := by decide +kernel
theorem jd_Mod_layShorts_4 : decode jm_m_Mod_layShorts.2.1 4 = .ok (.iload_n 2, 1) := by decide +kernel
theorem jd_Mod_layShorts_5 : decode jm_m_Mod_layShorts.2.1 5 = .ok (.bipush 7, 2) := by decide +kernel
theorem jd_Mod_layShorts_7 : decode jm_m_Mod_layShorts.2.1 7 = .ok (.if_icmp .ge 89, 3) := by decide +kernel
theorem jd_Mod_layShorts_10 : decode jm_m_Mod_layShorts.2.1 10 = .ok (.iconst 0, 1) := by decide +kernel
theorem jd_Mod_layShorts_11 : decode jm_m_Mod_layShorts.2.1 11 = .ok (.istore_n 3, 1) := by decide +kernel
theorem jd_Mod_layShorts_12 : decode jm_m_Mod_layShorts.2.1 12 = .ok (.iload_n 3, 1) := by decide +kernel
theorem jd_Mod_layShorts_13 : decode jm_m_Mod_layShorts.2.1 13 = .ok (.iconst 3, 1) := by decide +kernel
theorem jd_Mod_layShorts_14 : decode jm_m_Mod_layShorts.2.1 14 = .ok (.if_icmp .ge 76, 3) := by decide +kernel
theorem jd_Mod_layShorts_17 : decode jm_m_Mod_layShorts.2.1 17 = .ok (.iconst 0, 1) := by decide +kernel
theorem jd_Mod_layShorts_18 : decode jm_m_Mod_layShorts.2.1 18 = .ok (.istore 4, 2) := by decide +kernel
theorem jd_Mod_layShorts_20 : decode jm_m_Mod_layShorts.2.1 20 = .ok (.iload 4, 2) := by decide +kernel
theorem jd_Mod_layShorts_22 : decode jm_m_Mod_layShorts.2.1 22 = .ok (.iconst 3, 1) := by decide +kernel
theorem jd_Mod_layShorts_23 : decode jm_m_Mod_layShorts.2.1 23 = .ok (.if_icmp .ge 61, 3) := by decide +kernel
theorem jd_Mod_layShorts_26 : decode jm_m_Mod_layShorts.2.1 26 = .ok (.iconst 0, 1) := by decide +kernel
theorem jd_Mod_layShorts_27 : decode jm_m_Mod_layShorts.2.1 27 = .ok (.istore 5, 2) := by decide +kernel
theorem jd_Mod_layShorts_29 : decode jm_m_Mod_layShorts.2.1 29 = .ok (.iload 5, 2) := by decide +kernel
theorem jd_Mod_layShorts_31 : decode jm_m_Mod_layShorts.2.1 31 = .ok (.iload_n 2, 1) := by decide +kernel
theorem jd_Mod_layShorts_32 : decode jm_m_Mod_layShorts.2.1 32 = .ok (.iconst 5, 1) := by decide +kernel
theorem jd_Mod_layShorts_33 : decode jm_m_Mod_layShorts.2.1 33 = .ok (.if_icmp .ge 7, 3) := by decide +kernel
theorem jd_Mod_layShorts_36 : decode jm_m_Mod_layShorts.2.1 36 = .ok (.iconst 3, 1) := by decide +kernel
theorem jd_Mod_layShorts_37 : decode jm_m_Mod_layShorts.2.1 37 = .ok (.goto 4, 3) := by decide +kernel
theorem jd_Mod_layShorts_40 : decode jm_m_Mod_layShorts.2.1 40 = .ok (.iconst 1, 1) := by decide +kernel
theorem jd_Mod_layShorts_41 : decode jm_m_Mod_layShorts.2.1 41 = .ok (.if_icmp .ge 37, 3) := by decide +kernel
theorem jd_Mod_layShorts_44 : decode jm_m_Mod_layShorts.2.1 44 = .ok (.aload_n 0, 1) := by decide +kernel
theorem jd_Mod_layShorts_45 : decode jm_m_Mod_layShorts.2.1 45 = .ok (.getfield 112, 3) := by decide +kernel
theorem jd_Mod_layShorts_48 : decode jm_m_Mod_layShorts.2.1 48 = .ok (.iload_n 1, 1) := by decide +kernel
theorem jd_Mod_layShorts_49 : decode jm_m_Mod_layShorts.2.1 49 = .ok (.sipush 1000, 3) := by decide +kernel
theorem jd_Mod_layShorts_52 : decode jm_m_Mod_layShorts.2.1 52 = .ok (.iload_n 2, 1) := by decide +kernel
theorem jd_Mod_layShorts_53 : decode jm_m_Mod_layShorts.2.1 53 = .ok (.imul, 1) := by decide +kernel
theorem jd_Mod_layShorts_54 : decode jm_m_Mod_layShorts.2.1 54 = .ok (.bipush 100, 2) := by decide +kernel
theorem jd_Mod_layShorts_56 : decode jm_m_Mod_layShorts.2.1 56 = .ok (.iload_n 3, 1) := by decide +kernel
theorem jd_Mod_layShorts_57 : decode jm_m_Mod_layShorts.2.1 57 = .ok (.imul, 1) := by decide +kernel
theorem jd_Mod_layShorts_58 : decode jm_m_Mod_layShorts.2.1 58 = .ok (.iadd, 1) := by decide +kernel
theorem jd_Mod_layShorts_59 : decode jm_m_Mod_layShorts.2.1 59 = .ok (.bipush 10, 2) := by decide +kernel
theorem jd_Mod_layShorts_61 : decode jm_m_Mod_layShorts.2.1 61 = .ok (.iload 4, 2) := by decide +kernel
theorem jd_Mod_layShorts_63 : decode jm_m_Mod_layShorts.2.1 63 = .ok (.imul, 1) := by decide +kernel
theorem jd_Mod_layShorts_64 : decode jm_m_Mod_layShorts.2.1 64 = .ok (.iadd, 1) := by decide +kernel
theorem jd_Mod_layShorts_65 : decode jm_m_Mod_layShorts.2.1 65 = .ok (.iload 5, 2) := by decide +kernel
theorem jd_Mod_layShorts_67 : decode jm_m_Mod_layShorts.2.1 67 = .ok (.iadd, 1) := by decide +kernel
theorem jd_Mod_layShorts_68 : decode jm_m_Mod_layShorts.2.1 68 = .ok (.iastore, 1) := by decide +kernel
theorem jd_Mod_layShorts_69 : decode jm_m_Mod_layShorts.2.1 69 = .ok (.iinc 1 1, 3) := by decide +kernel
theorem jd_Mod_layShorts_72 : decode jm_m_Mod_layShorts.2.1 72 = .ok (.iinc 5 1, 3) := by decide +kernel
theorem jd_Mod_layShorts_75 : decode jm_m_Mod_layShorts.2.1 75 = .ok (.goto (-46), 3) := by decide +kernel
theorem jd_Mod_layShorts_78 : decode jm_m_Mod_layShorts.2.1 78 = .ok (.iinc 4 1, 3) := by decide +kernel
theorem jd_Mod_layShorts_81 : decode jm_m_Mod_layShorts.2.1 81 = .ok (.goto (-61), 3) := by decide +kernel
theorem jd_Mod_layShorts_84 : decode jm_m_Mod_layShorts.2.1 84 = .ok (.iinc 3 1, 3) := by decide +kernel
theorem jd_Mod_layShorts_87 : decode jm_m_Mod_layShorts.2.1 87 = .ok (.goto (-75), 3) := by decide +kernel
theorem jd_Mod_layShorts_90 : decode jm_m_Mod_layShorts.2.1 90 = .ok (.iinc 2 1, 3) := by decide +kernel
theorem jd_Mod_layShorts_93 : decode jm_m_Mod_layShorts.2.1 93 = .ok (.goto (-89), 3) := by decide +kernel
theorem jd_Mod_layShorts_96 : decode jm_m_Mod_layShorts.2.1 96 = .ok (.return_, 1) := by decide +kernel
theorem jd_Mod_isAlike_0 : decode jm_m_Mod_isAlike.2.1 0 = .ok (.iconst 0, 1) := by decide +kernel
theorem jd_Mod_isAlike_1 : decode jm_m_Mod_isAlike.2.1 1 = .ok (.istore_n 2, 1) := by decide +kernel
theorem jd_Mod_isAlike_2 : decode jm_m_Mod_isAlike.2.1 2 = .ok (.iload_n 2, 1) := by decide +kernel
theorem jd_Mod_isAlike_3 : decode jm_m_Mod_isAlike.2.1 3 = .ok (.sipush 256, 3) := by decide +kernel
theorem jd_Mod_isAlike_6 : decode jm_m_Mod_isAlike.2.1 6 = .ok (.if_icmp .ge 109, 3) := by decide +kernel
theorem jd_Mod_isAlike_9 : decode jm_m_Mod_isAlike.2.1 9 = .ok (.aload_n 0, 1) := by decide +kernel
theorem jd_Mod_isAlike_10 : decode jm_m_Mod_isAlike.2.1 10 = .ok (.iload_n 2, 1) := by decide +kernel
theorem jd_Mod_isAlike_11 : decode jm_m_Mod_isAlike.2.1 11 = .ok (.bipush 16, 2) := by decide +kernel
theorem jd_Mod_isAlike_13 : decode jm_m_Mod_isAlike.2.1 13 = .ok (.idiv, 1) := by decide +kernel
theorem jd_Mod_isAlike_14 : decode jm_m_Mod_isAlike.2.1 14 = .ok (.iload_n 2, 1) := by decide +kernel
theorem jd_Mod_isAlike_15 : decode jm_m_Mod_isAlike.2.1 15 = .ok (.bipush 16, 2) := by decide +kernel
theorem jd_Mod_isAlike_17 : decode jm_m_Mod_isAlike.2.1 17 = .ok (.irem, 1) := by decide +kernel
theorem jd_Mod_isAlike_18 : decode jm_m_Mod_isAlike.2.1 18 = .ok (.invokevirtual 290, 3) := by decide +kernel
theorem jd_Mod_isAlike_21 : decode jm_m_Mod_isAlike.2.1 21 = .ok (.iconst 0, 1) := by decide +kernel
theorem jd_Mod_isAlike_22 : decode jm_m_Mod_isAlike.2.1 22 = .ok (.istore_n 3, 1) := by decide +kernel
theorem jd_Mod_isAlike_23 : decode jm_m_Mod_isAlike.2.1 23 = .ok (.iload_n 3, 1) := by decide +kernel
theorem jd_Mod_isAlike_24 : decode jm_m_Mod_isAlike.2.1 24 = .ok (.iload_n 1, 1) := by decide +kernel
theorem jd_Mod_isAlike_25 : decode jm_m_Mod_isAlike.2.1 25 = .ok (.if_icmp .ge 67, 3) := by decide +kernel
theorem jd_Mod_isAlike_28 : decode jm_m_Mod_isAlike.2.1 28 = .ok (.aload_n 0, 1) := by decide +kernel
theorem jd_Mod_isAlike_29 : decode jm_m_Mod_isAlike.2.1 29 = .ok (.getfield 112, 3) := by decide +kernel
theorem jd_Mod_isAlike_32 : decode jm_m_Mod_isAlike.2.1 32 = .ok (.aload_n 0, 1) := by decide +kernel
theorem jd_Mod_isAlike_33 : decode jm_m_Mod_isAlike.2.1 33 = .ok (.getfield 115, 3) := by decide +kernel
theorem jd_Mod_isAlike_36 : decode jm_m_Mod_isAlike.2.1 36 = .ok (.iload_n 3, 1) := by decide +kernel
theorem jd_Mod_isAlike_37 : decode jm_m_Mod_isAlike.2.1 37 = .ok (.iaload, 1) := by decide +kernel
theorem jd_Mod_isAlike_38 : decode jm_m_Mod_isAlike.2.1 38 = .ok (.iaload, 1) := by decide +kernel
theorem jd_Mod_isAlike_39 : decode jm_m_Mod_isAlike.2.1 39 = .ok (.istore 4, 2) := by decide +kernel
theorem jd_Mod_isAlike_41 : decode jm_m_Mod_isAlike.2.1 41 = .ok (.aload_n 0, 1) := by decide +kernel
theorem jd_Mod_isAlike_42 : decode jm_m_Mod_isAlike.2.1 42 = .ok (.getfield 106, 3) := by decide +kernel
theorem jd_Mod_isAlike_45 : decode jm_m_Mod_isAlike.2.1 45 = .ok (.iload 4, 2) := by decide +kernel
theorem jd_Mod_isAlike_47 : decode jm_m_Mod_isAlike.2.1 47 = .ok (.bipush 100, 2) := by decide +kernel
theorem jd_Mod_isAlike_49 : decode jm_m_Mod_isAlike.2.1 49 = .ok (.idiv, 1) := by decide +kernel
theorem jd_Mod_isAlike_50 : decode jm_m_Mod_isAlike.2.1 50 = .ok (.bipush 10, 2) := by decide +kernel
theorem jd_Mod_isAlike_52 : decode jm_m_Mod_isAlike.2.1 52 = .ok (.irem, 1) := by decide +kernel
theorem jd_Mod_isAlike_53 : decode jm_m_Mod_isAlike.2.1 53 = .ok (.iload 4, 2) := by decide +kernel
theorem jd_Mod_isAlike_55 : decode jm_m_Mod_isAlike.2.1 55 = .ok (.sipush 1000, 3) := by decide +kernel
theorem jd_Mod_isAlike_58 : decode jm_m_Mod_isAlike.2.1 58 = .ok (.idiv, 1) := by decide +kernel
theorem jd_Mod_isAlike_59 : decode jm_m_Mod_isAlike.2.1 59 = .ok (.aload_n 0, 1) := by decide +kernel
theorem jd_Mod_isAlike_60 : decode jm_m_Mod_isAlike.2.1 60 = .ok (.getfield 106, 3) := by decide +kernel
theorem jd_Mod_isAlike_63 : decode jm_m_Mod_isAlike.2.1 63 = .ok (.iload 4, 2) := by decide +kernel
theorem jd_Mod_isAlike_65 : decode jm_m_Mod_isAlike.2.1 65 = .ok (.bipush 10, 2) := by decide +kernel
theorem jd_Mod_isAlike_67 : decode jm_m_Mod_isAlike.2.1 67 = .ok (.idiv, 1) := by decide +kernel
theorem jd_Mod_isAlike_68 : decode jm_m_Mod_isAlike.2.1 68 = .ok (.bipush 10, 2) := by decide +kernel
theorem jd_Mod_isAlike_70 : decode jm_m_Mod_isAlike.2.1 70 = .ok (.irem, 1) := by decide +kernel
theorem jd_Mod_isAlike_71 : decode jm_m_Mod_isAlike.2.1 71 = .ok (.iaload, 1) := by decide +kernel
theorem jd_Mod_isAlike_72 : decode jm_m_Mod_isAlike.2.1 72 = .ok (.aload_n 0, 1) := by decide +kernel
theorem jd_Mod_isAlike_73 : decode jm_m_Mod_isAlike.2.1 73 = .ok (.getfield 106, 3) := by decide +kernel
theorem jd_Mod_isAlike_76 : decode jm_m_Mod_isAlike.2.1 76 = .ok (.iload 4, 2) := by decide +kernel
theorem jd_Mod_isAlike_78 : decode jm_m_Mod_isAlike.2.1 78 = .ok (.bipush 10, 2) := by decide +kernel
theorem jd_Mod_isAlike_80 : decode jm_m_Mod_isAlike.2.1 80 = .ok (.irem, 1) := by decide +kernel
theorem jd_Mod_isAlike_81 : decode jm_m_Mod_isAlike.2.1 81 = .ok (.iaload, 1) := by decide +kernel
theorem jd_Mod_isAlike_82 : decode jm_m_Mod_isAlike.2.1 82 = .ok (.invokestatic 293, 3) := by decide +kernel
theorem jd_Mod_isAlike_85 : decode jm_m_Mod_isAlike.2.1 85 = .ok (.iastore, 1) := by decide +kernel
theorem jd_Mod_isAlike_86 : decode jm_m_Mod_isAlike.2.1 86 = .ok (.iinc 3 1, 3) := by decide +kernel
theorem jd_Mod_isAlike_89 : decode jm_m_Mod_isAlike.2.1 89 = .ok (.goto (-66), 3) := by decide +kernel
theorem jd_Mod_isAlike_92 : decode jm_m_Mod_isAlike.2.1 92 = .ok (.aload_n 0, 1) := by decide +kernel
theorem jd_Mod_isAlike_93 : decode jm_m_Mod_isAlike.2.1 93 = .ok (.getfield 106, 3) := by decide +kernel
theorem jd_Mod_isAlike_96 : decode jm_m_Mod_isAlike.2.1 96 = .ok (.iconst 0, 1) := by decide +kernel
theorem jd_Mod_isAlike_97 : decode jm_m_Mod_isAlike.2.1 97 = .ok (.iaload, 1) := by decide +kernel
theorem jd_Mod_isAlike_98 : decode jm_m_Mod_isAlike.2.1 98 = .ok (.aload_n 0, 1) := by decide +kernel
theorem jd_Mod_isAlike_99 : decode jm_m_Mod_isAlike.2.1 99 = .ok (.getfield 109, 3) := by decide +kernel
theorem jd_Mod_isAlike_102 : decode jm_m_Mod_isAlike.2.1 102 = .ok (.iload_n 2, 1) := by decide +kernel
theorem jd_Mod_isAlike_103 : decode jm_m_Mod_isAlike.2.1 103 = .ok (.iaload, 1) := by decide +kernel
theorem jd_Mod_isAlike_104 : decode jm_m_Mod_isAlike.2.1 104 = .ok (.if_icmp .eq 5, 3) := by decide +kernel
theorem jd_Mod_isAlike_107 : decode jm_m_Mod_isAlike.2.1 107 = .ok (.iconst 0, 1) := by decide +kernel
theorem jd_Mod_isAlike_108 : decode jm_m_Mod_isAlike.2.1 108 = .ok (.ireturn, 1) := by decide +kernel
theorem jd_Mod_isAlike_109 : decode jm_m_Mod_isAlike.2.1 109 = .ok (.iinc 2 1, 3) := by decide +kernel
theorem jd_Mod_isAlike_112 : decode jm_m_Mod_isAlike.2.1 112 = .ok (.goto (-110), 3) := by decide +kernel
