theorem jd_Mod_startOf_118 : decode jm_m_Mod_startOf.2.1 118 = .ok (.goto 4, 3) := by decide +kernel
theorem jd_Mod_startOf_121 : decode jm_m_Mod_startOf.2.1 121 = .ok (.iload_n 3, 1) := by decide +kernel
theorem jd_Mod_startOf_122 : decode jm_m_Mod_startOf.2.1 122 = .ok (.istore_n 3, 1) := by decide +kernel
theorem jd_Mod_startOf_123 : decode jm_m_Mod_startOf.2.1 123 = .ok (.iinc 4 1, 3) := by decide +kernel
theorem jd_Mod_startOf_126 : decode jm_m_Mod_startOf.2.1 126 = .ok (.goto (-97), 3) := by decide +kernel
theorem jd_Mod_startOf_129 : decode jm_m_Mod_startOf.2.1 129 = .ok (.iload_n 3, 1) := by decide +kernel
theorem jd_Mod_startOf_130 : decode jm_m_Mod_startOf.2.1 130 = .ok (.ireturn, 1) := by decide +kernel
theorem jd_Mod_endAsWritten_0 : decode jm_m_Mod_endAsWritten.2.1 0 = .ok (.iconst 0, 1) := by decide +kernel
theorem jd_Mod_endAsWritten_1 : decode jm_m_Mod_endAsWritten.2.1 1 = .ok (.istore_n 1, 1) := by decide +kernel
theorem jd_Mod_endAsWritten_2 : decode jm_m_Mod_endAsWritten.2.1 2 = .ok (.iconst 0, 1) := by decide +kernel
theorem jd_Mod_endAsWritten_3 : decode jm_m_Mod_endAsWritten.2.1 3 = .ok (.istore_n 2, 1) := by decide +kernel
theorem jd_Mod_endAsWritten_4 : decode jm_m_Mod_endAsWritten.2.1 4 = .ok (.iload_n 2, 1) := by decide +kernel
theorem jd_Mod_endAsWritten_5 : decode jm_m_Mod_endAsWritten.2.1 5 = .ok (.aload_n 0, 1) := by decide +kernel
theorem jd_Mod_endAsWritten_6 : decode jm_m_Mod_endAsWritten.2.1 6 = .ok (.getfield 231, 3) := by decide +kernel
theorem jd_Mod_endAsWritten_9 : decode jm_m_Mod_endAsWritten.2.1 9 = .ok (.if_icmp .ge 62, 3) := by decide +kernel
theorem jd_Mod_endAsWritten_12 : decode jm_m_Mod_endAsWritten.2.1 12 = .ok (.aload_n 0, 1) := by decide +kernel
theorem jd_Mod_endAsWritten_13 : decode jm_m_Mod_endAsWritten.2.1 13 = .ok (.getfield 88, 3) := by decide +kernel
theorem jd_Mod_endAsWritten_16 : decode jm_m_Mod_endAsWritten.2.1 16 = .ok (.iload_n 2, 1) := by decide +kernel
theorem jd_Mod_endAsWritten_17 : decode jm_m_Mod_endAsWritten.2.1 17 = .ok (.iload_n 2, 1) := by decide +kernel
theorem jd_Mod_endAsWritten_18 : decode jm_m_Mod_endAsWritten.2.1 18 = .ok (.iastore, 1) := by decide +kernel
theorem jd_Mod_endAsWritten_19 : decode jm_m_Mod_endAsWritten.2.1 19 = .ok (.aload_n 0, 1) := by decide +kernel
theorem jd_Mod_endAsWritten_20 : decode jm_m_Mod_endAsWritten.2.1 20 = .ok (.getfield 91, 3) := by decide +kernel
theorem jd_Mod_endAsWritten_23 : decode jm_m_Mod_endAsWritten.2.1 23 = .ok (.iload_n 2, 1) := by decide +kernel
theorem jd_Mod_endAsWritten_24 : decode jm_m_Mod_endAsWritten.2.1 24 = .ok (.aload_n 0, 1) := by decide +kernel
theorem jd_Mod_endAsWritten_25 : decode jm_m_Mod_endAsWritten.2.1 25 = .ok (.iload_n 2, 1) := by decide +kernel
theorem jd_Mod_endAsWritten_26 : decode jm_m_Mod_endAsWritten.2.1 26 = .ok (.invokevirtual 238, 3) := by decide +kernel
theorem jd_Mod_endAsWritten_29 : decode jm_m_Mod_endAsWritten.2.1 29 = .ok (.iastore, 1) := by decide +kernel
theorem jd_Mod_endAsWritten_30 : decode jm_m_Mod_endAsWritten.2.1 30 = .ok (.aload_n 0, 1) := by decide +kernel
theorem jd_Mod_endAsWritten_31 : decode jm_m_Mod_endAsWritten.2.1 31 = .ok (.getfield 91, 3) := by decide +kernel
theorem jd_Mod_endAsWritten_34 : decode jm_m_Mod_endAsWritten.2.1 34 = .ok (.iload_n 2, 1) := by decide +kernel
theorem jd_Mod_endAsWritten_35 : decode jm_m_Mod_endAsWritten.2.1 35 = .ok (.iaload, 1) := by decide +kernel
theorem jd_Mod_endAsWritten_36 : decode jm_m_Mod_endAsWritten.2.1 36 = .ok (.aload_n 0, 1) := by decide +kernel
theorem jd_Mod_endAsWritten_37 : decode jm_m_Mod_endAsWritten.2.1 37 = .ok (.getfield 82, 3) := by decide +kernel
theorem jd_Mod_endAsWritten_40 : decode jm_m_Mod_endAsWritten.2.1 40 = .ok (.iload_n 2, 1) := by decide +kernel
theorem jd_Mod_endAsWritten_41 : decode jm_m_Mod_endAsWritten.2.1 41 = .ok (.iaload, 1) := by decide +kernel
theorem jd_Mod_endAsWritten_42 : decode jm_m_Mod_endAsWritten.2.1 42 = .ok (.iadd, 1) := by decide +kernel
theorem jd_Mod_endAsWritten_43 : decode jm_m_Mod_endAsWritten.2.1 43 = .ok (.iload_n 1, 1) := by decide +kernel
theorem jd_Mod_endAsWritten_44 : decode jm_m_Mod_endAsWritten.2.1 44 = .ok (.if_icmp .le 19, 3) := by decide +kernel
theorem jd_Mod_endAsWritten_47 : decode jm_m_Mod_endAsWritten.2.1 47 = .ok (.aload_n 0, 1) := by decide +kernel
theorem jd_Mod_endAsWritten_48 : decode jm_m_Mod_endAsWritten.2.1 48 = .ok (.getfield 91, 3) := by decide +kernel
theorem jd_Mod_endAsWritten_51 : decode jm_m_Mod_endAsWritten.2.1 51 = .ok (.iload_n 2, 1) := by decide +kernel
theorem jd_Mod_endAsWritten_52 : decode jm_m_Mod_endAsWritten.2.1 52 = .ok (.iaload, 1) := by decide +kernel
theorem jd_Mod_endAsWritten_53 : decode jm_m_Mod_endAsWritten.2.1 53 = .ok (.aload_n 0, 1) := by decide +kernel
theorem jd_Mod_endAsWritten_54 : decode jm_m_Mod_endAsWritten.2.1 54 = .ok (.getfield 82, 3) := by decide +kernel
theorem jd_Mod_endAsWritten_57 : decode jm_m_Mod_endAsWritten.2.1 57 = .ok (.iload_n 2, 1) := by decide +kernel
theorem jd_Mod_endAsWritten_58 : decode jm_m_Mod_endAsWritten.2.1 58 = .ok (.iaload, 1) := by decide +kernel
theorem jd_Mod_endAsWritten_59 : decode jm_m_Mod_endAsWritten.2.1 59 = .ok (.iadd, 1) := by decide +kernel
theorem jd_Mod_endAsWritten_60 : decode jm_m_Mod_endAsWritten.2.1 60 = .ok (.goto 4, 3) := by decide +kernel
theorem jd_Mod_endAsWritten_63 : decode jm_m_Mod_endAsWritten.2.1 63 = .ok (.iload_n 1, 1) := by decide +kernel
theorem jd_Mod_endAsWritten_64 : decode jm_m_Mod_endAsWritten.2.1 64 = .ok (.istore_n 1, 1) := by decide +kernel
theorem jd_Mod_endAsWritten_65 : decode jm_m_Mod_endAsWritten.2.1 65 = .ok (.iinc 2 1, 3) := by decide +kernel
theorem jd_Mod_endAsWritten_68 : decode jm_m_Mod_endAsWritten.2.1 68 = .ok (.goto (-64), 3) := by decide +kernel
theorem jd_Mod_endAsWritten_71 : decode jm_m_Mod_endAsWritten.2.1 71 = .ok (.iload_n 1, 1) := by decide +kernel
theorem jd_Mod_endAsWritten_72 : decode jm_m_Mod_endAsWritten.2.1 72 = .ok (.ireturn, 1) := by decide +kernel
theorem jd_Mod_about_0 : decode jm_m_Mod_about.2.1 0 = .ok (.aload_n 0, 1) := by decide +kernel
theorem jd_Mod_about_1 : decode jm_m_Mod_about.2.1 1 = .ok (.iload_n 1, 1) := by decide +kernel
theorem jd_Mod_about_2 : decode jm_m_Mod_about.2.1 2 = .ok (.invokevirtual 241, 3) := by decide +kernel
theorem jd_Mod_about_5 : decode jm_m_Mod_about.2.1 5 = .ok (.ifCond .ne 5, 3) := by decide +kernel
theorem jd_Mod_about_8 : decode jm_m_Mod_about.2.1 8 = .ok (.iconst (-1), 1) := by decide +kernel
theorem jd_Mod_about_9 : decode jm_m_Mod_about.2.1 9 = .ok (.ireturn, 1) := by decide +kernel
theorem jd_Mod_about_10 : decode jm_m_Mod_about.2.1 10 = .ok (.iload_n 2, 1) := by decide +kernel
theorem jd_Mod_about_11 : decode jm_m_Mod_about.2.1 11 = .ok (.tableswitch 84 0 5 #[37, 44, 51, 58, 65, 72], 37) := by decide +kernel
theorem jd_Mod_about_48 : decode jm_m_Mod_about.2.1 48 = .ok (.aload_n 0, 1) := by decide +kernel
theorem jd_Mod_about_49 : decode jm_m_Mod_about.2.1 49 = .ok (.getfield 70, 3) := by decide +kernel
theorem jd_Mod_about_52 : decode jm_m_Mod_about.2.1 52 = .ok (.iload_n 1, 1) := by decide +kernel
theorem jd_Mod_about_53 : decode jm_m_Mod_about.2.1 53 = .ok (.iaload, 1) := by decide +kernel
theorem jd_Mod_about_54 : decode jm_m_Mod_about.2.1 54 = .ok (.ireturn, 1) := by decide +kernel
theorem jd_Mod_about_55 : decode jm_m_Mod_about.2.1 55 = .ok (.aload_n 0, 1) := by decide +kernel
theorem jd_Mod_about_56 : decode jm_m_Mod_about.2.1 56 = .ok (.getfield 73, 3) := by decide +kernel
theorem jd_Mod_about_59 : decode jm_m_Mod_about.2.1 59 = .ok (.iload_n 1, 1) := by decide +kernel
theorem jd_Mod_about_60 : decode jm_m_Mod_about.2.1 60 = .ok (.iaload, 1) := by decide +kernel
theorem jd_Mod_about_61 : decode jm_m_Mod_about.2.1 61 = .ok (.ireturn, 1) := by decide +kernel
theorem jd_Mod_about_62 : decode jm_m_Mod_about.2.1 62 = .ok (.aload_n 0, 1) := by decide +kernel
theorem jd_Mod_about_63 : decode jm_m_Mod_about.2.1 63 = .ok (.getfield 76, 3) := by decide +kernel
theorem jd_Mod_about_66 : decode jm_m_Mod_about.2.1 66 = .ok (.iload_n 1, 1) := by decide +kernel
theorem jd_Mod_about_67 : decode jm_m_Mod_about.2.1 67 = .ok (.iaload, 1) := by decide +kernel
theorem jd_Mod_about_68 : decode jm_m_Mod_about.2.1 68 = .ok (.ireturn, 1) := by decide +kernel
theorem jd_Mod_about_69 : decode jm_m_Mod_about.2.1 69 = .ok (.aload_n 0, 1) := by decide +kernel
theorem jd_Mod_about_70 : decode jm_m_Mod_about.2.1 70 = .ok (.getfield 79, 3) := by decide +kernel
theorem jd_Mod_about_73 : decode jm_m_Mod_about.2.1 73 = .ok (.iload_n 1, 1) := by decide +kernel
theorem jd_Mod_about_74 : decode jm_m_Mod_about.2.1 74 = .ok (.iaload, 1) := by decide +kernel
theorem jd_Mod_about_75 : decode jm_m_Mod_about.2.1 75 = .ok (.ireturn, 1) := by decide +kernel
theorem jd_Mod_about_76 : decode jm_m_Mod_about.2.1 76 = .ok (.aload_n 0, 1) := by decide +kernel
theorem jd_Mod_about_77 : decode jm_m_Mod_about.2.1 77 = .ok (.getfield 82, 3) := by decide +kernel
theorem jd_Mod_about_80 : decode jm_m_Mod_about.2.1 80 = .ok (.iload_n 1, 1) := by decide +kernel
theorem jd_Mod_about_81 : decode jm_m_Mod_about.2.1 81 = .ok (.iaload, 1) := by decide +kernel
theorem jd_Mod_about_82 : decode jm_m_Mod_about.2.1 82 = .ok (.ireturn, 1) := by decide +kernel
theorem jd_Mod_about_83 : decode jm_m_Mod_about.2.1 83 = .ok (.aload_n 0, 1) := by decide +kernel
theorem jd_Mod_about_84 : decode jm_m_Mod_about.2.1 84 = .ok (.invokevirtual 244, 3) := by decide +kernel
theorem jd_Mod_about_87 : decode jm_m_Mod_about.2.1 87 = .ok (.pop, 1) := by decide +kernel
theorem jd_Mod_about_88 : decode jm_m_Mod_about.2.1 88 = .ok (.aload_n 0, 1) := by decide +kernel
theorem jd_Mod_about_89 : decode jm_m_Mod_about.2.1 89 = .ok (.getfield 91, 3) := by decide +kernel
theorem jd_Mod_about_92 : decode jm_m_Mod_about.2.1 92 = .ok (.iload_n 1, 1) := by decide +kernel
theorem jd_Mod_about_93 : decode jm_m_Mod_about.2.1 93 = .ok (.iaload, 1) := by decide +kernel
theorem jd_Mod_about_94 : decode jm_m_Mod_about.2.1 94 = .ok (.ireturn, 1) := by decide +kernel
theorem jd_Mod_about_95 : decode jm_m_Mod_about.2.1 95 = .ok (.bipush (-2), 2) := by decide +kernel
theorem jd_Mod_about_97 : decode jm_m_Mod_about.2.1 97 = .ok (.ireturn, 1) := by decide +kernel
theorem jd_Mod_end_0 : decode jm_m_Mod_end.2.1 0 = .ok (.aload_n 0, 1) := by decide +kernel
theorem jd_Mod_end_1 : decode jm_m_Mod_end.2.1 1 = .ok (.invokevirtual 244, 3) := by decide +kernel
theorem jd_Mod_end_4 : decode jm_m_Mod_end.2.1 4 = .ok (.ireturn, 1) := by decide +kernel
theorem jd_Mod_mustLead_0 : decode jm_m_Mod_mustLead.2.1 0 = .ok (.aload_n 0, 1) := by decide +kernel
theorem jd_Mod_mustLead_1 : decode jm_m_Mod_mustLead.2.1 1 = .ok (.getfield 73, 3) := by decide +kernel
theorem jd_Mod_mustLead_4 : decode jm_m_Mod_mustLead.2.1 4 = .ok (.iload_n 1, 1) := by decide +kernel
theorem jd_Mod_mustLead_5 : decode jm_m_Mod_mustLead.2.1 5 = .ok (.iaload, 1) := by decide +kernel
theorem jd_Mod_mustLead_6 : decode jm_m_Mod_mustLead.2.1 6 = .ok (.aload_n 0, 1) := by decide +kernel
theorem jd_Mod_mustLead_7 : decode jm_m_Mod_mustLead.2.1 7 = .ok (.getfield 73, 3) := by decide +kernel
theorem jd_Mod_mustLead_10 : decode jm_m_Mod_mustLead.2.1 10 = .ok (.iload_n 2, 1) := by decide +kernel
theorem jd_Mod_mustLead_11 : decode jm_m_Mod_mustLead.2.1 11 = .ok (.iaload, 1) := by decide +kernel
theorem jd_Mod_mustLead_12 : decode jm_m_Mod_mustLead.2.1 12 = .ok (.if_icmp .eq 31, 3) := by decide +kernel
theorem jd_Mod_mustLead_15 : decode jm_m_Mod_mustLead.2.1 15 = .ok (.aload_n 0, 1) := by decide +kernel
theorem jd_Mod_mustLead_16 : decode jm_m_Mod_mustLead.2.1 16 = .ok (.iload_n 2, 1) := by decide +kernel
theorem jd_Mod_mustLead_17 : decode jm_m_Mod_mustLead.2.1 17 = .ok (.aload_n 0, 1) := by decide +kernel
theorem jd_Mod_mustLead_18 : decode jm_m_Mod_mustLead.2.1 18 = .ok (.getfield 73, 3) := by decide +kernel
theorem jd_Mod_mustLead_21 : decode jm_m_Mod_mustLead.2.1 21 = .ok (.iload_n 1, 1) := by decide +kernel
theorem jd_Mod_mustLead_22 : decode jm_m_Mod_mustLead.2.1 22 = .ok (.iaload, 1) := by decide +kernel
theorem jd_Mod_mustLead_23 : decode jm_m_Mod_mustLead.2.1 23 = .ok (.invokevirtual 234, 3) := by decide +kernel
theorem jd_Mod_mustLead_26 : decode jm_m_Mod_mustLead.2.1 26 = .ok (.ifCond .ne 17, 3) := by decide +kernel
theorem jd_Mod_mustLead_29 : decode jm_m_Mod_mustLead.2.1 29 = .ok (.aload_n 0, 1) := by decide +kernel
theorem jd_Mod_mustLead_30 : decode jm_m_Mod_mustLead.2.1 30 = .ok (.iload_n 1, 1) := by decide +kernel
theorem jd_Mod_mustLead_31 : decode jm_m_Mod_mustLead.2.1 31 = .ok (.aload_n 0, 1) := by decide +kernel
theorem jd_Mod_mustLead_32 : decode jm_m_Mod_mustLead.2.1 32 = .ok (.getfield 73, 3) := by decide +kernel
theorem jd_Mod_mustLead_35 : decode jm_m_Mod_mustLead.2.1 35 = .ok (.iload_n 2, 1) := by decide +kernel
theorem jd_Mod_mustLead_36 : decode jm_m_Mod_mustLead.2.1 36 = .ok (.iaload, 1) := by decide +kernel
theorem jd_Mod_mustLead_37 : decode jm_m_Mod_mustLead.2.1 37 = .ok (.invokevirtual 234, 3) := by decide +kernel
theorem jd_Mod_mustLead_40 : decode jm_m_Mod_mustLead.2.1 40 = .ok (.ifCond .eq 7, 3) := by decide +kernel
theorem jd_Mod_mustLead_43 : decode jm_m_Mod_mustLead.2.1 43 = .ok (.iconst 1, 1) := by decide +kernel
theorem jd_Mod_mustLead_44 : decode jm_m_Mod_mustLead.2.1 44 = .ok (.goto 4, 3) := by decide +kernel
theorem jd_Mod_mustLead_47 : decode jm_m_Mod_mustLead.2.1 47 = .ok (.iconst 0, 1) := by decide +kernel
theorem jd_Mod_mustLead_48 : decode jm_m_Mod_mustLead.2.1 48 = .ok (.ireturn, 1) := by decide +kernel
theorem jd_Mod_ahead_0 : decode jm_m_Mod_ahead.2.1 0 = .ok (.aload_n 0, 1) := by decide +kernel
theorem jd_Mod_ahead_1 : decode jm_m_Mod_ahead.2.1 1 = .ok (.iload_n 1, 1) := by decide +kernel
theorem jd_Mod_ahead_2 : decode jm_m_Mod_ahead.2.1 2 = .ok (.invokevirtual 241, 3) := by decide +kernel
theorem jd_Mod_ahead_5 : decode jm_m_Mod_ahead.2.1 5 = .ok (.ifCond .eq 11, 3) := by decide +kernel
theorem jd_Mod_ahead_8 : decode jm_m_Mod_ahead.2.1 8 = .ok (.aload_n 0, 1) := by decide +kernel
theorem jd_Mod_ahead_9 : decode jm_m_Mod_ahead.2.1 9 = .ok (.iload_n 2, 1) := by decide +kernel
theorem jd_Mod_ahead_10 : decode jm_m_Mod_ahead.2.1 10 = .ok (.invokevirtual 241, 3) := by decide +kernel
theorem jd_Mod_ahead_13 : decode jm_m_Mod_ahead.2.1 13 = .ok (.ifCond .ne 5, 3) := by decide +kernel
theorem jd_Mod_ahead_16 : decode jm_m_Mod_ahead.2.1 16 = .ok (.iconst (-1), 1) := by decide +kernel
theorem jd_Mod_ahead_17 : decode jm_m_Mod_ahead.2.1 17 = .ok (.ireturn, 1) := by decide +kernel
theorem jd_Mod_ahead_18 : decode jm_m_Mod_ahead.2.1 18 = .ok (.iload_n 1, 1) := by decide +kernel
theorem jd_Mod_ahead_19 : decode jm_m_Mod_ahead.2.1 19 = .ok (.iload_n 2, 1) := by decide +kernel
theorem jd_Mod_ahead_20 : decode jm_m_Mod_ahead.2.1 20 = .ok (.if_icmp .lt 8, 3) := by decide +kernel
theorem jd_Mod_ahead_23 : decode jm_m_Mod_ahead.2.1 23 = .ok (.bipush (-2), 2) := by decide +kernel
theorem jd_Mod_ahead_25 : decode jm_m_Mod_ahead.2.1 25 = .ok (.goto 17, 3) := by decide +kernel
theorem jd_Mod_ahead_28 : decode jm_m_Mod_ahead.2.1 28 = .ok (.aload_n 0, 1) := by decide +kernel
theorem jd_Mod_ahead_29 : decode jm_m_Mod_ahead.2.1 29 = .ok (.iload_n 1, 1) := by decide +kernel
theorem jd_Mod_ahead_30 : decode jm_m_Mod_ahead.2.1 30 = .ok (.iload_n 2, 1) := by decide +kernel
theorem jd_Mod_ahead_31 : decode jm_m_Mod_ahead.2.1 31 = .ok (.invokevirtual 248, 3) := by decide +kernel
theorem jd_Mod_ahead_34 : decode jm_m_Mod_ahead.2.1 34 = .ok (.ifCond .eq 7, 3) := by decide +kernel
theorem jd_Mod_ahead_37 : decode jm_m_Mod_ahead.2.1 37 = .ok (.iconst 1, 1) := by decide +kernel
theorem jd_Mod_ahead_38 : decode jm_m_Mod_ahead.2.1 38 = .ok (.goto 4, 3) := by decide +kernel
theorem jd_Mod_ahead_41 : decode jm_m_Mod_ahead.2.1 41 = .ok (.iconst 0, 1) := by decide +kernel
theorem jd_Mod_ahead_42 : decode jm_m_Mod_ahead.2.1 42 = .ok (.ireturn, 1) := by decide +kernel
theorem jd_Mod_mayStand_0 : decode jm_m_Mod_mayStand.2.1 0 = .ok (.iconst 0, 1) := by decide +kernel
theorem jd_Mod_mayStand_1 : decode jm_m_Mod_mayStand.2.1 1 = .ok (.istore_n 3, 1) := by decide +kernel
theorem jd_Mod_mayStand_2 : decode jm_m_Mod_mayStand.2.1 2 = .ok (.iload_n 3, 1) := by decide +kernel
theorem jd_Mod_mayStand_3 : decode jm_m_Mod_mayStand.2.1 3 = .ok (.iload_n 2, 1) := by decide +kernel
theorem jd_Mod_mayStand_4 : decode jm_m_Mod_mayStand.2.1 4 = .ok (.if_icmp .ge 21, 3) := by decide +kernel
theorem jd_Mod_mayStand_7 : decode jm_m_Mod_mayStand.2.1 7 = .ok (.aload_n 0, 1) := by decide +kernel
theorem jd_Mod_mayStand_8 : decode jm_m_Mod_mayStand.2.1 8 = .ok (.getfield 88, 3) := by decide +kernel
theorem jd_Mod_mayStand_11 : decode jm_m_Mod_mayStand.2.1 11 = .ok (.iload_n 3, 1) := by decide +kernel
theorem jd_Mod_mayStand_12 : decode jm_m_Mod_mayStand.2.1 12 = .ok (.iaload, 1) := by decide +kernel
theorem jd_Mod_mayStand_13 : decode jm_m_Mod_mayStand.2.1 13 = .ok (.iload_n 1, 1) := by decide +kernel
theorem jd_Mod_mayStand_14 : decode jm_m_Mod_mayStand.2.1 14 = .ok (.if_icmp .ne 5, 3) := by decide +kernel
theorem jd_Mod_mayStand_17 : decode jm_m_Mod_mayStand.2.1 17 = .ok (.iconst 0, 1) := by decide +kernel
theorem jd_Mod_mayStand_18 : decode jm_m_Mod_mayStand.2.1 18 = .ok (.ireturn, 1) := by decide +kernel
theorem jd_Mod_mayStand_19 : decode jm_m_Mod_mayStand.2.1 19 = .ok (.iinc 3 1, 3) := by decide +kernel
theorem jd_Mod_mayStand_22 : decode jm_m_Mod_mayStand.2.1 22 = .ok (.goto (-20), 3) := by decide +kernel
theorem jd_Mod_mayStand_25 : decode jm_m_Mod_mayStand.2.1 25 = .ok (.iconst 0, 1) := by decide +kernel
theorem jd_Mod_mayStand_26 : decode jm_m_Mod_mayStand.2.1 26 = .ok (.istore_n 3, 1) := by decide +kernel
theorem jd_Mod_mayStand_27 : decode jm_m_Mod_mayStand.2.1 27 = .ok (.iload_n 3, 1) := by decide +kernel
theorem jd_Mod_mayStand_28 : decode jm_m_Mod_mayStand.2.1 28 = .ok (.iload_n 1, 1) := by decide +kernel
theorem jd_Mod_mayStand_29 : decode jm_m_Mod_mayStand.2.1 29 = .ok (.if_icmp .ge 66, 3) := by decide +kernel
theorem jd_Mod_mayStand_32 : decode jm_m_Mod_mayStand.2.1 32 = .ok (.iconst 0, 1) := by decide +kernel
theorem jd_Mod_mayStand_33 : decode jm_m_Mod_mayStand.2.1 33 = .ok (.istore 4, 2) := by decide +kernel
theorem jd_Mod_mayStand_35 : decode jm_m_Mod_mayStand.2.1 35 = .ok (.iconst 0, 1) := by decide +kernel
theorem jd_Mod_mayStand_36 : decode jm_m_Mod_mayStand.2.1 36 = .ok (.istore 5, 2) := by decide +kernel
theorem jd_Mod_mayStand_38 : decode jm_m_Mod_mayStand.2.1 38 = .ok (.iload 5, 2) := by decide +kernel
theorem jd_Mod_mayStand_40 : decode jm_m_Mod_mayStand.2.1 40 = .ok (.iload_n 2, 1) := by decide +kernel
theorem jd_Mod_mayStand_41 : decode jm_m_Mod_mayStand.2.1 41 = .ok (.if_icmp .ge 32, 3) := by decide +kernel
theorem jd_Mod_mayStand_44 : decode jm_m_Mod_mayStand.2.1 44 = .ok (.iload 4, 2) := by decide +kernel
theorem jd_Mod_mayStand_46 : decode jm_m_Mod_mayStand.2.1 46 = .ok (.ifCond .ne 14, 3) := by decide +kernel
theorem jd_Mod_mayStand_49 : decode jm_m_Mod_mayStand.2.1 49 = .ok (.aload_n 0, 1) := by decide +kernel
theorem jd_Mod_mayStand_50 : decode jm_m_Mod_mayStand.2.1 50 = .ok (.getfield 88, 3) := by decide +kernel
theorem jd_Mod_mayStand_53 : decode jm_m_Mod_mayStand.2.1 53 = .ok (.iload 5, 2) := by decide +kernel
theorem jd_Mod_mayStand_55 : decode jm_m_Mod_mayStand.2.1 55 = .ok (.iaload, 1) := by decide +kernel
theorem jd_Mod_mayStand_56 : decode jm_m_Mod_mayStand.2.1 56 = .ok (.iload_n 3, 1) := by decide +kernel
theorem jd_Mod_mayStand_57 : decode jm_m_Mod_mayStand.2.1 57 = .ok (.if_icmp .ne 7, 3) := by decide +kernel
theorem jd_Mod_mayStand_60 : decode jm_m_Mod_mayStand.2.1 60 = .ok (.iconst 1, 1) := by decide +kernel
theorem jd_Mod_mayStand_61 : decode jm_m_Mod_mayStand.2.1 61 = .ok (.goto 4, 3) := by decide +kernel
theorem jd_Mod_mayStand_64 : decode jm_m_Mod_mayStand.2.1 64 = .ok (.iconst 0, 1) := by decide +kernel
theorem jd_Mod_mayStand_65 : decode jm_m_Mod_mayStand.2.1 65 = .ok (.istore 4, 2) := by decide +kernel
theorem jd_Mod_mayStand_67 : decode jm_m_Mod_mayStand.2.1 67 = .ok (.iinc 5 1, 3) := by decide +kernel
theorem jd_Mod_mayStand_70 : decode jm_m_Mod_mayStand.2.1 70 = .ok (.goto (-32), 3) := by decide +kernel
theorem jd_Mod_mayStand_73 : decode jm_m_Mod_mayStand.2.1 73 = .ok (.iload 4, 2) := by decide +kernel
theorem jd_Mod_mayStand_75 : decode jm_m_Mod_mayStand.2.1 75 = .ok (.ifCond .ne 14, 3) := by decide +kernel
theorem jd_Mod_mayStand_78 : decode jm_m_Mod_mayStand.2.1 78 = .ok (.aload_n 0, 1) := by decide +kernel
theorem jd_Mod_mayStand_79 : decode jm_m_Mod_mayStand.2.1 79 = .ok (.iload_n 3, 1) := by decide +kernel
theorem jd_Mod_mayStand_80 : decode jm_m_Mod_mayStand.2.1 80 = .ok (.iload_n 1, 1) := by decide +kernel
theorem jd_Mod_mayStand_81 : decode jm_m_Mod_mayStand.2.1 81 = .ok (.invokevirtual 248, 3) := by decide +kernel
theorem jd_Mod_mayStand_84 : decode jm_m_Mod_mayStand.2.1 84 = .ok (.ifCond .eq 5, 3) := by decide +kernel
theorem jd_Mod_mayStand_87 : decode jm_m_Mod_mayStand.2.1 87 = .ok (.iconst 0, 1) := by decide +kernel
theorem jd_Mod_mayStand_88 : decode jm_m_Mod_mayStand.2.1 88 = .ok (.ireturn, 1) := by decide +kernel
theorem jd_Mod_mayStand_89 : decode jm_m_Mod_mayStand.2.1 89 = .ok (.iinc 3 1, 3) := by decide +kernel
theorem jd_Mod_mayStand_92 : decode jm_m_Mod_mayStand.2.1 92 = .ok (.goto (-65), 3) := by decide +kernel
theorem jd_Mod_mayStand_95 : decode jm_m_Mod_mayStand.2.1 95 = .ok (.iconst 1, 1) := by decide +kernel
theorem jd_Mod_mayStand_96 : decode jm_m_Mod_mayStand.2.1 96 = .ok (.ireturn, 1) := by decide +kernel
theorem jd_Mod_leastEnd_0 : decode jm_m_Mod_leastEnd.2.1 0 = .ok (.aload_n 0, 1) := by decide +kernel
theorem jd_Mod_leastEnd_1 : decode jm_m_Mod_leastEnd.2.1 1 = .ok (.getfield 97, 3) := by decide +kernel
theorem jd_Mod_leastEnd_4 : decode jm_m_Mod_leastEnd.2.1 4 = .ok (.iload_n 1, 1) := by decide +kernel
theorem jd_Mod_leastEnd_5 : decode jm_m_Mod_leastEnd.2.1 5 = .ok (.iaload, 1) := by decide +kernel
theorem jd_Mod_leastEnd_6 : decode jm_m_Mod_leastEnd.2.1 6 = .ok (.istore_n 2, 1) := by decide +kernel
theorem jd_Mod_leastEnd_7 : decode jm_m_Mod_leastEnd.2.1 7 = .ok (.iload_n 1, 1) := by decide +kernel
theorem jd_Mod_leastEnd_8 : decode jm_m_Mod_leastEnd.2.1 8 = .ok (.ifCond .ne 7, 3) := by decide +kernel
theorem jd_Mod_leastEnd_11 : decode jm_m_Mod_leastEnd.2.1 11 = .ok (.iconst (-1), 1) := by decide +kernel
theorem jd_Mod_leastEnd_12 : decode jm_m_Mod_leastEnd.2.1 12 = .ok (.goto 11, 3) := by decide +kernel
theorem jd_Mod_leastEnd_15 : decode jm_m_Mod_leastEnd.2.1 15 = .ok (.aload_n 0, 1) := by decide +kernel
theorem jd_Mod_leastEnd_16 : decode jm_m_Mod_leastEnd.2.1 16 = .ok (.getfield 91, 3) := by decide +kernel
theorem jd_Mod_leastEnd_19 : decode jm_m_Mod_leastEnd.2.1 19 = .ok (.iload_n 1, 1) := by decide +kernel
theorem jd_Mod_leastEnd_20 : decode jm_m_Mod_leastEnd.2.1 20 = .ok (.iconst 1, 1) := by decide +kernel
theorem jd_Mod_leastEnd_21 : decode jm_m_Mod_leastEnd.2.1 21 = .ok (.isub, 1) := by decide +kernel
theorem jd_Mod_leastEnd_22 : decode jm_m_Mod_leastEnd.2.1 22 = .ok (.iaload, 1) := by decide +kernel
theorem jd_Mod_leastEnd_23 : decode jm_m_Mod_leastEnd.2.1 23 = .ok (.istore_n 3, 1) := by decide +kernel
theorem jd_Mod_leastEnd_24 : decode jm_m_Mod_leastEnd.2.1 24 = .ok (.iconst 5, 1) := by decide +kernel
theorem jd_Mod_leastEnd_25 : decode jm_m_Mod_leastEnd.2.1 25 = .ok (.istore 4, 2) := by decide +kernel
theorem jd_Mod_leastEnd_27 : decode jm_m_Mod_leastEnd.2.1 27 = .ok (.iload 4, 2) := by decide +kernel
theorem jd_Mod_leastEnd_29 : decode jm_m_Mod_leastEnd.2.1 29 = .ok (.ifCond .le 106, 3) := by decide +kernel
theorem jd_Mod_leastEnd_32 : decode jm_m_Mod_leastEnd.2.1 32 = .ok (.iconst 0, 1) := by decide +kernel
theorem jd_Mod_leastEnd_33 : decode jm_m_Mod_leastEnd.2.1 33 = .ok (.istore 5, 2) := by decide +kernel
theorem jd_Mod_leastEnd_35 : decode jm_m_Mod_leastEnd.2.1 35 = .ok (.iload 5, 2) := by decide +kernel
theorem jd_Mod_leastEnd_37 : decode jm_m_Mod_leastEnd.2.1 37 = .ok (.aload_n 0, 1) := by decide +kernel
theorem jd_Mod_leastEnd_38 : decode jm_m_Mod_leastEnd.2.1 38 = .ok (.getfield 231, 3) := by decide +kernel
theorem jd_Mod_leastEnd_41 : decode jm_m_Mod_leastEnd.2.1 41 = .ok (.if_icmp .ge 88, 3) := by decide +kernel
theorem jd_Mod_leastEnd_44 : decode jm_m_Mod_leastEnd.2.1 44 = .ok (.iconst 0, 1) := by decide +kernel
theorem jd_Mod_leastEnd_45 : decode jm_m_Mod_leastEnd.2.1 45 = .ok (.istore 6, 2) := by decide +kernel
theorem jd_Mod_leastEnd_47 : decode jm_m_Mod_leastEnd.2.1 47 = .ok (.iconst 0, 1) := by decide +kernel
theorem jd_Mod_leastEnd_48 : decode jm_m_Mod_leastEnd.2.1 48 = .ok (.istore 7, 2) := by decide +kernel
theorem jd_Mod_leastEnd_50 : decode jm_m_Mod_leastEnd.2.1 50 = .ok (.iload 7, 2) := by decide +kernel
theorem jd_Mod_leastEnd_52 : decode jm_m_Mod_leastEnd.2.1 52 = .ok (.iload_n 1, 1) := by decide +kernel
theorem jd_Mod_leastEnd_53 : decode jm_m_Mod_leastEnd.2.1 53 = .ok (.if_icmp .ge 33, 3) := by decide +kernel
theorem jd_Mod_leastEnd_56 : decode jm_m_Mod_leastEnd.2.1 56 = .ok (.iload 6, 2) := by decide +kernel
theorem jd_Mod_leastEnd_58 : decode jm_m_Mod_leastEnd.2.1 58 = .ok (.ifCond .ne 15, 3) := by decide +kernel
theorem jd_Mod_leastEnd_61 : decode jm_m_Mod_leastEnd.2.1 61 = .ok (.aload_n 0, 1) := by decide +kernel
theorem jd_Mod_leastEnd_62 : decode jm_m_Mod_leastEnd.2.1 62 = .ok (.getfield 88, 3) := by decide +kernel
theorem jd_Mod_leastEnd_65 : decode jm_m_Mod_leastEnd.2.1 65 = .ok (.iload 7, 2) := by decide +kernel
theorem jd_Mod_leastEnd_67 : decode jm_m_Mod_leastEnd.2.1 67 = .ok (.iaload, 1) := by decide +kernel
theorem jd_Mod_leastEnd_68 : decode jm_m_Mod_leastEnd.2.1 68 = .ok (.iload 5, 2) := by decide +kernel
theorem jd_Mod_leastEnd_70 : decode jm_m_Mod_leastEnd.2.1 70 = .ok (.if_icmp .ne 7, 3) := by decide +kernel
theorem jd_Mod_leastEnd_73 : decode jm_m_Mod_leastEnd.2.1 73 = .ok (.iconst 1, 1) := by decide +kernel
theorem jd_Mod_leastEnd_74 : decode jm_m_Mod_leastEnd.2.1 74 = .ok (.goto 4, 3) := by decide +kernel
theorem jd_Mod_leastEnd_77 : decode jm_m_Mod_leastEnd.2.1 77 = .ok (.iconst 0, 1) := by decide +kernel
theorem jd_Mod_leastEnd_78 : decode jm_m_Mod_leastEnd.2.1 78 = .ok (.istore 6, 2) := by decide +kernel
theorem jd_Mod_leastEnd_80 : decode jm_m_Mod_leastEnd.2.1 80 = .ok (.iinc 7 1, 3) := by decide +kernel
theorem jd_Mod_leastEnd_83 : decode jm_m_Mod_leastEnd.2.1 83 = .ok (.goto (-33), 3) := by decide +kernel
theorem jd_Mod_leastEnd_86 : decode jm_m_Mod_leastEnd.2.1 86 = .ok (.iload 6, 2) := by decide +kernel
theorem jd_Mod_leastEnd_88 : decode jm_m_Mod_leastEnd.2.1 88 = .ok (.ifCond .ne 35, 3) := by decide +kernel
theorem jd_Mod_leastEnd_91 : decode jm_m_Mod_leastEnd.2.1 91 = .ok (.aload_n 0, 1) := by decide +kernel
theorem jd_Mod_leastEnd_92 : decode jm_m_Mod_leastEnd.2.1 92 = .ok (.getfield 82, 3) := by decide +kernel
theorem jd_Mod_leastEnd_95 : decode jm_m_Mod_leastEnd.2.1 95 = .ok (.iload 5, 2) := by decide +kernel
theorem jd_Mod_leastEnd_97 : decode jm_m_Mod_leastEnd.2.1 97 = .ok (.iaload, 1) := by decide +kernel
theorem jd_Mod_leastEnd_98 : decode jm_m_Mod_leastEnd.2.1 98 = .ok (.iload 4, 2) := by decide +kernel
theorem jd_Mod_leastEnd_100 : decode jm_m_Mod_leastEnd.2.1 100 = .ok (.if_icmp .ne 23, 3) := by decide +kernel
theorem jd_Mod_leastEnd_103 : decode jm_m_Mod_leastEnd.2.1 103 = .ok (.iinc 3 1, 3) := by decide +kernel
theorem jd_Mod_leastEnd_106 : decode jm_m_Mod_leastEnd.2.1 106 = .ok (.iload_n 3, 1) := by decide +kernel
theorem jd_Mod_leastEnd_107 : decode jm_m_Mod_leastEnd.2.1 107 = .ok (.iload 4, 2) := by decide +kernel
theorem jd_Mod_leastEnd_109 : decode jm_m_Mod_leastEnd.2.1 109 = .ok (.iadd, 1) := by decide +kernel
theorem jd_Mod_leastEnd_110 : decode jm_m_Mod_leastEnd.2.1 110 = .ok (.iload_n 2, 1) := by decide +kernel
theorem jd_Mod_leastEnd_111 : decode jm_m_Mod_leastEnd.2.1 111 = .ok (.if_icmp .le 10, 3) := by decide +kernel
theorem jd_Mod_leastEnd_114 : decode jm_m_Mod_leastEnd.2.1 114 = .ok (.iload_n 3, 1) := by decide +kernel
theorem jd_Mod_leastEnd_115 : decode jm_m_Mod_leastEnd.2.1 115 = .ok (.iload 4, 2) := by decide +kernel
theorem jd_Mod_leastEnd_117 : decode jm_m_Mod_leastEnd.2.1 117 = .ok (.iadd, 1) := by decide +kernel
theorem jd_Mod_leastEnd_118 : decode jm_m_Mod_leastEnd.2.1 118 = .ok (.goto 4, 3) := by decide +kernel
theorem jd_Mod_leastEnd_121 : decode jm_m_Mod_leastEnd.2.1 121 = .ok (.iload_n 2, 1) := by decide +kernel
theorem jd_Mod_leastEnd_122 : decode jm_m_Mod_leastEnd.2.1 122 = .ok (.istore_n 2, 1) := by decide +kernel
theorem jd_Mod_leastEnd_123 : decode jm_m_Mod_leastEnd.2.1 123 = .ok (.iinc 5 1, 3) := by decide +kernel
theorem jd_Mod_leastEnd_126 : decode jm_m_Mod_leastEnd.2.1 126 = .ok (.goto (-91), 3) := by decide +kernel
theorem jd_Mod_leastEnd_129 : decode jm_m_Mod_leastEnd.2.1 129 = .ok (.iinc 4 (-1), 3) := by decide +kernel
theorem jd_Mod_leastEnd_132 : decode jm_m_Mod_leastEnd.2.1 132 = .ok (.goto (-105), 3) := by decide +kernel
theorem jd_Mod_leastEnd_135 : decode jm_m_Mod_leastEnd.2.1 135 = .ok (.iload_n 2, 1) := by decide +kernel
theorem jd_Mod_leastEnd_136 : decode jm_m_Mod_leastEnd.2.1 136 = .ok (.ireturn, 1) := by decide +kernel
theorem jd_Mod_findBest_0 : decode jm_m_Mod_findBest.2.1 0 = .ok (.aload_n 0, 1) := by decide +kernel
theorem jd_Mod_findBest_1 : decode jm_m_Mod_findBest.2.1 1 = .ok (.ldc 192, 2) := by decide +kernel
theorem jd_Mod_findBest_3 : decode jm_m_Mod_findBest.2.1 3 = .ok (.putfield 251, 3) := by decide +kernel
theorem jd_Mod_findBest_6 : decode jm_m_Mod_findBest.2.1 6 = .ok (.aload_n 0, 1) := by decide +kernel
theorem jd_Mod_findBest_7 : decode jm_m_Mod_findBest.2.1 7 = .ok (.getfield 97, 3) := by decide +kernel
theorem jd_Mod_findBest_10 : decode jm_m_Mod_findBest.2.1 10 = .ok (.iconst 0, 1) := by decide +kernel
theorem jd_Mod_findBest_11 : decode jm_m_Mod_findBest.2.1 11 = .ok (.iconst 0, 1) := by decide +kernel
theorem jd_Mod_findBest_12 : decode jm_m_Mod_findBest.2.1 12 = .ok (.iastore, 1) := by decide +kernel
theorem jd_Mod_findBest_13 : decode jm_m_Mod_findBest.2.1 13 = .ok (.iconst 0, 1) := by decide +kernel
theorem jd_Mod_findBest_14 : decode jm_m_Mod_findBest.2.1 14 = .ok (.istore_n 1, 1) := by decide +kernel
theorem jd_Mod_findBest_15 : decode jm_m_Mod_findBest.2.1 15 = .ok (.iconst 0, 1) := by decide +kernel
theorem jd_Mod_findBest_16 : decode jm_m_Mod_findBest.2.1 16 = .ok (.istore_n 2, 1) := by decide +kernel
theorem jd_Mod_findBest_17 : decode jm_m_Mod_findBest.2.1 17 = .ok (.iload_n 1, 1) := by decide +kernel
theorem jd_Mod_findBest_18 : decode jm_m_Mod_findBest.2.1 18 = .ok (.ifCond .lt 241, 3) := by decide +kernel
theorem jd_Mod_findBest_21 : decode jm_m_Mod_findBest.2.1 21 = .ok (.iload_n 1, 1) := by decide +kernel
theorem jd_Mod_findBest_22 : decode jm_m_Mod_findBest.2.1 22 = .ok (.aload_n 0, 1) := by decide +kernel
theorem jd_Mod_findBest_23 : decode jm_m_Mod_findBest.2.1 23 = .ok (.getfield 231, 3) := by decide +kernel
theorem jd_Mod_findBest_26 : decode jm_m_Mod_findBest.2.1 26 = .ok (.if_icmp .ne 64, 3) := by decide +kernel
theorem jd_Mod_findBest_29 : decode jm_m_Mod_findBest.2.1 29 = .ok (.aload_n 0, 1) := by decide +kernel
theorem jd_Mod_findBest_30 : decode jm_m_Mod_findBest.2.1 30 = .ok (.aload_n 0, 1) := by decide +kernel
theorem jd_Mod_findBest_31 : decode jm_m_Mod_findBest.2.1 31 = .ok (.getfield 97, 3) := by decide +kernel
theorem jd_Mod_findBest_34 : decode jm_m_Mod_findBest.2.1 34 = .ok (.iload_n 1, 1) := by decide +kernel
theorem jd_Mod_findBest_35 : decode jm_m_Mod_findBest.2.1 35 = .ok (.iaload, 1) := by decide +kernel
theorem jd_Mod_findBest_36 : decode jm_m_Mod_findBest.2.1 36 = .ok (.putfield 251, 3) := by decide +kernel
theorem jd_Mod_findBest_39 : decode jm_m_Mod_findBest.2.1 39 = .ok (.iconst 0, 1) := by decide +kernel
theorem jd_Mod_findBest_40 : decode jm_m_Mod_findBest.2.1 40 = .ok (.istore_n 3, 1) := by decide +kernel
theorem jd_Mod_findBest_41 : decode jm_m_Mod_findBest.2.1 41 = .ok (.iload_n 3, 1) := by decide +kernel
theorem jd_Mod_findBest_42 : decode jm_m_Mod_findBest.2.1 42 = .ok (.aload_n 0, 1) := by decide +kernel
theorem jd_Mod_findBest_43 : decode jm_m_Mod_findBest.2.1 43 = .ok (.getfield 231, 3) := by decide +kernel
theorem jd_Mod_findBest_46 : decode jm_m_Mod_findBest.2.1 46 = .ok (.if_icmp .ge 21, 3) := by decide +kernel
theorem jd_Mod_findBest_49 : decode jm_m_Mod_findBest.2.1 49 = .ok (.aload_n 0, 1) := by decide +kernel
theorem jd_Mod_findBest_50 : decode jm_m_Mod_findBest.2.1 50 = .ok (.getfield 94, 3) := by decide +kernel
theorem jd_Mod_findBest_53 : decode jm_m_Mod_findBest.2.1 53 = .ok (.iload_n 3, 1) := by decide +kernel
theorem jd_Mod_findBest_54 : decode jm_m_Mod_findBest.2.1 54 = .ok (.aload_n 0, 1) := by decide +kernel
theorem jd_Mod_findBest_55 : decode jm_m_Mod_findBest.2.1 55 = .ok (.getfield 88, 3) := by decide +kernel
theorem jd_Mod_findBest_58 : decode jm_m_Mod_findBest.2.1 58 = .ok (.iload_n 3, 1) := by decide +kernel
theorem jd_Mod_findBest_59 : decode jm_m_Mod_findBest.2.1 59 = .ok (.iaload, 1) := by decide +kernel
theorem jd_Mod_findBest_60 : decode jm_m_Mod_findBest.2.1 60 = .ok (.iastore, 1) := by decide +kernel
theorem jd_Mod_findBest_61 : decode jm_m_Mod_findBest.2.1 61 = .ok (.iinc 3 1, 3) := by decide +kernel
theorem jd_Mod_findBest_64 : decode jm_m_Mod_findBest.2.1 64 = .ok (.goto (-23), 3) := by decide +kernel
theorem jd_Mod_findBest_67 : decode jm_m_Mod_findBest.2.1 67 = .ok (.iinc 1 (-1), 3) := by decide +kernel
theorem jd_Mod_findBest_70 : decode jm_m_Mod_findBest.2.1 70 = .ok (.iload_n 1, 1) := by decide +kernel
theorem jd_Mod_findBest_71 : decode jm_m_Mod_findBest.2.1 71 = .ok (.ifCond .ge 7, 3) := by decide +kernel
theorem jd_Mod_findBest_74 : decode jm_m_Mod_findBest.2.1 74 = .ok (.iconst 0, 1) := by decide +kernel
theorem jd_Mod_findBest_75 : decode jm_m_Mod_findBest.2.1 75 = .ok (.goto 11, 3) := by decide +kernel
theorem jd_Mod_findBest_78 : decode jm_m_Mod_findBest.2.1 78 = .ok (.aload_n 0, 1) := by decide +kernel
theorem jd_Mod_findBest_79 : decode jm_m_Mod_findBest.2.1 79 = .ok (.getfield 88, 3) := by decide +kernel
theorem jd_Mod_findBest_82 : decode jm_m_Mod_findBest.2.1 82 = .ok (.iload_n 1, 1) := by decide +kernel
theorem jd_Mod_findBest_83 : decode jm_m_Mod_findBest.2.1 83 = .ok (.iaload, 1) := by decide +kernel
theorem jd_Mod_findBest_84 : decode jm_m_Mod_findBest.2.1 84 = .ok (.iconst 1, 1) := by decide +kernel
theorem jd_Mod_findBest_85 : decode jm_m_Mod_findBest.2.1 85 = .ok (.iadd, 1) := by decide +kernel
theorem jd_Mod_findBest_86 : decode jm_m_Mod_findBest.2.1 86 = .ok (.istore_n 2, 1) := by decide +kernel
theorem jd_Mod_findBest_87 : decode jm_m_Mod_findBest.2.1 87 = .ok (.goto (-70), 3) := by decide +kernel
theorem jd_Mod_findBest_90 : decode jm_m_Mod_findBest.2.1 90 = .ok (.iload_n 2, 1) := by decide +kernel
theorem jd_Mod_findBest_91 : decode jm_m_Mod_findBest.2.1 91 = .ok (.istore_n 3, 1) := by decide +kernel
theorem jd_Mod_findBest_92 : decode jm_m_Mod_findBest.2.1 92 = .ok (.iload_n 3, 1) := by decide +kernel
theorem jd_Mod_findBest_93 : decode jm_m_Mod_findBest.2.1 93 = .ok (.aload_n 0, 1) := by decide +kernel
theorem jd_Mod_findBest_94 : decode jm_m_Mod_findBest.2.1 94 = .ok (.getfield 231, 3) := by decide +kernel
theorem jd_Mod_findBest_97 : decode jm_m_Mod_findBest.2.1 97 = .ok (.if_icmp .ge 18, 3) := by decide +kernel
theorem jd_Mod_findBest_100 : decode jm_m_Mod_findBest.2.1 100 = .ok (.aload_n 0, 1) := by decide +kernel
theorem jd_Mod_findBest_101 : decode jm_m_Mod_findBest.2.1 101 = .ok (.iload_n 3, 1) := by decide +kernel
theorem jd_Mod_findBest_102 : decode jm_m_Mod_findBest.2.1 102 = .ok (.iload_n 1, 1) := by decide +kernel
theorem jd_Mod_findBest_103 : decode jm_m_Mod_findBest.2.1 103 = .ok (.invokevirtual 254, 3) := by decide +kernel
theorem jd_Mod_findBest_106 : decode jm_m_Mod_findBest.2.1 106 = .ok (.ifCond .ne 9, 3) := by decide +kernel
theorem jd_Mod_findBest_109 : decode jm_m_Mod_findBest.2.1 109 = .ok (.iinc 3 1, 3) := by decide +kernel
theorem jd_Mod_findBest_112 : decode jm_m_Mod_findBest.2.1 112 = .ok (.goto (-20), 3) := by decide +kernel
theorem jd_Mod_findBest_115 : decode jm_m_Mod_findBest.2.1 115 = .ok (.iload_n 3, 1) := by decide +kernel
theorem jd_Mod_findBest_116 : decode jm_m_Mod_findBest.2.1 116 = .ok (.aload_n 0, 1) := by decide +kernel
theorem jd_Mod_findBest_117 : decode jm_m_Mod_findBest.2.1 117 = .ok (.getfield 231, 3) := by decide +kernel
theorem jd_Mod_findBest_120 : decode jm_m_Mod_findBest.2.1 120 = .ok (.if_icmp .ne 26, 3) := by decide +kernel
theorem jd_Mod_findBest_123 : decode jm_m_Mod_findBest.2.1 123 = .ok (.iinc 1 (-1), 3) := by decide +kernel
theorem jd_Mod_findBest_126 : decode jm_m_Mod_findBest.2.1 126 = .ok (.iload_n 1, 1) := by decide +kernel
theorem jd_Mod_findBest_127 : decode jm_m_Mod_findBest.2.1 127 = .ok (.ifCond .ge 7, 3) := by decide +kernel
theorem jd_Mod_findBest_130 : decode jm_m_Mod_findBest.2.1 130 = .ok (.iconst 0, 1) := by decide +kernel
theorem jd_Mod_findBest_131 : decode jm_m_Mod_findBest.2.1 131 = .ok (.goto 11, 3) := by decide +kernel
theorem jd_Mod_findBest_134 : decode jm_m_Mod_findBest.2.1 134 = .ok (.aload_n 0, 1) := by decide +kernel
theorem jd_Mod_findBest_135 : decode jm_m_Mod_findBest.2.1 135 = .ok (.getfield 88, 3) := by decide +kernel
theorem jd_Mod_findBest_138 : decode jm_m_Mod_findBest.2.1 138 = .ok (.iload_n 1, 1) := by decide +kernel
theorem jd_Mod_findBest_139 : decode jm_m_Mod_findBest.2.1 139 = .ok (.iaload, 1) := by decide +kernel
theorem jd_Mod_findBest_140 : decode jm_m_Mod_findBest.2.1 140 = .ok (.iconst 1, 1) := by decide +kernel
theorem jd_Mod_findBest_141 : decode jm_m_Mod_findBest.2.1 141 = .ok (.iadd, 1) := by decide +kernel
theorem jd_Mod_findBest_142 : decode jm_m_Mod_findBest.2.1 142 = .ok (.istore_n 2, 1) := by decide +kernel
theorem jd_Mod_findBest_143 : decode jm_m_Mod_findBest.2.1 143 = .ok (.goto 113, 3) := by decide +kernel
theorem jd_Mod_findBest_146 : decode jm_m_Mod_findBest.2.1 146 = .ok (.aload_n 0, 1) := by decide +kernel
theorem jd_Mod_findBest_147 : decode jm_m_Mod_findBest.2.1 147 = .ok (.getfield 88, 3) := by decide +kernel
theorem jd_Mod_findBest_150 : decode jm_m_Mod_findBest.2.1 150 = .ok (.iload_n 1, 1) := by decide +kernel
theorem jd_Mod_findBest_151 : decode jm_m_Mod_findBest.2.1 151 = .ok (.iload_n 3, 1) := by decide +kernel
theorem jd_Mod_findBest_152 : decode jm_m_Mod_findBest.2.1 152 = .ok (.iastore, 1) := by decide +kernel
theorem jd_Mod_findBest_153 : decode jm_m_Mod_findBest.2.1 153 = .ok (.aload_n 0, 1) := by decide +kernel
theorem jd_Mod_findBest_154 : decode jm_m_Mod_findBest.2.1 154 = .ok (.getfield 91, 3) := by decide +kernel
theorem jd_Mod_findBest_157 : decode jm_m_Mod_findBest.2.1 157 = .ok (.iload_n 1, 1) := by decide +kernel
theorem jd_Mod_findBest_158 : decode jm_m_Mod_findBest.2.1 158 = .ok (.aload_n 0, 1) := by decide +kernel
theorem jd_Mod_findBest_159 : decode jm_m_Mod_findBest.2.1 159 = .ok (.iload_n 1, 1) := by decide +kernel
theorem jd_Mod_findBest_160 : decode jm_m_Mod_findBest.2.1 160 = .ok (.invokevirtual 238, 3) := by decide +kernel
theorem jd_Mod_findBest_163 : decode jm_m_Mod_findBest.2.1 163 = .ok (.iastore, 1) := by decide +kernel
theorem jd_Mod_findBest_164 : decode jm_m_Mod_findBest.2.1 164 = .ok (.aload_n 0, 1) := by decide +kernel
theorem jd_Mod_findBest_165 : decode jm_m_Mod_findBest.2.1 165 = .ok (.getfield 91, 3) := by decide +kernel
theorem jd_Mod_findBest_168 : decode jm_m_Mod_findBest.2.1 168 = .ok (.iload_n 1, 1) := by decide +kernel
theorem jd_Mod_findBest_169 : decode jm_m_Mod_findBest.2.1 169 = .ok (.iaload, 1) := by decide +kernel
theorem jd_Mod_findBest_170 : decode jm_m_Mod_findBest.2.1 170 = .ok (.aload_n 0, 1) := by decide +kernel
theorem jd_Mod_findBest_171 : decode jm_m_Mod_findBest.2.1 171 = .ok (.getfield 82, 3) := by decide +kernel
theorem jd_Mod_findBest_174 : decode jm_m_Mod_findBest.2.1 174 = .ok (.iload_n 3, 1) := by decide +kernel
theorem jd_Mod_findBest_175 : decode jm_m_Mod_findBest.2.1 175 = .ok (.iaload, 1) := by decide +kernel
theorem jd_Mod_findBest_176 : decode jm_m_Mod_findBest.2.1 176 = .ok (.iadd, 1) := by decide +kernel
theorem jd_Mod_findBest_177 : decode jm_m_Mod_findBest.2.1 177 = .ok (.istore 4, 2) := by decide +kernel
theorem jd_Mod_findBest_179 : decode jm_m_Mod_findBest.2.1 179 = .ok (.aload_n 0, 1) := by decide +kernel
theorem jd_Mod_findBest_180 : decode jm_m_Mod_findBest.2.1 180 = .ok (.getfield 97, 3) := by decide +kernel
theorem jd_Mod_findBest_183 : decode jm_m_Mod_findBest.2.1 183 = .ok (.iload_n 1, 1) := by decide +kernel
theorem jd_Mod_findBest_184 : decode jm_m_Mod_findBest.2.1 184 = .ok (.iconst 1, 1) := by decide +kernel
theorem jd_Mod_findBest_185 : decode jm_m_Mod_findBest.2.1 185 = .ok (.iadd, 1) := by decide +kernel
theorem jd_Mod_findBest_186 : decode jm_m_Mod_findBest.2.1 186 = .ok (.iload 4, 2) := by decide +kernel
theorem jd_Mod_findBest_188 : decode jm_m_Mod_findBest.2.1 188 = .ok (.aload_n 0, 1) := by decide +kernel
theorem jd_Mod_findBest_189 : decode jm_m_Mod_findBest.2.1 189 = .ok (.getfield 97, 3) := by decide +kernel
theorem jd_Mod_findBest_192 : decode jm_m_Mod_findBest.2.1 192 = .ok (.iload_n 1, 1) := by decide +kernel
theorem jd_Mod_findBest_193 : decode jm_m_Mod_findBest.2.1 193 = .ok (.iaload, 1) := by decide +kernel
theorem jd_Mod_findBest_194 : decode jm_m_Mod_findBest.2.1 194 = .ok (.if_icmp .le 8, 3) := by decide +kernel
theorem jd_Mod_findBest_197 : decode jm_m_Mod_findBest.2.1 197 = .ok (.iload 4, 2) := by decide +kernel
theorem jd_Mod_findBest_199 : decode jm_m_Mod_findBest.2.1 199 = .ok (.goto 9, 3) := by decide +kernel
theorem jd_Mod_findBest_202 : decode jm_m_Mod_findBest.2.1 202 = .ok (.aload_n 0, 1) := by decide +kernel
theorem jd_Mod_findBest_203 : decode jm_m_Mod_findBest.2.1 203 = .ok (.getfield 97, 3) := by decide +kernel
