theorem jd_Moves_init_0 : decode jm_m_Moves_init.2.1 0 = .ok (.aload_n 0, 1) := by decide +kernel
theorem jd_Moves_init_1 : decode jm_m_Moves_init.2.1 1 = .ok (.invokespecial 1, 3) := by decide +kernel
theorem jd_Moves_init_4 : decode jm_m_Moves_init.2.1 4 = .ok (.aload_n 0, 1) := by decide +kernel
theorem jd_Moves_init_5 : decode jm_m_Moves_init.2.1 5 = .ok (.bipush 24, 2) := by decide +kernel
theorem jd_Moves_init_7 : decode jm_m_Moves_init.2.1 7 = .ok (.newarray .int, 2) := by decide +kernel
theorem jd_Moves_init_9 : decode jm_m_Moves_init.2.1 9 = .ok (.putfield 9, 3) := by decide +kernel
theorem jd_Moves_init_12 : decode jm_m_Moves_init.2.1 12 = .ok (.aload_n 0, 1) := by decide +kernel
theorem jd_Moves_init_13 : decode jm_m_Moves_init.2.1 13 = .ok (.bipush 24, 2) := by decide +kernel
theorem jd_Moves_init_15 : decode jm_m_Moves_init.2.1 15 = .ok (.newarray .int, 2) := by decide +kernel
theorem jd_Moves_init_17 : decode jm_m_Moves_init.2.1 17 = .ok (.putfield 13, 3) := by decide +kernel
theorem jd_Moves_init_20 : decode jm_m_Moves_init.2.1 20 = .ok (.aload_n 0, 1) := by decide +kernel
theorem jd_Moves_init_21 : decode jm_m_Moves_init.2.1 21 = .ok (.bipush 24, 2) := by decide +kernel
theorem jd_Moves_init_23 : decode jm_m_Moves_init.2.1 23 = .ok (.newarray .int, 2) := by decide +kernel
theorem jd_Moves_init_25 : decode jm_m_Moves_init.2.1 25 = .ok (.putfield 16, 3) := by decide +kernel
theorem jd_Moves_init_28 : decode jm_m_Moves_init.2.1 28 = .ok (.aload_n 0, 1) := by decide +kernel
theorem jd_Moves_init_29 : decode jm_m_Moves_init.2.1 29 = .ok (.bipush 24, 2) := by decide +kernel
theorem jd_Moves_init_31 : decode jm_m_Moves_init.2.1 31 = .ok (.newarray .boolean, 2) := by decide +kernel
theorem jd_Moves_init_33 : decode jm_m_Moves_init.2.1 33 = .ok (.putfield 19, 3) := by decide +kernel
theorem jd_Moves_init_36 : decode jm_m_Moves_init.2.1 36 = .ok (.aload_n 0, 1) := by decide +kernel
theorem jd_Moves_init_37 : decode jm_m_Moves_init.2.1 37 = .ok (.bipush 8, 2) := by decide +kernel
theorem jd_Moves_init_39 : decode jm_m_Moves_init.2.1 39 = .ok (.newarray .int, 2) := by decide +kernel
theorem jd_Moves_init_41 : decode jm_m_Moves_init.2.1 41 = .ok (.putfield 23, 3) := by decide +kernel
theorem jd_Moves_init_44 : decode jm_m_Moves_init.2.1 44 = .ok (.iconst 0, 1) := by decide +kernel
theorem jd_Moves_init_45 : decode jm_m_Moves_init.2.1 45 = .ok (.istore_n 1, 1) := by decide +kernel
theorem jd_Moves_init_46 : decode jm_m_Moves_init.2.1 46 = .ok (.iload_n 1, 1) := by decide +kernel
theorem jd_Moves_init_47 : decode jm_m_Moves_init.2.1 47 = .ok (.bipush 7, 2) := by decide +kernel
theorem jd_Moves_init_49 : decode jm_m_Moves_init.2.1 49 = .ok (.if_icmp .ge 24, 3) := by decide +kernel
theorem jd_Moves_init_52 : decode jm_m_Moves_init.2.1 52 = .ok (.aload_n 0, 1) := by decide +kernel
theorem jd_Moves_init_53 : decode jm_m_Moves_init.2.1 53 = .ok (.getfield 23, 3) := by decide +kernel
theorem jd_Moves_init_56 : decode jm_m_Moves_init.2.1 56 = .ok (.iload_n 1, 1) := by decide +kernel
theorem jd_Moves_init_57 : decode jm_m_Moves_init.2.1 57 = .ok (.aload_n 0, 1) := by decide +kernel
theorem jd_Moves_init_58 : decode jm_m_Moves_init.2.1 58 = .ok (.getfield 26, 3) := by decide +kernel
theorem jd_Moves_init_61 : decode jm_m_Moves_init.2.1 61 = .ok (.iastore, 1) := by decide +kernel
theorem jd_Moves_init_62 : decode jm_m_Moves_init.2.1 62 = .ok (.aload_n 0, 1) := by decide +kernel
theorem jd_Moves_init_63 : decode jm_m_Moves_init.2.1 63 = .ok (.iload_n 1, 1) := by decide +kernel
theorem jd_Moves_init_64 : decode jm_m_Moves_init.2.1 64 = .ok (.invokevirtual 30, 3) := by decide +kernel
theorem jd_Moves_init_67 : decode jm_m_Moves_init.2.1 67 = .ok (.iinc 1 1, 3) := by decide +kernel
theorem jd_Moves_init_70 : decode jm_m_Moves_init.2.1 70 = .ok (.goto (-24), 3) := by decide +kernel
theorem jd_Moves_init_73 : decode jm_m_Moves_init.2.1 73 = .ok (.aload_n 0, 1) := by decide +kernel
theorem jd_Moves_init_74 : decode jm_m_Moves_init.2.1 74 = .ok (.getfield 23, 3) := by decide +kernel
theorem jd_Moves_init_77 : decode jm_m_Moves_init.2.1 77 = .ok (.bipush 7, 2) := by decide +kernel
theorem jd_Moves_init_79 : decode jm_m_Moves_init.2.1 79 = .ok (.aload_n 0, 1) := by decide +kernel
theorem jd_Moves_init_80 : decode jm_m_Moves_init.2.1 80 = .ok (.getfield 26, 3) := by decide +kernel
theorem jd_Moves_init_83 : decode jm_m_Moves_init.2.1 83 = .ok (.iastore, 1) := by decide +kernel
theorem jd_Moves_init_84 : decode jm_m_Moves_init.2.1 84 = .ok (.return_, 1) := by decide +kernel
theorem jd_Moves_listSources_0 : decode jm_m_Moves_listSources.2.1 0 = .ok (.iload_n 1, 1) := by decide +kernel
theorem jd_Moves_listSources_1 : decode jm_m_Moves_listSources.2.1 1 = .ok (.invokestatic 34, 3) := by decide +kernel
theorem jd_Moves_listSources_4 : decode jm_m_Moves_listSources.2.1 4 = .ok (.ifCond .eq 7, 3) := by decide +kernel
theorem jd_Moves_listSources_7 : decode jm_m_Moves_listSources.2.1 7 = .ok (.iconst 3, 1) := by decide +kernel
theorem jd_Moves_listSources_8 : decode jm_m_Moves_listSources.2.1 8 = .ok (.goto 4, 3) := by decide +kernel
theorem jd_Moves_listSources_11 : decode jm_m_Moves_listSources.2.1 11 = .ok (.iconst 1, 1) := by decide +kernel
theorem jd_Moves_listSources_12 : decode jm_m_Moves_listSources.2.1 12 = .ok (.istore_n 2, 1) := by decide +kernel
theorem jd_Moves_listSources_13 : decode jm_m_Moves_listSources.2.1 13 = .ok (.iconst 0, 1) := by decide +kernel
theorem jd_Moves_listSources_14 : decode jm_m_Moves_listSources.2.1 14 = .ok (.istore_n 3, 1) := by decide +kernel
theorem jd_Moves_listSources_15 : decode jm_m_Moves_listSources.2.1 15 = .ok (.iload_n 3, 1) := by decide +kernel
theorem jd_Moves_listSources_16 : decode jm_m_Moves_listSources.2.1 16 = .ok (.iconst 3, 1) := by decide +kernel
theorem jd_Moves_listSources_17 : decode jm_m_Moves_listSources.2.1 17 = .ok (.if_icmp .ge 118, 3) := by decide +kernel
theorem jd_Moves_listSources_20 : decode jm_m_Moves_listSources.2.1 20 = .ok (.iconst 0, 1) := by decide +kernel
theorem jd_Moves_listSources_21 : decode jm_m_Moves_listSources.2.1 21 = .ok (.istore 4, 2) := by decide +kernel
theorem jd_Moves_listSources_23 : decode jm_m_Moves_listSources.2.1 23 = .ok (.iload 4, 2) := by decide +kernel
theorem jd_Moves_listSources_25 : decode jm_m_Moves_listSources.2.1 25 = .ok (.iload_n 2, 1) := by decide +kernel
theorem jd_Moves_listSources_26 : decode jm_m_Moves_listSources.2.1 26 = .ok (.if_icmp .ge 103, 3) := by decide +kernel
theorem jd_Moves_listSources_29 : decode jm_m_Moves_listSources.2.1 29 = .ok (.iload_n 1, 1) := by decide +kernel
theorem jd_Moves_listSources_30 : decode jm_m_Moves_listSources.2.1 30 = .ok (.iload_n 3, 1) := by decide +kernel
theorem jd_Moves_listSources_31 : decode jm_m_Moves_listSources.2.1 31 = .ok (.iload 4, 2) := by decide +kernel
theorem jd_Moves_listSources_33 : decode jm_m_Moves_listSources.2.1 33 = .ok (.invokestatic 40, 3) := by decide +kernel
theorem jd_Moves_listSources_36 : decode jm_m_Moves_listSources.2.1 36 = .ok (.ifCond .eq 87, 3) := by decide +kernel
theorem jd_Moves_listSources_39 : decode jm_m_Moves_listSources.2.1 39 = .ok (.aload_n 0, 1) := by decide +kernel
theorem jd_Moves_listSources_40 : decode jm_m_Moves_listSources.2.1 40 = .ok (.getfield 26, 3) := by decide +kernel
theorem jd_Moves_listSources_43 : decode jm_m_Moves_listSources.2.1 43 = .ok (.bipush 24, 2) := by decide +kernel
theorem jd_Moves_listSources_45 : decode jm_m_Moves_listSources.2.1 45 = .ok (.if_icmp .ge 78, 3) := by decide +kernel
theorem jd_Moves_listSources_48 : decode jm_m_Moves_listSources.2.1 48 = .ok (.aload_n 0, 1) := by decide +kernel
theorem jd_Moves_listSources_49 : decode jm_m_Moves_listSources.2.1 49 = .ok (.getfield 9, 3) := by decide +kernel
theorem jd_Moves_listSources_52 : decode jm_m_Moves_listSources.2.1 52 = .ok (.aload_n 0, 1) := by decide +kernel
theorem jd_Moves_listSources_53 : decode jm_m_Moves_listSources.2.1 53 = .ok (.getfield 26, 3) := by decide +kernel
theorem jd_Moves_listSources_56 : decode jm_m_Moves_listSources.2.1 56 = .ok (.iload_n 3, 1) := by decide +kernel
theorem jd_Moves_listSources_57 : decode jm_m_Moves_listSources.2.1 57 = .ok (.iastore, 1) := by decide +kernel
theorem jd_Moves_listSources_58 : decode jm_m_Moves_listSources.2.1 58 = .ok (.aload_n 0, 1) := by decide +kernel
theorem jd_Moves_listSources_59 : decode jm_m_Moves_listSources.2.1 59 = .ok (.getfield 13, 3) := by decide +kernel
theorem jd_Moves_listSources_62 : decode jm_m_Moves_listSources.2.1 62 = .ok (.aload_n 0, 1) := by decide +kernel
theorem jd_Moves_listSources_63 : decode jm_m_Moves_listSources.2.1 63 = .ok (.getfield 26, 3) := by decide +kernel
theorem jd_Moves_listSources_66 : decode jm_m_Moves_listSources.2.1 66 = .ok (.iload 4, 2) := by decide +kernel
theorem jd_Moves_listSources_68 : decode jm_m_Moves_listSources.2.1 68 = .ok (.iastore, 1) := by decide +kernel
theorem jd_Moves_listSources_69 : decode jm_m_Moves_listSources.2.1 69 = .ok (.aload_n 0, 1) := by decide +kernel
theorem jd_Moves_listSources_70 : decode jm_m_Moves_listSources.2.1 70 = .ok (.getfield 16, 3) := by decide +kernel
theorem jd_Moves_listSources_73 : decode jm_m_Moves_listSources.2.1 73 = .ok (.aload_n 0, 1) := by decide +kernel
theorem jd_Moves_listSources_74 : decode jm_m_Moves_listSources.2.1 74 = .ok (.getfield 26, 3) := by decide +kernel
theorem jd_Moves_listSources_77 : decode jm_m_Moves_listSources.2.1 77 = .ok (.iconst 1, 1) := by decide +kernel
theorem jd_Moves_listSources_78 : decode jm_m_Moves_listSources.2.1 78 = .ok (.iload_n 3, 1) := by decide +kernel
theorem jd_Moves_listSources_79 : decode jm_m_Moves_listSources.2.1 79 = .ok (.ishl, 1) := by decide +kernel
theorem jd_Moves_listSources_80 : decode jm_m_Moves_listSources.2.1 80 = .ok (.iload_n 1, 1) := by decide +kernel
theorem jd_Moves_listSources_81 : decode jm_m_Moves_listSources.2.1 81 = .ok (.invokestatic 34, 3) := by decide +kernel
theorem jd_Moves_listSources_84 : decode jm_m_Moves_listSources.2.1 84 = .ok (.ifCond .eq 10, 3) := by decide +kernel
theorem jd_Moves_listSources_87 : decode jm_m_Moves_listSources.2.1 87 = .ok (.iconst 1, 1) := by decide +kernel
theorem jd_Moves_listSources_88 : decode jm_m_Moves_listSources.2.1 88 = .ok (.iload 4, 2) := by decide +kernel
theorem jd_Moves_listSources_90 : decode jm_m_Moves_listSources.2.1 90 = .ok (.ishl, 1) := by decide +kernel
theorem jd_Moves_listSources_91 : decode jm_m_Moves_listSources.2.1 91 = .ok (.goto 4, 3) := by decide +kernel
theorem jd_Moves_listSources_94 : decode jm_m_Moves_listSources.2.1 94 = .ok (.iconst 0, 1) := by decide +kernel
theorem jd_Moves_listSources_95 : decode jm_m_Moves_listSources.2.1 95 = .ok (.ior, 1) := by decide +kernel
theorem jd_Moves_listSources_96 : decode jm_m_Moves_listSources.2.1 96 = .ok (.iastore, 1) := by decide +kernel
theorem jd_Moves_listSources_97 : decode jm_m_Moves_listSources.2.1 97 = .ok (.aload_n 0, 1) := by decide +kernel
theorem jd_Moves_listSources_98 : decode jm_m_Moves_listSources.2.1 98 = .ok (.getfield 19, 3) := by decide +kernel
theorem jd_Moves_listSources_101 : decode jm_m_Moves_listSources.2.1 101 = .ok (.aload_n 0, 1) := by decide +kernel
theorem jd_Moves_listSources_102 : decode jm_m_Moves_listSources.2.1 102 = .ok (.getfield 26, 3) := by decide +kernel
theorem jd_Moves_listSources_105 : decode jm_m_Moves_listSources.2.1 105 = .ok (.iload_n 1, 1) := by decide +kernel
theorem jd_Moves_listSources_106 : decode jm_m_Moves_listSources.2.1 106 = .ok (.iload_n 3, 1) := by decide +kernel
theorem jd_Moves_listSources_107 : decode jm_m_Moves_listSources.2.1 107 = .ok (.iload 4, 2) := by decide +kernel
theorem jd_Moves_listSources_109 : decode jm_m_Moves_listSources.2.1 109 = .ok (.invokestatic 44, 3) := by decide +kernel
theorem jd_Moves_listSources_112 : decode jm_m_Moves_listSources.2.1 112 = .ok (.bastore, 1) := by decide +kernel
theorem jd_Moves_listSources_113 : decode jm_m_Moves_listSources.2.1 113 = .ok (.aload_n 0, 1) := by decide +kernel
theorem jd_Moves_listSources_114 : decode jm_m_Moves_listSources.2.1 114 = .ok (.dup, 1) := by decide +kernel
theorem jd_Moves_listSources_115 : decode jm_m_Moves_listSources.2.1 115 = .ok (.getfield 26, 3) := by decide +kernel
theorem jd_Moves_listSources_118 : decode jm_m_Moves_listSources.2.1 118 = .ok (.iconst 1, 1) := by decide +kernel
theorem jd_Moves_listSources_119 : decode jm_m_Moves_listSources.2.1 119 = .ok (.iadd, 1) := by decide +kernel
theorem jd_Moves_listSources_120 : decode jm_m_Moves_listSources.2.1 120 = .ok (.putfield 26, 3) := by decide +kernel
theorem jd_Moves_listSources_123 : decode jm_m_Moves_listSources.2.1 123 = .ok (.iinc 4 1, 3) := by decide +kernel
theorem jd_Moves_listSources_126 : decode jm_m_Moves_listSources.2.1 126 = .ok (.goto (-103), 3) := by decide +kernel
theorem jd_Moves_listSources_129 : decode jm_m_Moves_listSources.2.1 129 = .ok (.iinc 3 1, 3) := by decide +kernel
theorem jd_Moves_listSources_132 : decode jm_m_Moves_listSources.2.1 132 = .ok (.goto (-117), 3) := by decide +kernel
theorem jd_Moves_listSources_135 : decode jm_m_Moves_listSources.2.1 135 = .ok (.return_, 1) := by decide +kernel
theorem jd_Moves_isNew_0 : decode jm_m_Moves_isNew.2.1 0 = .ok (.iload_n 0, 1) := by decide +kernel
theorem jd_Moves_isNew_1 : decode jm_m_Moves_isNew.2.1 1 = .ok (.tableswitch 74 0 5 #[39, 50, 61, 61, 61, 72], 39) := by decide +kernel
theorem jd_Moves_isNew_40 : decode jm_m_Moves_isNew.2.1 40 = .ok (.iload_n 1, 1) := by decide +kernel
theorem jd_Moves_isNew_41 : decode jm_m_Moves_isNew.2.1 41 = .ok (.iload_n 2, 1) := by decide +kernel
theorem jd_Moves_isNew_42 : decode jm_m_Moves_isNew.2.1 42 = .ok (.if_icmp .gt 7, 3) := by decide +kernel
theorem jd_Moves_isNew_45 : decode jm_m_Moves_isNew.2.1 45 = .ok (.iconst 1, 1) := by decide +kernel
theorem jd_Moves_isNew_46 : decode jm_m_Moves_isNew.2.1 46 = .ok (.goto 4, 3) := by decide +kernel
theorem jd_Moves_isNew_49 : decode jm_m_Moves_isNew.2.1 49 = .ok (.iconst 0, 1) := by decide +kernel
theorem jd_Moves_isNew_50 : decode jm_m_Moves_isNew.2.1 50 = .ok (.ireturn, 1) := by decide +kernel
theorem jd_Moves_isNew_51 : decode jm_m_Moves_isNew.2.1 51 = .ok (.iload_n 1, 1) := by decide +kernel
theorem jd_Moves_isNew_52 : decode jm_m_Moves_isNew.2.1 52 = .ok (.iload_n 2, 1) := by decide +kernel
theorem jd_Moves_isNew_53 : decode jm_m_Moves_isNew.2.1 53 = .ok (.if_icmp .eq 7, 3) := by decide +kernel
theorem jd_Moves_isNew_56 : decode jm_m_Moves_isNew.2.1 56 = .ok (.iconst 1, 1) := by decide +kernel
theorem jd_Moves_isNew_57 : decode jm_m_Moves_isNew.2.1 57 = .ok (.goto 4, 3) := by decide +kernel
theorem jd_Moves_isNew_60 : decode jm_m_Moves_isNew.2.1 60 = .ok (.iconst 0, 1) := by decide +kernel
theorem jd_Moves_isNew_61 : decode jm_m_Moves_isNew.2.1 61 = .ok (.ireturn, 1) := by decide +kernel
theorem jd_Moves_isNew_62 : decode jm_m_Moves_isNew.2.1 62 = .ok (.iload_n 1, 1) := by decide +kernel
theorem jd_Moves_isNew_63 : decode jm_m_Moves_isNew.2.1 63 = .ok (.iload_n 2, 1) := by decide +kernel
theorem jd_Moves_isNew_64 : decode jm_m_Moves_isNew.2.1 64 = .ok (.if_icmp .ge 7, 3) := by decide +kernel
theorem jd_Moves_isNew_67 : decode jm_m_Moves_isNew.2.1 67 = .ok (.iconst 1, 1) := by decide +kernel
theorem jd_Moves_isNew_68 : decode jm_m_Moves_isNew.2.1 68 = .ok (.goto 4, 3) := by decide +kernel
theorem jd_Moves_isNew_71 : decode jm_m_Moves_isNew.2.1 71 = .ok (.iconst 0, 1) := by decide +kernel
theorem jd_Moves_isNew_72 : decode jm_m_Moves_isNew.2.1 72 = .ok (.ireturn, 1) := by decide +kernel
theorem jd_Moves_isNew_73 : decode jm_m_Moves_isNew.2.1 73 = .ok (.iconst 0, 1) := by decide +kernel
theorem jd_Moves_isNew_74 : decode jm_m_Moves_isNew.2.1 74 = .ok (.ireturn, 1) := by decide +kernel
theorem jd_Moves_isNew_75 : decode jm_m_Moves_isNew.2.1 75 = .ok (.iconst 1, 1) := by decide +kernel
theorem jd_Moves_isNew_76 : decode jm_m_Moves_isNew.2.1 76 = .ok (.ireturn, 1) := by decide +kernel
theorem jd_Moves_isNewAtFirst_0 : decode jm_m_Moves_isNewAtFirst.2.1 0 = .ok (.iload_n 0, 1) := by decide +kernel
theorem jd_Moves_isNewAtFirst_1 : decode jm_m_Moves_isNewAtFirst.2.1 1 = .ok (.tableswitch 57 1 4 #[31, 42, 42, 42], 31) := by decide +kernel
theorem jd_Moves_isNewAtFirst_32 : decode jm_m_Moves_isNewAtFirst.2.1 32 = .ok (.iload_n 2, 1) := by decide +kernel
theorem jd_Moves_isNewAtFirst_33 : decode jm_m_Moves_isNewAtFirst.2.1 33 = .ok (.iconst 2, 1) := by decide +kernel
theorem jd_Moves_isNewAtFirst_34 : decode jm_m_Moves_isNewAtFirst.2.1 34 = .ok (.if_icmp .eq 7, 3) := by decide +kernel
theorem jd_Moves_isNewAtFirst_37 : decode jm_m_Moves_isNewAtFirst.2.1 37 = .ok (.iconst 1, 1) := by decide +kernel
theorem jd_Moves_isNewAtFirst_38 : decode jm_m_Moves_isNewAtFirst.2.1 38 = .ok (.goto 4, 3) := by decide +kernel
theorem jd_Moves_isNewAtFirst_41 : decode jm_m_Moves_isNewAtFirst.2.1 41 = .ok (.iconst 0, 1) := by decide +kernel
theorem jd_Moves_isNewAtFirst_42 : decode jm_m_Moves_isNewAtFirst.2.1 42 = .ok (.ireturn, 1) := by decide +kernel
theorem jd_Moves_isNewAtFirst_43 : decode jm_m_Moves_isNewAtFirst.2.1 43 = .ok (.iload_n 1, 1) := by decide +kernel
theorem jd_Moves_isNewAtFirst_44 : decode jm_m_Moves_isNewAtFirst.2.1 44 = .ok (.ifCond .ne 12, 3) := by decide +kernel
theorem jd_Moves_isNewAtFirst_47 : decode jm_m_Moves_isNewAtFirst.2.1 47 = .ok (.iload_n 2, 1) := by decide +kernel
theorem jd_Moves_isNewAtFirst_48 : decode jm_m_Moves_isNewAtFirst.2.1 48 = .ok (.iconst 1, 1) := by decide +kernel
theorem jd_Moves_isNewAtFirst_49 : decode jm_m_Moves_isNewAtFirst.2.1 49 = .ok (.if_icmp .ne 7, 3) := by decide +kernel
theorem jd_Moves_isNewAtFirst_52 : decode jm_m_Moves_isNewAtFirst.2.1 52 = .ok (.iconst 1, 1) := by decide +kernel
theorem jd_Moves_isNewAtFirst_53 : decode jm_m_Moves_isNewAtFirst.2.1 53 = .ok (.goto 4, 3) := by decide +kernel
theorem jd_Moves_isNewAtFirst_56 : decode jm_m_Moves_isNewAtFirst.2.1 56 = .ok (.iconst 0, 1) := by decide +kernel
theorem jd_Moves_isNewAtFirst_57 : decode jm_m_Moves_isNewAtFirst.2.1 57 = .ok (.ireturn, 1) := by decide +kernel
theorem jd_Moves_isNewAtFirst_58 : decode jm_m_Moves_isNewAtFirst.2.1 58 = .ok (.iconst 1, 1) := by decide +kernel
theorem jd_Moves_isNewAtFirst_59 : decode jm_m_Moves_isNewAtFirst.2.1 59 = .ok (.ireturn, 1) := by decide +kernel
