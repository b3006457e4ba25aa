theorem jd_Order_init_0 : decode jm_m_Order_init.2.1 0 = .ok (.aload_n 0, 1) := by decide +kernel
theorem jd_Order_init_1 : decode jm_m_Order_init.2.1 1 = .ok (.invokespecial 1, 3) := by decide +kernel
theorem jd_Order_init_4 : decode jm_m_Order_init.2.1 4 = .ok (.aload_n 0, 1) := by decide +kernel
theorem jd_Order_init_5 : decode jm_m_Order_init.2.1 5 = .ok (.bipush 10, 2) := by decide +kernel
theorem jd_Order_init_7 : decode jm_m_Order_init.2.1 7 = .ok (.newarray .int, 2) := by decide +kernel
theorem jd_Order_init_9 : decode jm_m_Order_init.2.1 9 = .ok (.putfield 9, 3) := by decide +kernel
theorem jd_Order_init_12 : decode jm_m_Order_init.2.1 12 = .ok (.aload_n 0, 1) := by decide +kernel
theorem jd_Order_init_13 : decode jm_m_Order_init.2.1 13 = .ok (.bipush 10, 2) := by decide +kernel
theorem jd_Order_init_15 : decode jm_m_Order_init.2.1 15 = .ok (.newarray .int, 2) := by decide +kernel
theorem jd_Order_init_17 : decode jm_m_Order_init.2.1 17 = .ok (.putfield 13, 3) := by decide +kernel
theorem jd_Order_init_20 : decode jm_m_Order_init.2.1 20 = .ok (.aload_n 0, 1) := by decide +kernel
theorem jd_Order_init_21 : decode jm_m_Order_init.2.1 21 = .ok (.bipush 10, 2) := by decide +kernel
theorem jd_Order_init_23 : decode jm_m_Order_init.2.1 23 = .ok (.newarray .int, 2) := by decide +kernel
theorem jd_Order_init_25 : decode jm_m_Order_init.2.1 25 = .ok (.putfield 16, 3) := by decide +kernel
theorem jd_Order_init_28 : decode jm_m_Order_init.2.1 28 = .ok (.aload_n 0, 1) := by decide +kernel
theorem jd_Order_init_29 : decode jm_m_Order_init.2.1 29 = .ok (.bipush 10, 2) := by decide +kernel
theorem jd_Order_init_31 : decode jm_m_Order_init.2.1 31 = .ok (.newarray .int, 2) := by decide +kernel
theorem jd_Order_init_33 : decode jm_m_Order_init.2.1 33 = .ok (.putfield 19, 3) := by decide +kernel
theorem jd_Order_init_36 : decode jm_m_Order_init.2.1 36 = .ok (.aload_n 0, 1) := by decide +kernel
theorem jd_Order_init_37 : decode jm_m_Order_init.2.1 37 = .ok (.bipush 10, 2) := by decide +kernel
theorem jd_Order_init_39 : decode jm_m_Order_init.2.1 39 = .ok (.newarray .int, 2) := by decide +kernel
theorem jd_Order_init_41 : decode jm_m_Order_init.2.1 41 = .ok (.putfield 22, 3) := by decide +kernel
theorem jd_Order_init_44 : decode jm_m_Order_init.2.1 44 = .ok (.aload_n 0, 1) := by decide +kernel
theorem jd_Order_init_45 : decode jm_m_Order_init.2.1 45 = .ok (.bipush 10, 2) := by decide +kernel
theorem jd_Order_init_47 : decode jm_m_Order_init.2.1 47 = .ok (.newarray .int, 2) := by decide +kernel
theorem jd_Order_init_49 : decode jm_m_Order_init.2.1 49 = .ok (.putfield 25, 3) := by decide +kernel
theorem jd_Order_init_52 : decode jm_m_Order_init.2.1 52 = .ok (.aload_n 0, 1) := by decide +kernel
theorem jd_Order_init_53 : decode jm_m_Order_init.2.1 53 = .ok (.bipush 10, 2) := by decide +kernel
theorem jd_Order_init_55 : decode jm_m_Order_init.2.1 55 = .ok (.newarray .int, 2) := by decide +kernel
theorem jd_Order_init_57 : decode jm_m_Order_init.2.1 57 = .ok (.putfield 28, 3) := by decide +kernel
theorem jd_Order_init_60 : decode jm_m_Order_init.2.1 60 = .ok (.aload_n 0, 1) := by decide +kernel
theorem jd_Order_init_61 : decode jm_m_Order_init.2.1 61 = .ok (.bipush 10, 2) := by decide +kernel
theorem jd_Order_init_63 : decode jm_m_Order_init.2.1 63 = .ok (.newarray .int, 2) := by decide +kernel
theorem jd_Order_init_65 : decode jm_m_Order_init.2.1 65 = .ok (.putfield 31, 3) := by decide +kernel
theorem jd_Order_init_68 : decode jm_m_Order_init.2.1 68 = .ok (.aload_n 0, 1) := by decide +kernel
theorem jd_Order_init_69 : decode jm_m_Order_init.2.1 69 = .ok (.aload_n 1, 1) := by decide +kernel
theorem jd_Order_init_70 : decode jm_m_Order_init.2.1 70 = .ok (.putfield 34, 3) := by decide +kernel
theorem jd_Order_init_73 : decode jm_m_Order_init.2.1 73 = .ok (.return_, 1) := by decide +kernel
theorem jd_Order_refresh_0 : decode jm_m_Order_refresh.2.1 0 = .ok (.aload_n 0, 1) := by decide +kernel
theorem jd_Order_refresh_1 : decode jm_m_Order_refresh.2.1 1 = .ok (.getfield 38, 3) := by decide +kernel
theorem jd_Order_refresh_4 : decode jm_m_Order_refresh.2.1 4 = .ok (.aload_n 0, 1) := by decide +kernel
theorem jd_Order_refresh_5 : decode jm_m_Order_refresh.2.1 5 = .ok (.getfield 34, 3) := by decide +kernel
theorem jd_Order_refresh_8 : decode jm_m_Order_refresh.2.1 8 = .ok (.getfield 42, 3) := by decide +kernel
theorem jd_Order_refresh_11 : decode jm_m_Order_refresh.2.1 11 = .ok (.if_icmp .eq 15, 3) := by decide +kernel
theorem jd_Order_refresh_14 : decode jm_m_Order_refresh.2.1 14 = .ok (.aload_n 0, 1) := by decide +kernel
theorem jd_Order_refresh_15 : decode jm_m_Order_refresh.2.1 15 = .ok (.getfield 34, 3) := by decide +kernel
theorem jd_Order_refresh_18 : decode jm_m_Order_refresh.2.1 18 = .ok (.getfield 45, 3) := by decide +kernel
theorem jd_Order_refresh_21 : decode jm_m_Order_refresh.2.1 21 = .ok (.bipush 10, 2) := by decide +kernel
theorem jd_Order_refresh_23 : decode jm_m_Order_refresh.2.1 23 = .ok (.if_icmp .le 4, 3) := by decide +kernel
theorem jd_Order_refresh_26 : decode jm_m_Order_refresh.2.1 26 = .ok (.return_, 1) := by decide +kernel
theorem jd_Order_refresh_27 : decode jm_m_Order_refresh.2.1 27 = .ok (.aload_n 0, 1) := by decide +kernel
theorem jd_Order_refresh_28 : decode jm_m_Order_refresh.2.1 28 = .ok (.aload_n 0, 1) := by decide +kernel
theorem jd_Order_refresh_29 : decode jm_m_Order_refresh.2.1 29 = .ok (.getfield 34, 3) := by decide +kernel
theorem jd_Order_refresh_32 : decode jm_m_Order_refresh.2.1 32 = .ok (.getfield 42, 3) := by decide +kernel
theorem jd_Order_refresh_35 : decode jm_m_Order_refresh.2.1 35 = .ok (.putfield 38, 3) := by decide +kernel
theorem jd_Order_refresh_38 : decode jm_m_Order_refresh.2.1 38 = .ok (.aload_n 0, 1) := by decide +kernel
theorem jd_Order_refresh_39 : decode jm_m_Order_refresh.2.1 39 = .ok (.aload_n 0, 1) := by decide +kernel
theorem jd_Order_refresh_40 : decode jm_m_Order_refresh.2.1 40 = .ok (.getfield 34, 3) := by decide +kernel
theorem jd_Order_refresh_43 : decode jm_m_Order_refresh.2.1 43 = .ok (.getfield 45, 3) := by decide +kernel
theorem jd_Order_refresh_46 : decode jm_m_Order_refresh.2.1 46 = .ok (.putfield 48, 3) := by decide +kernel
theorem jd_Order_refresh_49 : decode jm_m_Order_refresh.2.1 49 = .ok (.aload_n 0, 1) := by decide +kernel
theorem jd_Order_refresh_50 : decode jm_m_Order_refresh.2.1 50 = .ok (.getfield 48, 3) := by decide +kernel
theorem jd_Order_refresh_53 : decode jm_m_Order_refresh.2.1 53 = .ok (.iconst 1, 1) := by decide +kernel
theorem jd_Order_refresh_54 : decode jm_m_Order_refresh.2.1 54 = .ok (.isub, 1) := by decide +kernel
theorem jd_Order_refresh_55 : decode jm_m_Order_refresh.2.1 55 = .ok (.istore_n 1, 1) := by decide +kernel
theorem jd_Order_refresh_56 : decode jm_m_Order_refresh.2.1 56 = .ok (.iload_n 1, 1) := by decide +kernel
theorem jd_Order_refresh_57 : decode jm_m_Order_refresh.2.1 57 = .ok (.ifCond .lt 14, 3) := by decide +kernel
theorem jd_Order_refresh_60 : decode jm_m_Order_refresh.2.1 60 = .ok (.aload_n 0, 1) := by decide +kernel
theorem jd_Order_refresh_61 : decode jm_m_Order_refresh.2.1 61 = .ok (.iload_n 1, 1) := by decide +kernel
theorem jd_Order_refresh_62 : decode jm_m_Order_refresh.2.1 62 = .ok (.invokevirtual 49, 3) := by decide +kernel
theorem jd_Order_refresh_65 : decode jm_m_Order_refresh.2.1 65 = .ok (.iinc 1 (-1), 3) := by decide +kernel
theorem jd_Order_refresh_68 : decode jm_m_Order_refresh.2.1 68 = .ok (.goto (-12), 3) := by decide +kernel
theorem jd_Order_refresh_71 : decode jm_m_Order_refresh.2.1 71 = .ok (.iconst 0, 1) := by decide +kernel
theorem jd_Order_refresh_72 : decode jm_m_Order_refresh.2.1 72 = .ok (.istore_n 1, 1) := by decide +kernel
theorem jd_Order_refresh_73 : decode jm_m_Order_refresh.2.1 73 = .ok (.iload_n 1, 1) := by decide +kernel
theorem jd_Order_refresh_74 : decode jm_m_Order_refresh.2.1 74 = .ok (.aload_n 0, 1) := by decide +kernel
theorem jd_Order_refresh_75 : decode jm_m_Order_refresh.2.1 75 = .ok (.getfield 48, 3) := by decide +kernel
theorem jd_Order_refresh_78 : decode jm_m_Order_refresh.2.1 78 = .ok (.if_icmp .ge 14, 3) := by decide +kernel
theorem jd_Order_refresh_81 : decode jm_m_Order_refresh.2.1 81 = .ok (.aload_n 0, 1) := by decide +kernel
theorem jd_Order_refresh_82 : decode jm_m_Order_refresh.2.1 82 = .ok (.iload_n 1, 1) := by decide +kernel
theorem jd_Order_refresh_83 : decode jm_m_Order_refresh.2.1 83 = .ok (.invokevirtual 53, 3) := by decide +kernel
theorem jd_Order_refresh_86 : decode jm_m_Order_refresh.2.1 86 = .ok (.iinc 1 1, 3) := by decide +kernel
theorem jd_Order_refresh_89 : decode jm_m_Order_refresh.2.1 89 = .ok (.goto (-16), 3) := by decide +kernel
theorem jd_Order_refresh_92 : decode jm_m_Order_refresh.2.1 92 = .ok (.aload_n 0, 1) := by decide +kernel
theorem jd_Order_refresh_93 : decode jm_m_Order_refresh.2.1 93 = .ok (.ldc 56, 2) := by decide +kernel
theorem jd_Order_refresh_95 : decode jm_m_Order_refresh.2.1 95 = .ok (.putfield 57, 3) := by decide +kernel
theorem jd_Order_refresh_98 : decode jm_m_Order_refresh.2.1 98 = .ok (.aload_n 0, 1) := by decide +kernel
theorem jd_Order_refresh_99 : decode jm_m_Order_refresh.2.1 99 = .ok (.iconst 0, 1) := by decide +kernel
theorem jd_Order_refresh_100 : decode jm_m_Order_refresh.2.1 100 = .ok (.iconst 0, 1) := by decide +kernel
theorem jd_Order_refresh_101 : decode jm_m_Order_refresh.2.1 101 = .ok (.iconst (-1), 1) := by decide +kernel
theorem jd_Order_refresh_102 : decode jm_m_Order_refresh.2.1 102 = .ok (.invokevirtual 60, 3) := by decide +kernel
theorem jd_Order_refresh_105 : decode jm_m_Order_refresh.2.1 105 = .ok (.return_, 1) := by decide +kernel
theorem jd_Order_prepare_0 : decode jm_m_Order_prepare.2.1 0 = .ok (.aload_n 0, 1) := by decide +kernel
theorem jd_Order_prepare_1 : decode jm_m_Order_prepare.2.1 1 = .ok (.getfield 13, 3) := by decide +kernel
theorem jd_Order_prepare_4 : decode jm_m_Order_prepare.2.1 4 = .ok (.iload_n 1, 1) := by decide +kernel
theorem jd_Order_prepare_5 : decode jm_m_Order_prepare.2.1 5 = .ok (.aload_n 0, 1) := by decide +kernel
theorem jd_Order_prepare_6 : decode jm_m_Order_prepare.2.1 6 = .ok (.getfield 34, 3) := by decide +kernel
theorem jd_Order_prepare_9 : decode jm_m_Order_prepare.2.1 9 = .ok (.iload_n 1, 1) := by decide +kernel
theorem jd_Order_prepare_10 : decode jm_m_Order_prepare.2.1 10 = .ok (.invokevirtual 64, 3) := by decide +kernel
theorem jd_Order_prepare_13 : decode jm_m_Order_prepare.2.1 13 = .ok (.iastore, 1) := by decide +kernel
theorem jd_Order_prepare_14 : decode jm_m_Order_prepare.2.1 14 = .ok (.aload_n 0, 1) := by decide +kernel
theorem jd_Order_prepare_15 : decode jm_m_Order_prepare.2.1 15 = .ok (.getfield 16, 3) := by decide +kernel
theorem jd_Order_prepare_18 : decode jm_m_Order_prepare.2.1 18 = .ok (.iload_n 1, 1) := by decide +kernel
theorem jd_Order_prepare_19 : decode jm_m_Order_prepare.2.1 19 = .ok (.aload_n 0, 1) := by decide +kernel
theorem jd_Order_prepare_20 : decode jm_m_Order_prepare.2.1 20 = .ok (.getfield 34, 3) := by decide +kernel
theorem jd_Order_prepare_23 : decode jm_m_Order_prepare.2.1 23 = .ok (.iload_n 1, 1) := by decide +kernel
theorem jd_Order_prepare_24 : decode jm_m_Order_prepare.2.1 24 = .ok (.invokevirtual 67, 3) := by decide +kernel
theorem jd_Order_prepare_27 : decode jm_m_Order_prepare.2.1 27 = .ok (.iastore, 1) := by decide +kernel
theorem jd_Order_prepare_28 : decode jm_m_Order_prepare.2.1 28 = .ok (.aload_n 0, 1) := by decide +kernel
theorem jd_Order_prepare_29 : decode jm_m_Order_prepare.2.1 29 = .ok (.getfield 9, 3) := by decide +kernel
theorem jd_Order_prepare_32 : decode jm_m_Order_prepare.2.1 32 = .ok (.iload_n 1, 1) := by decide +kernel
theorem jd_Order_prepare_33 : decode jm_m_Order_prepare.2.1 33 = .ok (.iconst 0, 1) := by decide +kernel
theorem jd_Order_prepare_34 : decode jm_m_Order_prepare.2.1 34 = .ok (.iastore, 1) := by decide +kernel
theorem jd_Order_prepare_35 : decode jm_m_Order_prepare.2.1 35 = .ok (.iconst 0, 1) := by decide +kernel
theorem jd_Order_prepare_36 : decode jm_m_Order_prepare.2.1 36 = .ok (.istore_n 2, 1) := by decide +kernel
theorem jd_Order_prepare_37 : decode jm_m_Order_prepare.2.1 37 = .ok (.iload_n 2, 1) := by decide +kernel
theorem jd_Order_prepare_38 : decode jm_m_Order_prepare.2.1 38 = .ok (.iload_n 1, 1) := by decide +kernel
theorem jd_Order_prepare_39 : decode jm_m_Order_prepare.2.1 39 = .ok (.if_icmp .ge 37, 3) := by decide +kernel
theorem jd_Order_prepare_42 : decode jm_m_Order_prepare.2.1 42 = .ok (.aload_n 0, 1) := by decide +kernel
theorem jd_Order_prepare_43 : decode jm_m_Order_prepare.2.1 43 = .ok (.getfield 9, 3) := by decide +kernel
theorem jd_Order_prepare_46 : decode jm_m_Order_prepare.2.1 46 = .ok (.iload_n 1, 1) := by decide +kernel
theorem jd_Order_prepare_47 : decode jm_m_Order_prepare.2.1 47 = .ok (.dup2, 1) := by decide +kernel
theorem jd_Order_prepare_48 : decode jm_m_Order_prepare.2.1 48 = .ok (.iaload, 1) := by decide +kernel
theorem jd_Order_prepare_49 : decode jm_m_Order_prepare.2.1 49 = .ok (.aload_n 0, 1) := by decide +kernel
theorem jd_Order_prepare_50 : decode jm_m_Order_prepare.2.1 50 = .ok (.getfield 34, 3) := by decide +kernel
theorem jd_Order_prepare_53 : decode jm_m_Order_prepare.2.1 53 = .ok (.iload_n 2, 1) := by decide +kernel
theorem jd_Order_prepare_54 : decode jm_m_Order_prepare.2.1 54 = .ok (.iload_n 1, 1) := by decide +kernel
theorem jd_Order_prepare_55 : decode jm_m_Order_prepare.2.1 55 = .ok (.invokevirtual 69, 3) := by decide +kernel
theorem jd_Order_prepare_58 : decode jm_m_Order_prepare.2.1 58 = .ok (.ifCond .eq 9, 3) := by decide +kernel
theorem jd_Order_prepare_61 : decode jm_m_Order_prepare.2.1 61 = .ok (.iconst 1, 1) := by decide +kernel
theorem jd_Order_prepare_62 : decode jm_m_Order_prepare.2.1 62 = .ok (.iload_n 2, 1) := by decide +kernel
theorem jd_Order_prepare_63 : decode jm_m_Order_prepare.2.1 63 = .ok (.ishl, 1) := by decide +kernel
theorem jd_Order_prepare_64 : decode jm_m_Order_prepare.2.1 64 = .ok (.goto 4, 3) := by decide +kernel
theorem jd_Order_prepare_67 : decode jm_m_Order_prepare.2.1 67 = .ok (.iconst 0, 1) := by decide +kernel
theorem jd_Order_prepare_68 : decode jm_m_Order_prepare.2.1 68 = .ok (.ior, 1) := by decide +kernel
theorem jd_Order_prepare_69 : decode jm_m_Order_prepare.2.1 69 = .ok (.iastore, 1) := by decide +kernel
theorem jd_Order_prepare_70 : decode jm_m_Order_prepare.2.1 70 = .ok (.iinc 2 1, 3) := by decide +kernel
theorem jd_Order_prepare_73 : decode jm_m_Order_prepare.2.1 73 = .ok (.goto (-36), 3) := by decide +kernel
theorem jd_Order_prepare_76 : decode jm_m_Order_prepare.2.1 76 = .ok (.aload_n 0, 1) := by decide +kernel
theorem jd_Order_prepare_77 : decode jm_m_Order_prepare.2.1 77 = .ok (.getfield 34, 3) := by decide +kernel
theorem jd_Order_prepare_80 : decode jm_m_Order_prepare.2.1 80 = .ok (.getfield 73, 3) := by decide +kernel
theorem jd_Order_prepare_83 : decode jm_m_Order_prepare.2.1 83 = .ok (.iconst 4, 1) := by decide +kernel
theorem jd_Order_prepare_84 : decode jm_m_Order_prepare.2.1 84 = .ok (.aaload, 1) := by decide +kernel
theorem jd_Order_prepare_85 : decode jm_m_Order_prepare.2.1 85 = .ok (.iload_n 1, 1) := by decide +kernel
theorem jd_Order_prepare_86 : decode jm_m_Order_prepare.2.1 86 = .ok (.iaload, 1) := by decide +kernel
theorem jd_Order_prepare_87 : decode jm_m_Order_prepare.2.1 87 = .ok (.istore_n 2, 1) := by decide +kernel
theorem jd_Order_prepare_88 : decode jm_m_Order_prepare.2.1 88 = .ok (.aload_n 0, 1) := by decide +kernel
theorem jd_Order_prepare_89 : decode jm_m_Order_prepare.2.1 89 = .ok (.getfield 19, 3) := by decide +kernel
theorem jd_Order_prepare_92 : decode jm_m_Order_prepare.2.1 92 = .ok (.iload_n 1, 1) := by decide +kernel
theorem jd_Order_prepare_93 : decode jm_m_Order_prepare.2.1 93 = .ok (.iload_n 2, 1) := by decide +kernel
theorem jd_Order_prepare_94 : decode jm_m_Order_prepare.2.1 94 = .ok (.iastore, 1) := by decide +kernel
theorem jd_Order_prepare_95 : decode jm_m_Order_prepare.2.1 95 = .ok (.iload_n 1, 1) := by decide +kernel
theorem jd_Order_prepare_96 : decode jm_m_Order_prepare.2.1 96 = .ok (.iconst 1, 1) := by decide +kernel
theorem jd_Order_prepare_97 : decode jm_m_Order_prepare.2.1 97 = .ok (.iadd, 1) := by decide +kernel
theorem jd_Order_prepare_98 : decode jm_m_Order_prepare.2.1 98 = .ok (.istore_n 3, 1) := by decide +kernel
theorem jd_Order_prepare_99 : decode jm_m_Order_prepare.2.1 99 = .ok (.iload_n 3, 1) := by decide +kernel
theorem jd_Order_prepare_100 : decode jm_m_Order_prepare.2.1 100 = .ok (.aload_n 0, 1) := by decide +kernel
theorem jd_Order_prepare_101 : decode jm_m_Order_prepare.2.1 101 = .ok (.getfield 48, 3) := by decide +kernel
theorem jd_Order_prepare_104 : decode jm_m_Order_prepare.2.1 104 = .ok (.if_icmp .ge 81, 3) := by decide +kernel
theorem jd_Order_prepare_107 : decode jm_m_Order_prepare.2.1 107 = .ok (.aload_n 0, 1) := by decide +kernel
theorem jd_Order_prepare_108 : decode jm_m_Order_prepare.2.1 108 = .ok (.getfield 9, 3) := by decide +kernel
theorem jd_Order_prepare_111 : decode jm_m_Order_prepare.2.1 111 = .ok (.iload_n 3, 1) := by decide +kernel
theorem jd_Order_prepare_112 : decode jm_m_Order_prepare.2.1 112 = .ok (.iaload, 1) := by decide +kernel
theorem jd_Order_prepare_113 : decode jm_m_Order_prepare.2.1 113 = .ok (.iload_n 1, 1) := by decide +kernel
theorem jd_Order_prepare_114 : decode jm_m_Order_prepare.2.1 114 = .ok (.ishr, 1) := by decide +kernel
theorem jd_Order_prepare_115 : decode jm_m_Order_prepare.2.1 115 = .ok (.iconst 1, 1) := by decide +kernel
theorem jd_Order_prepare_116 : decode jm_m_Order_prepare.2.1 116 = .ok (.iand, 1) := by decide +kernel
theorem jd_Order_prepare_117 : decode jm_m_Order_prepare.2.1 117 = .ok (.ifCond .eq 62, 3) := by decide +kernel
theorem jd_Order_prepare_120 : decode jm_m_Order_prepare.2.1 120 = .ok (.aload_n 0, 1) := by decide +kernel
theorem jd_Order_prepare_121 : decode jm_m_Order_prepare.2.1 121 = .ok (.getfield 13, 3) := by decide +kernel
theorem jd_Order_prepare_124 : decode jm_m_Order_prepare.2.1 124 = .ok (.iload_n 3, 1) := by decide +kernel
theorem jd_Order_prepare_125 : decode jm_m_Order_prepare.2.1 125 = .ok (.iaload, 1) := by decide +kernel
theorem jd_Order_prepare_126 : decode jm_m_Order_prepare.2.1 126 = .ok (.iload_n 1, 1) := by decide +kernel
theorem jd_Order_prepare_127 : decode jm_m_Order_prepare.2.1 127 = .ok (.if_icmp .eq 13, 3) := by decide +kernel
theorem jd_Order_prepare_130 : decode jm_m_Order_prepare.2.1 130 = .ok (.aload_n 0, 1) := by decide +kernel
theorem jd_Order_prepare_131 : decode jm_m_Order_prepare.2.1 131 = .ok (.getfield 16, 3) := by decide +kernel
theorem jd_Order_prepare_134 : decode jm_m_Order_prepare.2.1 134 = .ok (.iload_n 3, 1) := by decide +kernel
theorem jd_Order_prepare_135 : decode jm_m_Order_prepare.2.1 135 = .ok (.iaload, 1) := by decide +kernel
theorem jd_Order_prepare_136 : decode jm_m_Order_prepare.2.1 136 = .ok (.iload_n 1, 1) := by decide +kernel
theorem jd_Order_prepare_137 : decode jm_m_Order_prepare.2.1 137 = .ok (.if_icmp .ne 7, 3) := by decide +kernel
theorem jd_Order_prepare_140 : decode jm_m_Order_prepare.2.1 140 = .ok (.iconst 1, 1) := by decide +kernel
theorem jd_Order_prepare_141 : decode jm_m_Order_prepare.2.1 141 = .ok (.goto 4, 3) := by decide +kernel
theorem jd_Order_prepare_144 : decode jm_m_Order_prepare.2.1 144 = .ok (.iconst 0, 1) := by decide +kernel
theorem jd_Order_prepare_145 : decode jm_m_Order_prepare.2.1 145 = .ok (.istore 4, 2) := by decide +kernel
theorem jd_Order_prepare_147 : decode jm_m_Order_prepare.2.1 147 = .ok (.aload_n 0, 1) := by decide +kernel
theorem jd_Order_prepare_148 : decode jm_m_Order_prepare.2.1 148 = .ok (.getfield 19, 3) := by decide +kernel
theorem jd_Order_prepare_151 : decode jm_m_Order_prepare.2.1 151 = .ok (.iload_n 1, 1) := by decide +kernel
theorem jd_Order_prepare_152 : decode jm_m_Order_prepare.2.1 152 = .ok (.aload_n 0, 1) := by decide +kernel
theorem jd_Order_prepare_153 : decode jm_m_Order_prepare.2.1 153 = .ok (.getfield 19, 3) := by decide +kernel
theorem jd_Order_prepare_156 : decode jm_m_Order_prepare.2.1 156 = .ok (.iload_n 1, 1) := by decide +kernel
theorem jd_Order_prepare_157 : decode jm_m_Order_prepare.2.1 157 = .ok (.iaload, 1) := by decide +kernel
theorem jd_Order_prepare_158 : decode jm_m_Order_prepare.2.1 158 = .ok (.aload_n 0, 1) := by decide +kernel
theorem jd_Order_prepare_159 : decode jm_m_Order_prepare.2.1 159 = .ok (.getfield 19, 3) := by decide +kernel
theorem jd_Order_prepare_162 : decode jm_m_Order_prepare.2.1 162 = .ok (.iload_n 3, 1) := by decide +kernel
theorem jd_Order_prepare_163 : decode jm_m_Order_prepare.2.1 163 = .ok (.iaload, 1) := by decide +kernel
theorem jd_Order_prepare_164 : decode jm_m_Order_prepare.2.1 164 = .ok (.iload 4, 2) := by decide +kernel
theorem jd_Order_prepare_166 : decode jm_m_Order_prepare.2.1 166 = .ok (.ifCond .eq 7, 3) := by decide +kernel
theorem jd_Order_prepare_169 : decode jm_m_Order_prepare.2.1 169 = .ok (.iload_n 2, 1) := by decide +kernel
theorem jd_Order_prepare_170 : decode jm_m_Order_prepare.2.1 170 = .ok (.goto 4, 3) := by decide +kernel
theorem jd_Order_prepare_173 : decode jm_m_Order_prepare.2.1 173 = .ok (.iconst 1, 1) := by decide +kernel
theorem jd_Order_prepare_174 : decode jm_m_Order_prepare.2.1 174 = .ok (.iadd, 1) := by decide +kernel
theorem jd_Order_prepare_175 : decode jm_m_Order_prepare.2.1 175 = .ok (.invokestatic 77, 3) := by decide +kernel
theorem jd_Order_prepare_178 : decode jm_m_Order_prepare.2.1 178 = .ok (.iastore, 1) := by decide +kernel
theorem jd_Order_prepare_179 : decode jm_m_Order_prepare.2.1 179 = .ok (.iinc 3 1, 3) := by decide +kernel
theorem jd_Order_prepare_182 : decode jm_m_Order_prepare.2.1 182 = .ok (.goto (-83), 3) := by decide +kernel
theorem jd_Order_prepare_185 : decode jm_m_Order_prepare.2.1 185 = .ok (.return_, 1) := by decide +kernel
theorem jd_Order_rankByTail_0 : decode jm_m_Order_rankByTail.2.1 0 = .ok (.iload_n 1, 1) := by decide +kernel
theorem jd_Order_rankByTail_1 : decode jm_m_Order_rankByTail.2.1 1 = .ok (.istore_n 2, 1) := by decide +kernel
theorem jd_Order_rankByTail_2 : decode jm_m_Order_rankByTail.2.1 2 = .ok (.iload_n 1, 1) := by decide +kernel
theorem jd_Order_rankByTail_3 : decode jm_m_Order_rankByTail.2.1 3 = .ok (.istore_n 3, 1) := by decide +kernel
theorem jd_Order_rankByTail_4 : decode jm_m_Order_rankByTail.2.1 4 = .ok (.iload_n 3, 1) := by decide +kernel
theorem jd_Order_rankByTail_5 : decode jm_m_Order_rankByTail.2.1 5 = .ok (.ifCond .le 49, 3) := by decide +kernel
theorem jd_Order_rankByTail_8 : decode jm_m_Order_rankByTail.2.1 8 = .ok (.aload_n 0, 1) := by decide +kernel
theorem jd_Order_rankByTail_9 : decode jm_m_Order_rankByTail.2.1 9 = .ok (.getfield 19, 3) := by decide +kernel
theorem jd_Order_rankByTail_12 : decode jm_m_Order_rankByTail.2.1 12 = .ok (.aload_n 0, 1) := by decide +kernel
theorem jd_Order_rankByTail_13 : decode jm_m_Order_rankByTail.2.1 13 = .ok (.getfield 22, 3) := by decide +kernel
theorem jd_Order_rankByTail_16 : decode jm_m_Order_rankByTail.2.1 16 = .ok (.iload_n 3, 1) := by decide +kernel
theorem jd_Order_rankByTail_17 : decode jm_m_Order_rankByTail.2.1 17 = .ok (.iconst 1, 1) := by decide +kernel
theorem jd_Order_rankByTail_18 : decode jm_m_Order_rankByTail.2.1 18 = .ok (.isub, 1) := by decide +kernel
theorem jd_Order_rankByTail_19 : decode jm_m_Order_rankByTail.2.1 19 = .ok (.iaload, 1) := by decide +kernel
theorem jd_Order_rankByTail_20 : decode jm_m_Order_rankByTail.2.1 20 = .ok (.iaload, 1) := by decide +kernel
theorem jd_Order_rankByTail_21 : decode jm_m_Order_rankByTail.2.1 21 = .ok (.aload_n 0, 1) := by decide +kernel
theorem jd_Order_rankByTail_22 : decode jm_m_Order_rankByTail.2.1 22 = .ok (.getfield 19, 3) := by decide +kernel
theorem jd_Order_rankByTail_25 : decode jm_m_Order_rankByTail.2.1 25 = .ok (.iload_n 1, 1) := by decide +kernel
theorem jd_Order_rankByTail_26 : decode jm_m_Order_rankByTail.2.1 26 = .ok (.iaload, 1) := by decide +kernel
theorem jd_Order_rankByTail_27 : decode jm_m_Order_rankByTail.2.1 27 = .ok (.if_icmp .ge 27, 3) := by decide +kernel
theorem jd_Order_rankByTail_30 : decode jm_m_Order_rankByTail.2.1 30 = .ok (.aload_n 0, 1) := by decide +kernel
theorem jd_Order_rankByTail_31 : decode jm_m_Order_rankByTail.2.1 31 = .ok (.getfield 22, 3) := by decide +kernel
theorem jd_Order_rankByTail_34 : decode jm_m_Order_rankByTail.2.1 34 = .ok (.iload_n 3, 1) := by decide +kernel
theorem jd_Order_rankByTail_35 : decode jm_m_Order_rankByTail.2.1 35 = .ok (.aload_n 0, 1) := by decide +kernel
theorem jd_Order_rankByTail_36 : decode jm_m_Order_rankByTail.2.1 36 = .ok (.getfield 22, 3) := by decide +kernel
theorem jd_Order_rankByTail_39 : decode jm_m_Order_rankByTail.2.1 39 = .ok (.iload_n 3, 1) := by decide +kernel
theorem jd_Order_rankByTail_40 : decode jm_m_Order_rankByTail.2.1 40 = .ok (.iconst 1, 1) := by decide +kernel
theorem jd_Order_rankByTail_41 : decode jm_m_Order_rankByTail.2.1 41 = .ok (.isub, 1) := by decide +kernel
theorem jd_Order_rankByTail_42 : decode jm_m_Order_rankByTail.2.1 42 = .ok (.iaload, 1) := by decide +kernel
theorem jd_Order_rankByTail_43 : decode jm_m_Order_rankByTail.2.1 43 = .ok (.iastore, 1) := by decide +kernel
theorem jd_Order_rankByTail_44 : decode jm_m_Order_rankByTail.2.1 44 = .ok (.iload_n 3, 1) := by decide +kernel
theorem jd_Order_rankByTail_45 : decode jm_m_Order_rankByTail.2.1 45 = .ok (.iconst 1, 1) := by decide +kernel
theorem jd_Order_rankByTail_46 : decode jm_m_Order_rankByTail.2.1 46 = .ok (.isub, 1) := by decide +kernel
theorem jd_Order_rankByTail_47 : decode jm_m_Order_rankByTail.2.1 47 = .ok (.istore_n 2, 1) := by decide +kernel
theorem jd_Order_rankByTail_48 : decode jm_m_Order_rankByTail.2.1 48 = .ok (.iinc 3 (-1), 3) := by decide +kernel
theorem jd_Order_rankByTail_51 : decode jm_m_Order_rankByTail.2.1 51 = .ok (.goto (-47), 3) := by decide +kernel
theorem jd_Order_rankByTail_54 : decode jm_m_Order_rankByTail.2.1 54 = .ok (.aload_n 0, 1) := by decide +kernel
theorem jd_Order_rankByTail_55 : decode jm_m_Order_rankByTail.2.1 55 = .ok (.getfield 22, 3) := by decide +kernel
theorem jd_Order_rankByTail_58 : decode jm_m_Order_rankByTail.2.1 58 = .ok (.iload_n 2, 1) := by decide +kernel
theorem jd_Order_rankByTail_59 : decode jm_m_Order_rankByTail.2.1 59 = .ok (.iload_n 1, 1) := by decide +kernel
theorem jd_Order_rankByTail_60 : decode jm_m_Order_rankByTail.2.1 60 = .ok (.iastore, 1) := by decide +kernel
theorem jd_Order_rankByTail_61 : decode jm_m_Order_rankByTail.2.1 61 = .ok (.return_, 1) := by decide +kernel
theorem jd_Order_extend_0 : decode jm_m_Order_extend.2.1 0 = .ok (.iload_n 1, 1) := by decide +kernel
theorem jd_Order_extend_1 : decode jm_m_Order_extend.2.1 1 = .ok (.aload_n 0, 1) := by decide +kernel
theorem jd_Order_extend_2 : decode jm_m_Order_extend.2.1 2 = .ok (.getfield 48, 3) := by decide +kernel
theorem jd_Order_extend_5 : decode jm_m_Order_extend.2.1 5 = .ok (.if_icmp .lt 31, 3) := by decide +kernel
theorem jd_Order_extend_8 : decode jm_m_Order_extend.2.1 8 = .ok (.aload_n 0, 1) := by decide +kernel
theorem jd_Order_extend_9 : decode jm_m_Order_extend.2.1 9 = .ok (.aload_n 0, 1) := by decide +kernel
theorem jd_Order_extend_10 : decode jm_m_Order_extend.2.1 10 = .ok (.iload_n 2, 1) := by decide +kernel
theorem jd_Order_extend_11 : decode jm_m_Order_extend.2.1 11 = .ok (.iload_n 3, 1) := by decide +kernel
theorem jd_Order_extend_12 : decode jm_m_Order_extend.2.1 12 = .ok (.invokevirtual 83, 3) := by decide +kernel
theorem jd_Order_extend_15 : decode jm_m_Order_extend.2.1 15 = .ok (.putfield 57, 3) := by decide +kernel
theorem jd_Order_extend_18 : decode jm_m_Order_extend.2.1 18 = .ok (.aload_n 0, 1) := by decide +kernel
theorem jd_Order_extend_19 : decode jm_m_Order_extend.2.1 19 = .ok (.getfield 28, 3) := by decide +kernel
theorem jd_Order_extend_22 : decode jm_m_Order_extend.2.1 22 = .ok (.iconst 0, 1) := by decide +kernel
theorem jd_Order_extend_23 : decode jm_m_Order_extend.2.1 23 = .ok (.aload_n 0, 1) := by decide +kernel
theorem jd_Order_extend_24 : decode jm_m_Order_extend.2.1 24 = .ok (.getfield 31, 3) := by decide +kernel
theorem jd_Order_extend_27 : decode jm_m_Order_extend.2.1 27 = .ok (.iconst 0, 1) := by decide +kernel
theorem jd_Order_extend_28 : decode jm_m_Order_extend.2.1 28 = .ok (.aload_n 0, 1) := by decide +kernel
theorem jd_Order_extend_29 : decode jm_m_Order_extend.2.1 29 = .ok (.getfield 48, 3) := by decide +kernel
theorem jd_Order_extend_32 : decode jm_m_Order_extend.2.1 32 = .ok (.invokestatic 86, 3) := by decide +kernel
theorem jd_Order_extend_35 : decode jm_m_Order_extend.2.1 35 = .ok (.return_, 1) := by decide +kernel
theorem jd_Order_extend_36 : decode jm_m_Order_extend.2.1 36 = .ok (.iconst 0, 1) := by decide +kernel
theorem jd_Order_extend_37 : decode jm_m_Order_extend.2.1 37 = .ok (.istore 4, 2) := by decide +kernel
theorem jd_Order_extend_39 : decode jm_m_Order_extend.2.1 39 = .ok (.iload 4, 2) := by decide +kernel
theorem jd_Order_extend_41 : decode jm_m_Order_extend.2.1 41 = .ok (.aload_n 0, 1) := by decide +kernel
theorem jd_Order_extend_42 : decode jm_m_Order_extend.2.1 42 = .ok (.getfield 48, 3) := by decide +kernel
theorem jd_Order_extend_45 : decode jm_m_Order_extend.2.1 45 = .ok (.if_icmp .ge 107, 3) := by decide +kernel
theorem jd_Order_extend_48 : decode jm_m_Order_extend.2.1 48 = .ok (.iload_n 2, 1) := by decide +kernel
theorem jd_Order_extend_49 : decode jm_m_Order_extend.2.1 49 = .ok (.iload 4, 2) := by decide +kernel
theorem jd_Order_extend_51 : decode jm_m_Order_extend.2.1 51 = .ok (.ishr, 1) := by decide +kernel
theorem jd_Order_extend_52 : decode jm_m_Order_extend.2.1 52 = .ok (.iconst 1, 1) := by decide +kernel
theorem jd_Order_extend_53 : decode jm_m_Order_extend.2.1 53 = .ok (.iand, 1) := by decide +kernel
theorem jd_Order_extend_54 : decode jm_m_Order_extend.2.1 54 = .ok (.ifCond .ne 92, 3) := by decide +kernel
theorem jd_Order_extend_57 : decode jm_m_Order_extend.2.1 57 = .ok (.aload_n 0, 1) := by decide +kernel
theorem jd_Order_extend_58 : decode jm_m_Order_extend.2.1 58 = .ok (.getfield 9, 3) := by decide +kernel
theorem jd_Order_extend_61 : decode jm_m_Order_extend.2.1 61 = .ok (.iload 4, 2) := by decide +kernel
theorem jd_Order_extend_63 : decode jm_m_Order_extend.2.1 63 = .ok (.iaload, 1) := by decide +kernel
theorem jd_Order_extend_64 : decode jm_m_Order_extend.2.1 64 = .ok (.iload_n 2, 1) := by decide +kernel
theorem jd_Order_extend_65 : decode jm_m_Order_extend.2.1 65 = .ok (.iconst (-1), 1) := by decide +kernel
theorem jd_Order_extend_66 : decode jm_m_Order_extend.2.1 66 = .ok (.ixor, 1) := by decide +kernel
theorem jd_Order_extend_67 : decode jm_m_Order_extend.2.1 67 = .ok (.iand, 1) := by decide +kernel
theorem jd_Order_extend_68 : decode jm_m_Order_extend.2.1 68 = .ok (.ifCond .eq 6, 3) := by decide +kernel
theorem jd_Order_extend_71 : decode jm_m_Order_extend.2.1 71 = .ok (.goto 75, 3) := by decide +kernel
theorem jd_Order_extend_74 : decode jm_m_Order_extend.2.1 74 = .ok (.aload_n 0, 1) := by decide +kernel
theorem jd_Order_extend_75 : decode jm_m_Order_extend.2.1 75 = .ok (.getfield 25, 3) := by decide +kernel
theorem jd_Order_extend_78 : decode jm_m_Order_extend.2.1 78 = .ok (.iload 4, 2) := by decide +kernel
theorem jd_Order_extend_80 : decode jm_m_Order_extend.2.1 80 = .ok (.iload_n 3, 1) := by decide +kernel
theorem jd_Order_extend_81 : decode jm_m_Order_extend.2.1 81 = .ok (.iconst 1, 1) := by decide +kernel
theorem jd_Order_extend_82 : decode jm_m_Order_extend.2.1 82 = .ok (.iadd, 1) := by decide +kernel
theorem jd_Order_extend_83 : decode jm_m_Order_extend.2.1 83 = .ok (.aload_n 0, 1) := by decide +kernel
theorem jd_Order_extend_84 : decode jm_m_Order_extend.2.1 84 = .ok (.iload 4, 2) := by decide +kernel
theorem jd_Order_extend_86 : decode jm_m_Order_extend.2.1 86 = .ok (.iload_n 2, 1) := by decide +kernel
theorem jd_Order_extend_87 : decode jm_m_Order_extend.2.1 87 = .ok (.invokevirtual 92, 3) := by decide +kernel
theorem jd_Order_extend_90 : decode jm_m_Order_extend.2.1 90 = .ok (.invokestatic 77, 3) := by decide +kernel
theorem jd_Order_extend_93 : decode jm_m_Order_extend.2.1 93 = .ok (.iastore, 1) := by decide +kernel
theorem jd_Order_extend_94 : decode jm_m_Order_extend.2.1 94 = .ok (.aload_n 0, 1) := by decide +kernel
theorem jd_Order_extend_95 : decode jm_m_Order_extend.2.1 95 = .ok (.getfield 28, 3) := by decide +kernel
theorem jd_Order_extend_98 : decode jm_m_Order_extend.2.1 98 = .ok (.iload_n 1, 1) := by decide +kernel
theorem jd_Order_extend_99 : decode jm_m_Order_extend.2.1 99 = .ok (.iload 4, 2) := by decide +kernel
theorem jd_Order_extend_101 : decode jm_m_Order_extend.2.1 101 = .ok (.iastore, 1) := by decide +kernel
theorem jd_Order_extend_102 : decode jm_m_Order_extend.2.1 102 = .ok (.iload_n 2, 1) := by decide +kernel
theorem jd_Order_extend_103 : decode jm_m_Order_extend.2.1 103 = .ok (.iconst 1, 1) := by decide +kernel
theorem jd_Order_extend_104 : decode jm_m_Order_extend.2.1 104 = .ok (.iload 4, 2) := by decide +kernel
theorem jd_Order_extend_106 : decode jm_m_Order_extend.2.1 106 = .ok (.ishl, 1) := by decide +kernel
theorem jd_Order_extend_107 : decode jm_m_Order_extend.2.1 107 = .ok (.ior, 1) := by decide +kernel
theorem jd_Order_extend_108 : decode jm_m_Order_extend.2.1 108 = .ok (.istore 5, 2) := by decide +kernel
theorem jd_Order_extend_110 : decode jm_m_Order_extend.2.1 110 = .ok (.aload_n 0, 1) := by decide +kernel
theorem jd_Order_extend_111 : decode jm_m_Order_extend.2.1 111 = .ok (.iload 5, 2) := by decide +kernel
theorem jd_Order_extend_113 : decode jm_m_Order_extend.2.1 113 = .ok (.aload_n 0, 1) := by decide +kernel
theorem jd_Order_extend_114 : decode jm_m_Order_extend.2.1 114 = .ok (.getfield 25, 3) := by decide +kernel
theorem jd_Order_extend_117 : decode jm_m_Order_extend.2.1 117 = .ok (.iload 4, 2) := by decide +kernel
theorem jd_Order_extend_119 : decode jm_m_Order_extend.2.1 119 = .ok (.iaload, 1) := by decide +kernel
theorem jd_Order_extend_120 : decode jm_m_Order_extend.2.1 120 = .ok (.invokevirtual 83, 3) := by decide +kernel
theorem jd_Order_extend_123 : decode jm_m_Order_extend.2.1 123 = .ok (.aload_n 0, 1) := by decide +kernel
theorem jd_Order_extend_124 : decode jm_m_Order_extend.2.1 124 = .ok (.getfield 57, 3) := by decide +kernel
theorem jd_Order_extend_127 : decode jm_m_Order_extend.2.1 127 = .ok (.if_icmp .ge 19, 3) := by decide +kernel
theorem jd_Order_extend_130 : decode jm_m_Order_extend.2.1 130 = .ok (.aload_n 0, 1) := by decide +kernel
theorem jd_Order_extend_131 : decode jm_m_Order_extend.2.1 131 = .ok (.iload_n 1, 1) := by decide +kernel
theorem jd_Order_extend_132 : decode jm_m_Order_extend.2.1 132 = .ok (.iconst 1, 1) := by decide +kernel
theorem jd_Order_extend_133 : decode jm_m_Order_extend.2.1 133 = .ok (.iadd, 1) := by decide +kernel
theorem jd_Order_extend_134 : decode jm_m_Order_extend.2.1 134 = .ok (.iload 5, 2) := by decide +kernel
theorem jd_Order_extend_136 : decode jm_m_Order_extend.2.1 136 = .ok (.aload_n 0, 1) := by decide +kernel
theorem jd_Order_extend_137 : decode jm_m_Order_extend.2.1 137 = .ok (.getfield 25, 3) := by decide +kernel
theorem jd_Order_extend_140 : decode jm_m_Order_extend.2.1 140 = .ok (.iload 4, 2) := by decide +kernel
theorem jd_Order_extend_142 : decode jm_m_Order_extend.2.1 142 = .ok (.iaload, 1) := by decide +kernel
theorem jd_Order_extend_143 : decode jm_m_Order_extend.2.1 143 = .ok (.invokevirtual 60, 3) := by decide +kernel
theorem jd_Order_extend_146 : decode jm_m_Order_extend.2.1 146 = .ok (.iinc 4 1, 3) := by decide +kernel
theorem jd_Order_extend_149 : decode jm_m_Order_extend.2.1 149 = .ok (.goto (-110), 3) := by decide +kernel
theorem jd_Order_extend_152 : decode jm_m_Order_extend.2.1 152 = .ok (.return_, 1) := by decide +kernel
theorem jd_Order_readyFor_0 : decode jm_m_Order_readyFor.2.1 0 = .ok (.aload_n 0, 1) := by decide +kernel
theorem jd_Order_readyFor_1 : decode jm_m_Order_readyFor.2.1 1 = .ok (.aload_n 0, 1) := by decide +kernel
theorem jd_Order_readyFor_2 : decode jm_m_Order_readyFor.2.1 2 = .ok (.getfield 13, 3) := by decide +kernel
theorem jd_Order_readyFor_5 : decode jm_m_Order_readyFor.2.1 5 = .ok (.iload_n 1, 1) := by decide +kernel
theorem jd_Order_readyFor_6 : decode jm_m_Order_readyFor.2.1 6 = .ok (.iaload, 1) := by decide +kernel
theorem jd_Order_readyFor_7 : decode jm_m_Order_readyFor.2.1 7 = .ok (.iload_n 2, 1) := by decide +kernel
theorem jd_Order_readyFor_8 : decode jm_m_Order_readyFor.2.1 8 = .ok (.invokevirtual 95, 3) := by decide +kernel
theorem jd_Order_readyFor_11 : decode jm_m_Order_readyFor.2.1 11 = .ok (.aload_n 0, 1) := by decide +kernel
theorem jd_Order_readyFor_12 : decode jm_m_Order_readyFor.2.1 12 = .ok (.aload_n 0, 1) := by decide +kernel
theorem jd_Order_readyFor_13 : decode jm_m_Order_readyFor.2.1 13 = .ok (.getfield 16, 3) := by decide +kernel
theorem jd_Order_readyFor_16 : decode jm_m_Order_readyFor.2.1 16 = .ok (.iload_n 1, 1) := by decide +kernel
theorem jd_Order_readyFor_17 : decode jm_m_Order_readyFor.2.1 17 = .ok (.iaload, 1) := by decide +kernel
theorem jd_Order_readyFor_18 : decode jm_m_Order_readyFor.2.1 18 = .ok (.iload_n 2, 1) := by decide +kernel
theorem jd_Order_readyFor_19 : decode jm_m_Order_readyFor.2.1 19 = .ok (.invokevirtual 95, 3) := by decide +kernel
theorem jd_Order_readyFor_22 : decode jm_m_Order_readyFor.2.1 22 = .ok (.invokestatic 77, 3) := by decide +kernel
theorem jd_Order_readyFor_25 : decode jm_m_Order_readyFor.2.1 25 = .ok (.ireturn, 1) := by decide +kernel
theorem jd_Order_readyAt_0 : decode jm_m_Order_readyAt.2.1 0 = .ok (.iload_n 1, 1) := by decide +kernel
theorem jd_Order_readyAt_1 : decode jm_m_Order_readyAt.2.1 1 = .ok (.ifCond .lt 11, 3) := by decide +kernel
theorem jd_Order_readyAt_4 : decode jm_m_Order_readyAt.2.1 4 = .ok (.iload_n 2, 1) := by decide +kernel
theorem jd_Order_readyAt_5 : decode jm_m_Order_readyAt.2.1 5 = .ok (.iload_n 1, 1) := by decide +kernel
theorem jd_Order_readyAt_6 : decode jm_m_Order_readyAt.2.1 6 = .ok (.ishr, 1) := by decide +kernel
theorem jd_Order_readyAt_7 : decode jm_m_Order_readyAt.2.1 7 = .ok (.iconst 1, 1) := by decide +kernel
theorem jd_Order_readyAt_8 : decode jm_m_Order_readyAt.2.1 8 = .ok (.iand, 1) := by decide +kernel
theorem jd_Order_readyAt_9 : decode jm_m_Order_readyAt.2.1 9 = .ok (.ifCond .ne 5, 3) := by decide +kernel
theorem jd_Order_readyAt_12 : decode jm_m_Order_readyAt.2.1 12 = .ok (.iconst 0, 1) := by decide +kernel
theorem jd_Order_readyAt_13 : decode jm_m_Order_readyAt.2.1 13 = .ok (.ireturn, 1) := by decide +kernel
theorem jd_Order_readyAt_14 : decode jm_m_Order_readyAt.2.1 14 = .ok (.aload_n 0, 1) := by decide +kernel
theorem jd_Order_readyAt_15 : decode jm_m_Order_readyAt.2.1 15 = .ok (.getfield 25, 3) := by decide +kernel
theorem jd_Order_readyAt_18 : decode jm_m_Order_readyAt.2.1 18 = .ok (.iload_n 1, 1) := by decide +kernel
theorem jd_Order_readyAt_19 : decode jm_m_Order_readyAt.2.1 19 = .ok (.iaload, 1) := by decide +kernel
theorem jd_Order_readyAt_20 : decode jm_m_Order_readyAt.2.1 20 = .ok (.aload_n 0, 1) := by decide +kernel
theorem jd_Order_readyAt_21 : decode jm_m_Order_readyAt.2.1 21 = .ok (.getfield 34, 3) := by decide +kernel
theorem jd_Order_readyAt_24 : decode jm_m_Order_readyAt.2.1 24 = .ok (.getfield 73, 3) := by decide +kernel
theorem jd_Order_readyAt_27 : decode jm_m_Order_readyAt.2.1 27 = .ok (.iconst 4, 1) := by decide +kernel
theorem jd_Order_readyAt_28 : decode jm_m_Order_readyAt.2.1 28 = .ok (.aaload, 1) := by decide +kernel
theorem jd_Order_readyAt_29 : decode jm_m_Order_readyAt.2.1 29 = .ok (.iload_n 1, 1) := by decide +kernel
theorem jd_Order_readyAt_30 : decode jm_m_Order_readyAt.2.1 30 = .ok (.iaload, 1) := by decide +kernel
theorem jd_Order_readyAt_31 : decode jm_m_Order_readyAt.2.1 31 = .ok (.iadd, 1) := by decide +kernel
theorem jd_Order_readyAt_32 : decode jm_m_Order_readyAt.2.1 32 = .ok (.ireturn, 1) := by decide +kernel
theorem jd_Order_endAtLeast_0 : decode jm_m_Order_endAtLeast.2.1 0 = .ok (.iconst 0, 1) := by decide +kernel
theorem jd_Order_endAtLeast_1 : decode jm_m_Order_endAtLeast.2.1 1 = .ok (.istore_n 3, 1) := by decide +kernel
theorem jd_Order_endAtLeast_2 : decode jm_m_Order_endAtLeast.2.1 2 = .ok (.iload_n 2, 1) := by decide +kernel
theorem jd_Order_endAtLeast_3 : decode jm_m_Order_endAtLeast.2.1 3 = .ok (.istore 4, 2) := by decide +kernel
theorem jd_Order_endAtLeast_5 : decode jm_m_Order_endAtLeast.2.1 5 = .ok (.iconst 0, 1) := by decide +kernel
theorem jd_Order_endAtLeast_6 : decode jm_m_Order_endAtLeast.2.1 6 = .ok (.istore 5, 2) := by decide +kernel
theorem jd_Order_endAtLeast_8 : decode jm_m_Order_endAtLeast.2.1 8 = .ok (.iload 5, 2) := by decide +kernel
theorem jd_Order_endAtLeast_10 : decode jm_m_Order_endAtLeast.2.1 10 = .ok (.aload_n 0, 1) := by decide +kernel
theorem jd_Order_endAtLeast_11 : decode jm_m_Order_endAtLeast.2.1 11 = .ok (.getfield 48, 3) := by decide +kernel
theorem jd_Order_endAtLeast_14 : decode jm_m_Order_endAtLeast.2.1 14 = .ok (.if_icmp .ge 83, 3) := by decide +kernel
theorem jd_Order_endAtLeast_17 : decode jm_m_Order_endAtLeast.2.1 17 = .ok (.aload_n 0, 1) := by decide +kernel
theorem jd_Order_endAtLeast_18 : decode jm_m_Order_endAtLeast.2.1 18 = .ok (.getfield 22, 3) := by decide +kernel
theorem jd_Order_endAtLeast_21 : decode jm_m_Order_endAtLeast.2.1 21 = .ok (.iload 5, 2) := by decide +kernel
theorem jd_Order_endAtLeast_23 : decode jm_m_Order_endAtLeast.2.1 23 = .ok (.iaload, 1) := by decide +kernel
theorem jd_Order_endAtLeast_24 : decode jm_m_Order_endAtLeast.2.1 24 = .ok (.istore 6, 2) := by decide +kernel
theorem jd_Order_endAtLeast_26 : decode jm_m_Order_endAtLeast.2.1 26 = .ok (.iload_n 1, 1) := by decide +kernel
theorem jd_Order_endAtLeast_27 : decode jm_m_Order_endAtLeast.2.1 27 = .ok (.iload 6, 2) := by decide +kernel
theorem jd_Order_endAtLeast_29 : decode jm_m_Order_endAtLeast.2.1 29 = .ok (.ishr, 1) := by decide +kernel
theorem jd_Order_endAtLeast_30 : decode jm_m_Order_endAtLeast.2.1 30 = .ok (.iconst 1, 1) := by decide +kernel
theorem jd_Order_endAtLeast_31 : decode jm_m_Order_endAtLeast.2.1 31 = .ok (.iand, 1) := by decide +kernel
theorem jd_Order_endAtLeast_32 : decode jm_m_Order_endAtLeast.2.1 32 = .ok (.ifCond .eq 31, 3) := by decide +kernel
theorem jd_Order_endAtLeast_35 : decode jm_m_Order_endAtLeast.2.1 35 = .ok (.iload_n 3, 1) := by decide +kernel
theorem jd_Order_endAtLeast_36 : decode jm_m_Order_endAtLeast.2.1 36 = .ok (.aload_n 0, 1) := by decide +kernel
theorem jd_Order_endAtLeast_37 : decode jm_m_Order_endAtLeast.2.1 37 = .ok (.getfield 25, 3) := by decide +kernel
theorem jd_Order_endAtLeast_40 : decode jm_m_Order_endAtLeast.2.1 40 = .ok (.iload 6, 2) := by decide +kernel
