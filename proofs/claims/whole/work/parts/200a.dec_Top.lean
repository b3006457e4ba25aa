theorem jd_Top_init_0 : decode jm_m_Top_init.2.1 0 = .ok (.aload_n 0, 1) := by decide +kernel
theorem jd_Top_init_1 : decode jm_m_Top_init.2.1 1 = .ok (.invokespecial 1, 3) := by decide +kernel
theorem jd_Top_init_4 : decode jm_m_Top_init.2.1 4 = .ok (.aload_n 0, 1) := by decide +kernel
theorem jd_Top_init_5 : decode jm_m_Top_init.2.1 5 = .ok (.new 7, 3) := by decide +kernel
theorem jd_Top_init_8 : decode jm_m_Top_init.2.1 8 = .ok (.dup, 1) := by decide +kernel
theorem jd_Top_init_9 : decode jm_m_Top_init.2.1 9 = .ok (.invokespecial 9, 3) := by decide +kernel
theorem jd_Top_init_12 : decode jm_m_Top_init.2.1 12 = .ok (.putfield 10, 3) := by decide +kernel
theorem jd_Top_init_15 : decode jm_m_Top_init.2.1 15 = .ok (.aload_n 0, 1) := by decide +kernel
theorem jd_Top_init_16 : decode jm_m_Top_init.2.1 16 = .ok (.new 16, 3) := by decide +kernel
theorem jd_Top_init_19 : decode jm_m_Top_init.2.1 19 = .ok (.dup, 1) := by decide +kernel
theorem jd_Top_init_20 : decode jm_m_Top_init.2.1 20 = .ok (.invokespecial 18, 3) := by decide +kernel
theorem jd_Top_init_23 : decode jm_m_Top_init.2.1 23 = .ok (.putfield 19, 3) := by decide +kernel
theorem jd_Top_init_26 : decode jm_m_Top_init.2.1 26 = .ok (.aload_n 0, 1) := by decide +kernel
theorem jd_Top_init_27 : decode jm_m_Top_init.2.1 27 = .ok (.new 23, 3) := by decide +kernel
theorem jd_Top_init_30 : decode jm_m_Top_init.2.1 30 = .ok (.dup, 1) := by decide +kernel
theorem jd_Top_init_31 : decode jm_m_Top_init.2.1 31 = .ok (.invokespecial 25, 3) := by decide +kernel
theorem jd_Top_init_34 : decode jm_m_Top_init.2.1 34 = .ok (.putfield 26, 3) := by decide +kernel
theorem jd_Top_init_37 : decode jm_m_Top_init.2.1 37 = .ok (.aload_n 0, 1) := by decide +kernel
theorem jd_Top_init_38 : decode jm_m_Top_init.2.1 38 = .ok (.new 30, 3) := by decide +kernel
theorem jd_Top_init_41 : decode jm_m_Top_init.2.1 41 = .ok (.dup, 1) := by decide +kernel
theorem jd_Top_init_42 : decode jm_m_Top_init.2.1 42 = .ok (.aload_n 0, 1) := by decide +kernel
theorem jd_Top_init_43 : decode jm_m_Top_init.2.1 43 = .ok (.getfield 19, 3) := by decide +kernel
theorem jd_Top_init_46 : decode jm_m_Top_init.2.1 46 = .ok (.aload_n 0, 1) := by decide +kernel
theorem jd_Top_init_47 : decode jm_m_Top_init.2.1 47 = .ok (.getfield 26, 3) := by decide +kernel
theorem jd_Top_init_50 : decode jm_m_Top_init.2.1 50 = .ok (.invokespecial 32, 3) := by decide +kernel
theorem jd_Top_init_53 : decode jm_m_Top_init.2.1 53 = .ok (.putfield 35, 3) := by decide +kernel
theorem jd_Top_init_56 : decode jm_m_Top_init.2.1 56 = .ok (.aload_n 0, 1) := by decide +kernel
theorem jd_Top_init_57 : decode jm_m_Top_init.2.1 57 = .ok (.new 39, 3) := by decide +kernel
theorem jd_Top_init_60 : decode jm_m_Top_init.2.1 60 = .ok (.dup, 1) := by decide +kernel
theorem jd_Top_init_61 : decode jm_m_Top_init.2.1 61 = .ok (.invokespecial 41, 3) := by decide +kernel
theorem jd_Top_init_64 : decode jm_m_Top_init.2.1 64 = .ok (.putfield 42, 3) := by decide +kernel
theorem jd_Top_init_67 : decode jm_m_Top_init.2.1 67 = .ok (.aload_n 0, 1) := by decide +kernel
theorem jd_Top_init_68 : decode jm_m_Top_init.2.1 68 = .ok (.new 46, 3) := by decide +kernel
theorem jd_Top_init_71 : decode jm_m_Top_init.2.1 71 = .ok (.dup, 1) := by decide +kernel
theorem jd_Top_init_72 : decode jm_m_Top_init.2.1 72 = .ok (.aload_n 0, 1) := by decide +kernel
theorem jd_Top_init_73 : decode jm_m_Top_init.2.1 73 = .ok (.getfield 42, 3) := by decide +kernel
theorem jd_Top_init_76 : decode jm_m_Top_init.2.1 76 = .ok (.invokespecial 48, 3) := by decide +kernel
theorem jd_Top_init_79 : decode jm_m_Top_init.2.1 79 = .ok (.putfield 51, 3) := by decide +kernel
theorem jd_Top_init_82 : decode jm_m_Top_init.2.1 82 = .ok (.aload_n 0, 1) := by decide +kernel
theorem jd_Top_init_83 : decode jm_m_Top_init.2.1 83 = .ok (.new 55, 3) := by decide +kernel
theorem jd_Top_init_86 : decode jm_m_Top_init.2.1 86 = .ok (.dup, 1) := by decide +kernel
theorem jd_Top_init_87 : decode jm_m_Top_init.2.1 87 = .ok (.aload_n 0, 1) := by decide +kernel
theorem jd_Top_init_88 : decode jm_m_Top_init.2.1 88 = .ok (.getfield 42, 3) := by decide +kernel
theorem jd_Top_init_91 : decode jm_m_Top_init.2.1 91 = .ok (.invokespecial 57, 3) := by decide +kernel
theorem jd_Top_init_94 : decode jm_m_Top_init.2.1 94 = .ok (.putfield 58, 3) := by decide +kernel
theorem jd_Top_init_97 : decode jm_m_Top_init.2.1 97 = .ok (.aload_n 0, 1) := by decide +kernel
theorem jd_Top_init_98 : decode jm_m_Top_init.2.1 98 = .ok (.new 62, 3) := by decide +kernel
theorem jd_Top_init_101 : decode jm_m_Top_init.2.1 101 = .ok (.dup, 1) := by decide +kernel
theorem jd_Top_init_102 : decode jm_m_Top_init.2.1 102 = .ok (.aload_n 0, 1) := by decide +kernel
theorem jd_Top_init_103 : decode jm_m_Top_init.2.1 103 = .ok (.getfield 42, 3) := by decide +kernel
theorem jd_Top_init_106 : decode jm_m_Top_init.2.1 106 = .ok (.invokespecial 64, 3) := by decide +kernel
theorem jd_Top_init_109 : decode jm_m_Top_init.2.1 109 = .ok (.putfield 65, 3) := by decide +kernel
theorem jd_Top_init_112 : decode jm_m_Top_init.2.1 112 = .ok (.aload_n 0, 1) := by decide +kernel
theorem jd_Top_init_113 : decode jm_m_Top_init.2.1 113 = .ok (.new 69, 3) := by decide +kernel
theorem jd_Top_init_116 : decode jm_m_Top_init.2.1 116 = .ok (.dup, 1) := by decide +kernel
theorem jd_Top_init_117 : decode jm_m_Top_init.2.1 117 = .ok (.aload_n 0, 1) := by decide +kernel
theorem jd_Top_init_118 : decode jm_m_Top_init.2.1 118 = .ok (.getfield 42, 3) := by decide +kernel
theorem jd_Top_init_121 : decode jm_m_Top_init.2.1 121 = .ok (.aload_n 0, 1) := by decide +kernel
theorem jd_Top_init_122 : decode jm_m_Top_init.2.1 122 = .ok (.getfield 65, 3) := by decide +kernel
theorem jd_Top_init_125 : decode jm_m_Top_init.2.1 125 = .ok (.invokespecial 71, 3) := by decide +kernel
theorem jd_Top_init_128 : decode jm_m_Top_init.2.1 128 = .ok (.putfield 74, 3) := by decide +kernel
theorem jd_Top_init_131 : decode jm_m_Top_init.2.1 131 = .ok (.return_, 1) := by decide +kernel
theorem jd_Top_say_0 : decode jm_m_Top_say.2.1 0 = .ok (.iload_n 1, 1) := by decide +kernel
theorem jd_Top_say_1 : decode jm_m_Top_say.2.1 1 = .ok (.bipush 33, 2) := by decide +kernel
theorem jd_Top_say_3 : decode jm_m_Top_say.2.1 3 = .ok (.if_icmp .lt 9, 3) := by decide +kernel
theorem jd_Top_say_6 : decode jm_m_Top_say.2.1 6 = .ok (.iload_n 1, 1) := by decide +kernel
theorem jd_Top_say_7 : decode jm_m_Top_say.2.1 7 = .ok (.bipush 126, 2) := by decide +kernel
theorem jd_Top_say_9 : decode jm_m_Top_say.2.1 9 = .ok (.if_icmp .le 6, 3) := by decide +kernel
theorem jd_Top_say_12 : decode jm_m_Top_say.2.1 12 = .ok (.bipush (-2), 2) := by decide +kernel
theorem jd_Top_say_14 : decode jm_m_Top_say.2.1 14 = .ok (.ireturn, 1) := by decide +kernel
theorem jd_Top_say_15 : decode jm_m_Top_say.2.1 15 = .ok (.aload_n 0, 1) := by decide +kernel
theorem jd_Top_say_16 : decode jm_m_Top_say.2.1 16 = .ok (.getfield 10, 3) := by decide +kernel
theorem jd_Top_say_19 : decode jm_m_Top_say.2.1 19 = .ok (.iload_n 1, 1) := by decide +kernel
theorem jd_Top_say_20 : decode jm_m_Top_say.2.1 20 = .ok (.invokevirtual 78, 3) := by decide +kernel
theorem jd_Top_say_23 : decode jm_m_Top_say.2.1 23 = .ok (.ifCond .eq 13, 3) := by decide +kernel
theorem jd_Top_say_26 : decode jm_m_Top_say.2.1 26 = .ok (.aload_n 0, 1) := by decide +kernel
theorem jd_Top_say_27 : decode jm_m_Top_say.2.1 27 = .ok (.getfield 10, 3) := by decide +kernel
theorem jd_Top_say_30 : decode jm_m_Top_say.2.1 30 = .ok (.getfield 82, 3) := by decide +kernel
theorem jd_Top_say_33 : decode jm_m_Top_say.2.1 33 = .ok (.goto 5, 3) := by decide +kernel
theorem jd_Top_say_36 : decode jm_m_Top_say.2.1 36 = .ok (.bipush (-4), 2) := by decide +kernel
theorem jd_Top_say_38 : decode jm_m_Top_say.2.1 38 = .ok (.ireturn, 1) := by decide +kernel
theorem jd_Top_wipe_0 : decode jm_m_Top_wipe.2.1 0 = .ok (.aload_n 0, 1) := by decide +kernel
theorem jd_Top_wipe_1 : decode jm_m_Top_wipe.2.1 1 = .ok (.getfield 10, 3) := by decide +kernel
theorem jd_Top_wipe_4 : decode jm_m_Top_wipe.2.1 4 = .ok (.getfield 82, 3) := by decide +kernel
theorem jd_Top_wipe_7 : decode jm_m_Top_wipe.2.1 7 = .ok (.istore_n 1, 1) := by decide +kernel
theorem jd_Top_wipe_8 : decode jm_m_Top_wipe.2.1 8 = .ok (.aload_n 0, 1) := by decide +kernel
theorem jd_Top_wipe_9 : decode jm_m_Top_wipe.2.1 9 = .ok (.getfield 10, 3) := by decide +kernel
theorem jd_Top_wipe_12 : decode jm_m_Top_wipe.2.1 12 = .ok (.iconst 0, 1) := by decide +kernel
theorem jd_Top_wipe_13 : decode jm_m_Top_wipe.2.1 13 = .ok (.putfield 82, 3) := by decide +kernel
theorem jd_Top_wipe_16 : decode jm_m_Top_wipe.2.1 16 = .ok (.iload_n 1, 1) := by decide +kernel
theorem jd_Top_wipe_17 : decode jm_m_Top_wipe.2.1 17 = .ok (.ireturn, 1) := by decide +kernel
theorem jd_Top_fault_0 : decode jm_m_Top_fault.2.1 0 = .ok (.aload_n 0, 1) := by decide +kernel
theorem jd_Top_fault_1 : decode jm_m_Top_fault.2.1 1 = .ok (.getfield 10, 3) := by decide +kernel
theorem jd_Top_fault_4 : decode jm_m_Top_fault.2.1 4 = .ok (.invokevirtual 86, 3) := by decide +kernel
theorem jd_Top_fault_7 : decode jm_m_Top_fault.2.1 7 = .ok (.ireturn, 1) := by decide +kernel
theorem jd_Top_read_0 : decode jm_m_Top_read.2.1 0 = .ok (.aload_n 0, 1) := by decide +kernel
theorem jd_Top_read_1 : decode jm_m_Top_read.2.1 1 = .ok (.getfield 10, 3) := by decide +kernel
theorem jd_Top_read_4 : decode jm_m_Top_read.2.1 4 = .ok (.invokevirtual 86, 3) := by decide +kernel
theorem jd_Top_read_7 : decode jm_m_Top_read.2.1 7 = .ok (.bipush (-6), 2) := by decide +kernel
theorem jd_Top_read_9 : decode jm_m_Top_read.2.1 9 = .ok (.if_icmp .eq 6, 3) := by decide +kernel
theorem jd_Top_read_12 : decode jm_m_Top_read.2.1 12 = .ok (.bipush (-5), 2) := by decide +kernel
theorem jd_Top_read_14 : decode jm_m_Top_read.2.1 14 = .ok (.ireturn, 1) := by decide +kernel
theorem jd_Top_read_15 : decode jm_m_Top_read.2.1 15 = .ok (.aload_n 0, 1) := by decide +kernel
theorem jd_Top_read_16 : decode jm_m_Top_read.2.1 16 = .ok (.getfield 10, 3) := by decide +kernel
theorem jd_Top_read_19 : decode jm_m_Top_read.2.1 19 = .ok (.getfield 82, 3) := by decide +kernel
theorem jd_Top_read_22 : decode jm_m_Top_read.2.1 22 = .ok (.bipush 30, 2) := by decide +kernel
theorem jd_Top_read_24 : decode jm_m_Top_read.2.1 24 = .ok (.if_icmp .le 6, 3) := by decide +kernel
theorem jd_Top_read_27 : decode jm_m_Top_read.2.1 27 = .ok (.bipush (-4), 2) := by decide +kernel
theorem jd_Top_read_29 : decode jm_m_Top_read.2.1 29 = .ok (.ireturn, 1) := by decide +kernel
theorem jd_Top_read_30 : decode jm_m_Top_read.2.1 30 = .ok (.aload_n 0, 1) := by decide +kernel
theorem jd_Top_read_31 : decode jm_m_Top_read.2.1 31 = .ok (.getfield 19, 3) := by decide +kernel
theorem jd_Top_read_34 : decode jm_m_Top_read.2.1 34 = .ok (.aload_n 0, 1) := by decide +kernel
theorem jd_Top_read_35 : decode jm_m_Top_read.2.1 35 = .ok (.getfield 10, 3) := by decide +kernel
theorem jd_Top_read_38 : decode jm_m_Top_read.2.1 38 = .ok (.invokevirtual 90, 3) := by decide +kernel
theorem jd_Top_read_41 : decode jm_m_Top_read.2.1 41 = .ok (.aload_n 0, 1) := by decide +kernel
theorem jd_Top_read_42 : decode jm_m_Top_read.2.1 42 = .ok (.getfield 35, 3) := by decide +kernel
theorem jd_Top_read_45 : decode jm_m_Top_read.2.1 45 = .ok (.iconst 1, 1) := by decide +kernel
theorem jd_Top_read_46 : decode jm_m_Top_read.2.1 46 = .ok (.putfield 94, 3) := by decide +kernel
theorem jd_Top_read_49 : decode jm_m_Top_read.2.1 49 = .ok (.aload_n 0, 1) := by decide +kernel
theorem jd_Top_read_50 : decode jm_m_Top_read.2.1 50 = .ok (.getfield 10, 3) := by decide +kernel
theorem jd_Top_read_53 : decode jm_m_Top_read.2.1 53 = .ok (.iconst 0, 1) := by decide +kernel
theorem jd_Top_read_54 : decode jm_m_Top_read.2.1 54 = .ok (.putfield 82, 3) := by decide +kernel
theorem jd_Top_read_57 : decode jm_m_Top_read.2.1 57 = .ok (.aload_n 0, 1) := by decide +kernel
theorem jd_Top_read_58 : decode jm_m_Top_read.2.1 58 = .ok (.getfield 19, 3) := by decide +kernel
theorem jd_Top_read_61 : decode jm_m_Top_read.2.1 61 = .ok (.getfield 98, 3) := by decide +kernel
theorem jd_Top_read_64 : decode jm_m_Top_read.2.1 64 = .ok (.ireturn, 1) := by decide +kernel
theorem jd_Top_node_0 : decode jm_m_Top_node.2.1 0 = .ok (.aload_n 0, 1) := by decide +kernel
theorem jd_Top_node_1 : decode jm_m_Top_node.2.1 1 = .ok (.getfield 19, 3) := by decide +kernel
theorem jd_Top_node_4 : decode jm_m_Top_node.2.1 4 = .ok (.iload_n 1, 1) := by decide +kernel
theorem jd_Top_node_5 : decode jm_m_Top_node.2.1 5 = .ok (.invokevirtual 99, 3) := by decide +kernel
theorem jd_Top_node_8 : decode jm_m_Top_node.2.1 8 = .ok (.ifCond .ne 5, 3) := by decide +kernel
theorem jd_Top_node_11 : decode jm_m_Top_node.2.1 11 = .ok (.iconst (-1), 1) := by decide +kernel
theorem jd_Top_node_12 : decode jm_m_Top_node.2.1 12 = .ok (.ireturn, 1) := by decide +kernel
theorem jd_Top_node_13 : decode jm_m_Top_node.2.1 13 = .ok (.iload_n 2, 1) := by decide +kernel
theorem jd_Top_node_14 : decode jm_m_Top_node.2.1 14 = .ok (.tableswitch 87 0 4 #[34, 44, 54, 67, 77], 34) := by decide +kernel
theorem jd_Top_node_48 : decode jm_m_Top_node.2.1 48 = .ok (.aload_n 0, 1) := by decide +kernel
theorem jd_Top_node_49 : decode jm_m_Top_node.2.1 49 = .ok (.getfield 19, 3) := by decide +kernel
theorem jd_Top_node_52 : decode jm_m_Top_node.2.1 52 = .ok (.getfield 102, 3) := by decide +kernel
theorem jd_Top_node_55 : decode jm_m_Top_node.2.1 55 = .ok (.iload_n 1, 1) := by decide +kernel
theorem jd_Top_node_56 : decode jm_m_Top_node.2.1 56 = .ok (.iaload, 1) := by decide +kernel
theorem jd_Top_node_57 : decode jm_m_Top_node.2.1 57 = .ok (.ireturn, 1) := by decide +kernel
theorem jd_Top_node_58 : decode jm_m_Top_node.2.1 58 = .ok (.aload_n 0, 1) := by decide +kernel
theorem jd_Top_node_59 : decode jm_m_Top_node.2.1 59 = .ok (.getfield 19, 3) := by decide +kernel
theorem jd_Top_node_62 : decode jm_m_Top_node.2.1 62 = .ok (.getfield 106, 3) := by decide +kernel
theorem jd_Top_node_65 : decode jm_m_Top_node.2.1 65 = .ok (.iload_n 1, 1) := by decide +kernel
theorem jd_Top_node_66 : decode jm_m_Top_node.2.1 66 = .ok (.iaload, 1) := by decide +kernel
theorem jd_Top_node_67 : decode jm_m_Top_node.2.1 67 = .ok (.ireturn, 1) := by decide +kernel
theorem jd_Top_node_68 : decode jm_m_Top_node.2.1 68 = .ok (.aload_n 0, 1) := by decide +kernel
theorem jd_Top_node_69 : decode jm_m_Top_node.2.1 69 = .ok (.getfield 19, 3) := by decide +kernel
theorem jd_Top_node_72 : decode jm_m_Top_node.2.1 72 = .ok (.getfield 102, 3) := by decide +kernel
theorem jd_Top_node_75 : decode jm_m_Top_node.2.1 75 = .ok (.iload_n 1, 1) := by decide +kernel
theorem jd_Top_node_76 : decode jm_m_Top_node.2.1 76 = .ok (.iaload, 1) := by decide +kernel
theorem jd_Top_node_77 : decode jm_m_Top_node.2.1 77 = .ok (.invokestatic 109, 3) := by decide +kernel
theorem jd_Top_node_80 : decode jm_m_Top_node.2.1 80 = .ok (.ireturn, 1) := by decide +kernel
theorem jd_Top_node_81 : decode jm_m_Top_node.2.1 81 = .ok (.aload_n 0, 1) := by decide +kernel
theorem jd_Top_node_82 : decode jm_m_Top_node.2.1 82 = .ok (.getfield 19, 3) := by decide +kernel
theorem jd_Top_node_85 : decode jm_m_Top_node.2.1 85 = .ok (.getfield 113, 3) := by decide +kernel
theorem jd_Top_node_88 : decode jm_m_Top_node.2.1 88 = .ok (.iload_n 1, 1) := by decide +kernel
theorem jd_Top_node_89 : decode jm_m_Top_node.2.1 89 = .ok (.iaload, 1) := by decide +kernel
theorem jd_Top_node_90 : decode jm_m_Top_node.2.1 90 = .ok (.ireturn, 1) := by decide +kernel
theorem jd_Top_node_91 : decode jm_m_Top_node.2.1 91 = .ok (.aload_n 0, 1) := by decide +kernel
theorem jd_Top_node_92 : decode jm_m_Top_node.2.1 92 = .ok (.getfield 19, 3) := by decide +kernel
theorem jd_Top_node_95 : decode jm_m_Top_node.2.1 95 = .ok (.getfield 116, 3) := by decide +kernel
theorem jd_Top_node_98 : decode jm_m_Top_node.2.1 98 = .ok (.iload_n 1, 1) := by decide +kernel
theorem jd_Top_node_99 : decode jm_m_Top_node.2.1 99 = .ok (.iaload, 1) := by decide +kernel
theorem jd_Top_node_100 : decode jm_m_Top_node.2.1 100 = .ok (.ireturn, 1) := by decide +kernel
theorem jd_Top_node_101 : decode jm_m_Top_node.2.1 101 = .ok (.bipush (-2), 2) := by decide +kernel
theorem jd_Top_node_103 : decode jm_m_Top_node.2.1 103 = .ok (.ireturn, 1) := by decide +kernel
theorem jd_Top_pattern_0 : decode jm_m_Top_pattern.2.1 0 = .ok (.iload_n 1, 1) := by decide +kernel
theorem jd_Top_pattern_1 : decode jm_m_Top_pattern.2.1 1 = .ok (.invokestatic 119, 3) := by decide +kernel
theorem jd_Top_pattern_4 : decode jm_m_Top_pattern.2.1 4 = .ok (.ifCond .eq 10, 3) := by decide +kernel
theorem jd_Top_pattern_7 : decode jm_m_Top_pattern.2.1 7 = .ok (.iload_n 2, 1) := by decide +kernel
theorem jd_Top_pattern_8 : decode jm_m_Top_pattern.2.1 8 = .ok (.invokestatic 122, 3) := by decide +kernel
theorem jd_Top_pattern_11 : decode jm_m_Top_pattern.2.1 11 = .ok (.ifCond .ne 6, 3) := by decide +kernel
theorem jd_Top_pattern_14 : decode jm_m_Top_pattern.2.1 14 = .ok (.bipush (-2), 2) := by decide +kernel
theorem jd_Top_pattern_16 : decode jm_m_Top_pattern.2.1 16 = .ok (.ireturn, 1) := by decide +kernel
theorem jd_Top_pattern_17 : decode jm_m_Top_pattern.2.1 17 = .ok (.aload_n 0, 1) := by decide +kernel
theorem jd_Top_pattern_18 : decode jm_m_Top_pattern.2.1 18 = .ok (.getfield 26, 3) := by decide +kernel
theorem jd_Top_pattern_21 : decode jm_m_Top_pattern.2.1 21 = .ok (.getfield 125, 3) := by decide +kernel
theorem jd_Top_pattern_24 : decode jm_m_Top_pattern.2.1 24 = .ok (.bipush 16, 2) := by decide +kernel
theorem jd_Top_pattern_26 : decode jm_m_Top_pattern.2.1 26 = .ok (.if_icmp .lt 6, 3) := by decide +kernel
theorem jd_Top_pattern_29 : decode jm_m_Top_pattern.2.1 29 = .ok (.bipush (-4), 2) := by decide +kernel
theorem jd_Top_pattern_31 : decode jm_m_Top_pattern.2.1 31 = .ok (.ireturn, 1) := by decide +kernel
theorem jd_Top_pattern_32 : decode jm_m_Top_pattern.2.1 32 = .ok (.aload_n 0, 1) := by decide +kernel
theorem jd_Top_pattern_33 : decode jm_m_Top_pattern.2.1 33 = .ok (.getfield 26, 3) := by decide +kernel
theorem jd_Top_pattern_36 : decode jm_m_Top_pattern.2.1 36 = .ok (.aload_n 0, 1) := by decide +kernel
theorem jd_Top_pattern_37 : decode jm_m_Top_pattern.2.1 37 = .ok (.getfield 10, 3) := by decide +kernel
theorem jd_Top_pattern_40 : decode jm_m_Top_pattern.2.1 40 = .ok (.iload_n 1, 1) := by decide +kernel
theorem jd_Top_pattern_41 : decode jm_m_Top_pattern.2.1 41 = .ok (.invokevirtual 126, 3) := by decide +kernel
theorem jd_Top_pattern_44 : decode jm_m_Top_pattern.2.1 44 = .ok (.ifCond .ne 6, 3) := by decide +kernel
theorem jd_Top_pattern_47 : decode jm_m_Top_pattern.2.1 47 = .ok (.bipush (-5), 2) := by decide +kernel
theorem jd_Top_pattern_49 : decode jm_m_Top_pattern.2.1 49 = .ok (.ireturn, 1) := by decide +kernel
theorem jd_Top_pattern_50 : decode jm_m_Top_pattern.2.1 50 = .ok (.aload_n 0, 1) := by decide +kernel
theorem jd_Top_pattern_51 : decode jm_m_Top_pattern.2.1 51 = .ok (.getfield 26, 3) := by decide +kernel
theorem jd_Top_pattern_54 : decode jm_m_Top_pattern.2.1 54 = .ok (.aload_n 0, 1) := by decide +kernel
theorem jd_Top_pattern_55 : decode jm_m_Top_pattern.2.1 55 = .ok (.getfield 10, 3) := by decide +kernel
theorem jd_Top_pattern_58 : decode jm_m_Top_pattern.2.1 58 = .ok (.iload_n 1, 1) := by decide +kernel
theorem jd_Top_pattern_59 : decode jm_m_Top_pattern.2.1 59 = .ok (.iload_n 2, 1) := by decide +kernel
theorem jd_Top_pattern_60 : decode jm_m_Top_pattern.2.1 60 = .ok (.invokevirtual 130, 3) := by decide +kernel
theorem jd_Top_pattern_63 : decode jm_m_Top_pattern.2.1 63 = .ok (.aload_n 0, 1) := by decide +kernel
theorem jd_Top_pattern_64 : decode jm_m_Top_pattern.2.1 64 = .ok (.getfield 35, 3) := by decide +kernel
theorem jd_Top_pattern_67 : decode jm_m_Top_pattern.2.1 67 = .ok (.iconst 1, 1) := by decide +kernel
theorem jd_Top_pattern_68 : decode jm_m_Top_pattern.2.1 68 = .ok (.putfield 94, 3) := by decide +kernel
theorem jd_Top_pattern_71 : decode jm_m_Top_pattern.2.1 71 = .ok (.aload_n 0, 1) := by decide +kernel
theorem jd_Top_pattern_72 : decode jm_m_Top_pattern.2.1 72 = .ok (.getfield 10, 3) := by decide +kernel
theorem jd_Top_pattern_75 : decode jm_m_Top_pattern.2.1 75 = .ok (.iconst 0, 1) := by decide +kernel
theorem jd_Top_pattern_76 : decode jm_m_Top_pattern.2.1 76 = .ok (.putfield 82, 3) := by decide +kernel
theorem jd_Top_pattern_79 : decode jm_m_Top_pattern.2.1 79 = .ok (.aload_n 0, 1) := by decide +kernel
theorem jd_Top_pattern_80 : decode jm_m_Top_pattern.2.1 80 = .ok (.getfield 26, 3) := by decide +kernel
theorem jd_Top_pattern_83 : decode jm_m_Top_pattern.2.1 83 = .ok (.getfield 125, 3) := by decide +kernel
theorem jd_Top_pattern_86 : decode jm_m_Top_pattern.2.1 86 = .ok (.iconst 1, 1) := by decide +kernel
theorem jd_Top_pattern_87 : decode jm_m_Top_pattern.2.1 87 = .ok (.isub, 1) := by decide +kernel
theorem jd_Top_pattern_88 : decode jm_m_Top_pattern.2.1 88 = .ok (.ireturn, 1) := by decide +kernel
theorem jd_Top_price_0 : decode jm_m_Top_price.2.1 0 = .ok (.iload_n 1, 1) := by decide +kernel
theorem jd_Top_price_1 : decode jm_m_Top_price.2.1 1 = .ok (.ifCond .lt 14, 3) := by decide +kernel
theorem jd_Top_price_4 : decode jm_m_Top_price.2.1 4 = .ok (.iload_n 1, 1) := by decide +kernel
theorem jd_Top_price_5 : decode jm_m_Top_price.2.1 5 = .ok (.aload_n 0, 1) := by decide +kernel
theorem jd_Top_price_6 : decode jm_m_Top_price.2.1 6 = .ok (.getfield 26, 3) := by decide +kernel
theorem jd_Top_price_9 : decode jm_m_Top_price.2.1 9 = .ok (.getfield 125, 3) := by decide +kernel
theorem jd_Top_price_12 : decode jm_m_Top_price.2.1 12 = .ok (.if_icmp .lt 5, 3) := by decide +kernel
theorem jd_Top_price_15 : decode jm_m_Top_price.2.1 15 = .ok (.iconst (-1), 1) := by decide +kernel
theorem jd_Top_price_16 : decode jm_m_Top_price.2.1 16 = .ok (.ireturn, 1) := by decide +kernel
theorem jd_Top_price_17 : decode jm_m_Top_price.2.1 17 = .ok (.iload_n 2, 1) := by decide +kernel
theorem jd_Top_price_18 : decode jm_m_Top_price.2.1 18 = .ok (.invokestatic 122, 3) := by decide +kernel
theorem jd_Top_price_21 : decode jm_m_Top_price.2.1 21 = .ok (.ifCond .ne 6, 3) := by decide +kernel
theorem jd_Top_price_24 : decode jm_m_Top_price.2.1 24 = .ok (.bipush (-2), 2) := by decide +kernel
theorem jd_Top_price_26 : decode jm_m_Top_price.2.1 26 = .ok (.ireturn, 1) := by decide +kernel
theorem jd_Top_price_27 : decode jm_m_Top_price.2.1 27 = .ok (.aload_n 0, 1) := by decide +kernel
theorem jd_Top_price_28 : decode jm_m_Top_price.2.1 28 = .ok (.getfield 26, 3) := by decide +kernel
theorem jd_Top_price_31 : decode jm_m_Top_price.2.1 31 = .ok (.getfield 133, 3) := by decide +kernel
theorem jd_Top_price_34 : decode jm_m_Top_price.2.1 34 = .ok (.iload_n 1, 1) := by decide +kernel
theorem jd_Top_price_35 : decode jm_m_Top_price.2.1 35 = .ok (.iaload, 1) := by decide +kernel
theorem jd_Top_price_36 : decode jm_m_Top_price.2.1 36 = .ok (.istore_n 3, 1) := by decide +kernel
theorem jd_Top_price_37 : decode jm_m_Top_price.2.1 37 = .ok (.aload_n 0, 1) := by decide +kernel
theorem jd_Top_price_38 : decode jm_m_Top_price.2.1 38 = .ok (.getfield 26, 3) := by decide +kernel
theorem jd_Top_price_41 : decode jm_m_Top_price.2.1 41 = .ok (.getfield 133, 3) := by decide +kernel
theorem jd_Top_price_44 : decode jm_m_Top_price.2.1 44 = .ok (.iload_n 1, 1) := by decide +kernel
theorem jd_Top_price_45 : decode jm_m_Top_price.2.1 45 = .ok (.iload_n 2, 1) := by decide +kernel
theorem jd_Top_price_46 : decode jm_m_Top_price.2.1 46 = .ok (.iastore, 1) := by decide +kernel
theorem jd_Top_price_47 : decode jm_m_Top_price.2.1 47 = .ok (.aload_n 0, 1) := by decide +kernel
theorem jd_Top_price_48 : decode jm_m_Top_price.2.1 48 = .ok (.getfield 35, 3) := by decide +kernel
theorem jd_Top_price_51 : decode jm_m_Top_price.2.1 51 = .ok (.iconst 1, 1) := by decide +kernel
theorem jd_Top_price_52 : decode jm_m_Top_price.2.1 52 = .ok (.putfield 94, 3) := by decide +kernel
theorem jd_Top_price_55 : decode jm_m_Top_price.2.1 55 = .ok (.iload_n 3, 1) := by decide +kernel
theorem jd_Top_price_56 : decode jm_m_Top_price.2.1 56 = .ok (.ireturn, 1) := by decide +kernel
theorem jd_Top_clear_0 : decode jm_m_Top_clear.2.1 0 = .ok (.aload_n 0, 1) := by decide +kernel
theorem jd_Top_clear_1 : decode jm_m_Top_clear.2.1 1 = .ok (.getfield 26, 3) := by decide +kernel
theorem jd_Top_clear_4 : decode jm_m_Top_clear.2.1 4 = .ok (.getfield 125, 3) := by decide +kernel
theorem jd_Top_clear_7 : decode jm_m_Top_clear.2.1 7 = .ok (.istore_n 1, 1) := by decide +kernel
theorem jd_Top_clear_8 : decode jm_m_Top_clear.2.1 8 = .ok (.aload_n 0, 1) := by decide +kernel
theorem jd_Top_clear_9 : decode jm_m_Top_clear.2.1 9 = .ok (.getfield 26, 3) := by decide +kernel
theorem jd_Top_clear_12 : decode jm_m_Top_clear.2.1 12 = .ok (.iconst 0, 1) := by decide +kernel
theorem jd_Top_clear_13 : decode jm_m_Top_clear.2.1 13 = .ok (.putfield 125, 3) := by decide +kernel
theorem jd_Top_clear_16 : decode jm_m_Top_clear.2.1 16 = .ok (.aload_n 0, 1) := by decide +kernel
theorem jd_Top_clear_17 : decode jm_m_Top_clear.2.1 17 = .ok (.getfield 35, 3) := by decide +kernel
theorem jd_Top_clear_20 : decode jm_m_Top_clear.2.1 20 = .ok (.iconst 1, 1) := by decide +kernel
theorem jd_Top_clear_21 : decode jm_m_Top_clear.2.1 21 = .ok (.putfield 94, 3) := by decide +kernel
theorem jd_Top_clear_24 : decode jm_m_Top_clear.2.1 24 = .ok (.iload_n 1, 1) := by decide +kernel
theorem jd_Top_clear_25 : decode jm_m_Top_clear.2.1 25 = .ok (.ireturn, 1) := by decide +kernel
theorem jd_Top_cover_0 : decode jm_m_Top_cover.2.1 0 = .ok (.aload_n 0, 1) := by decide +kernel
theorem jd_Top_cover_1 : decode jm_m_Top_cover.2.1 1 = .ok (.getfield 19, 3) := by decide +kernel
theorem jd_Top_cover_4 : decode jm_m_Top_cover.2.1 4 = .ok (.iload_n 1, 1) := by decide +kernel
theorem jd_Top_cover_5 : decode jm_m_Top_cover.2.1 5 = .ok (.invokevirtual 99, 3) := by decide +kernel
theorem jd_Top_cover_8 : decode jm_m_Top_cover.2.1 8 = .ok (.ifCond .ne 5, 3) := by decide +kernel
theorem jd_Top_cover_11 : decode jm_m_Top_cover.2.1 11 = .ok (.iconst (-1), 1) := by decide +kernel
theorem jd_Top_cover_12 : decode jm_m_Top_cover.2.1 12 = .ok (.ireturn, 1) := by decide +kernel
theorem jd_Top_cover_13 : decode jm_m_Top_cover.2.1 13 = .ok (.iload_n 2, 1) := by decide +kernel
theorem jd_Top_cover_14 : decode jm_m_Top_cover.2.1 14 = .ok (.invokestatic 119, 3) := by decide +kernel
theorem jd_Top_cover_17 : decode jm_m_Top_cover.2.1 17 = .ok (.ifCond .eq 10, 3) := by decide +kernel
theorem jd_Top_cover_20 : decode jm_m_Top_cover.2.1 20 = .ok (.iload_n 3, 1) := by decide +kernel
theorem jd_Top_cover_21 : decode jm_m_Top_cover.2.1 21 = .ok (.invokestatic 136, 3) := by decide +kernel
theorem jd_Top_cover_24 : decode jm_m_Top_cover.2.1 24 = .ok (.ifCond .ne 6, 3) := by decide +kernel
theorem jd_Top_cover_27 : decode jm_m_Top_cover.2.1 27 = .ok (.bipush (-2), 2) := by decide +kernel
theorem jd_Top_cover_29 : decode jm_m_Top_cover.2.1 29 = .ok (.ireturn, 1) := by decide +kernel
theorem jd_Top_cover_30 : decode jm_m_Top_cover.2.1 30 = .ok (.aload_n 0, 1) := by decide +kernel
theorem jd_Top_cover_31 : decode jm_m_Top_cover.2.1 31 = .ok (.getfield 35, 3) := by decide +kernel
theorem jd_Top_cover_34 : decode jm_m_Top_cover.2.1 34 = .ok (.invokevirtual 139, 3) := by decide +kernel
theorem jd_Top_cover_37 : decode jm_m_Top_cover.2.1 37 = .ok (.iload_n 1, 1) := by decide +kernel
theorem jd_Top_cover_38 : decode jm_m_Top_cover.2.1 38 = .ok (.iload_n 2, 1) := by decide +kernel
theorem jd_Top_cover_39 : decode jm_m_Top_cover.2.1 39 = .ok (.invokestatic 142, 3) := by decide +kernel
theorem jd_Top_cover_42 : decode jm_m_Top_cover.2.1 42 = .ok (.istore 4, 2) := by decide +kernel
theorem jd_Top_cover_44 : decode jm_m_Top_cover.2.1 44 = .ok (.aload_n 0, 1) := by decide +kernel
theorem jd_Top_cover_45 : decode jm_m_Top_cover.2.1 45 = .ok (.getfield 35, 3) := by decide +kernel
theorem jd_Top_cover_48 : decode jm_m_Top_cover.2.1 48 = .ok (.getfield 146, 3) := by decide +kernel
theorem jd_Top_cover_51 : decode jm_m_Top_cover.2.1 51 = .ok (.iload 4, 2) := by decide +kernel
theorem jd_Top_cover_53 : decode jm_m_Top_cover.2.1 53 = .ok (.iaload, 1) := by decide +kernel
theorem jd_Top_cover_54 : decode jm_m_Top_cover.2.1 54 = .ok (.ifCond .ge 6, 3) := by decide +kernel
theorem jd_Top_cover_57 : decode jm_m_Top_cover.2.1 57 = .ok (.bipush (-6), 2) := by decide +kernel
theorem jd_Top_cover_59 : decode jm_m_Top_cover.2.1 59 = .ok (.ireturn, 1) := by decide +kernel
theorem jd_Top_cover_60 : decode jm_m_Top_cover.2.1 60 = .ok (.iload_n 3, 1) := by decide +kernel
theorem jd_Top_cover_61 : decode jm_m_Top_cover.2.1 61 = .ok (.ifCond .ne 16, 3) := by decide +kernel
theorem jd_Top_cover_64 : decode jm_m_Top_cover.2.1 64 = .ok (.aload_n 0, 1) := by decide +kernel
theorem jd_Top_cover_65 : decode jm_m_Top_cover.2.1 65 = .ok (.getfield 35, 3) := by decide +kernel
theorem jd_Top_cover_68 : decode jm_m_Top_cover.2.1 68 = .ok (.getfield 149, 3) := by decide +kernel
theorem jd_Top_cover_71 : decode jm_m_Top_cover.2.1 71 = .ok (.iload 4, 2) := by decide +kernel
theorem jd_Top_cover_73 : decode jm_m_Top_cover.2.1 73 = .ok (.iaload, 1) := by decide +kernel
theorem jd_Top_cover_74 : decode jm_m_Top_cover.2.1 74 = .ok (.goto 13, 3) := by decide +kernel
theorem jd_Top_cover_77 : decode jm_m_Top_cover.2.1 77 = .ok (.aload_n 0, 1) := by decide +kernel
theorem jd_Top_cover_78 : decode jm_m_Top_cover.2.1 78 = .ok (.getfield 35, 3) := by decide +kernel
theorem jd_Top_cover_81 : decode jm_m_Top_cover.2.1 81 = .ok (.getfield 146, 3) := by decide +kernel
theorem jd_Top_cover_84 : decode jm_m_Top_cover.2.1 84 = .ok (.iload 4, 2) := by decide +kernel
theorem jd_Top_cover_86 : decode jm_m_Top_cover.2.1 86 = .ok (.iaload, 1) := by decide +kernel
theorem jd_Top_cover_87 : decode jm_m_Top_cover.2.1 87 = .ok (.ireturn, 1) := by decide +kernel
theorem jd_Top_code_0 : decode jm_m_Top_code.2.1 0 = .ok (.iload_n 2, 1) := by decide +kernel
theorem jd_Top_code_1 : decode jm_m_Top_code.2.1 1 = .ok (.invokestatic 136, 3) := by decide +kernel
theorem jd_Top_code_4 : decode jm_m_Top_code.2.1 4 = .ok (.ifCond .ne 6, 3) := by decide +kernel
theorem jd_Top_code_7 : decode jm_m_Top_code.2.1 7 = .ok (.bipush (-2), 2) := by decide +kernel
theorem jd_Top_code_9 : decode jm_m_Top_code.2.1 9 = .ok (.ireturn, 1) := by decide +kernel
theorem jd_Top_code_10 : decode jm_m_Top_code.2.1 10 = .ok (.aload_n 0, 1) := by decide +kernel
theorem jd_Top_code_11 : decode jm_m_Top_code.2.1 11 = .ok (.getfield 19, 3) := by decide +kernel
theorem jd_Top_code_14 : decode jm_m_Top_code.2.1 14 = .ok (.getfield 98, 3) := by decide +kernel
theorem jd_Top_code_17 : decode jm_m_Top_code.2.1 17 = .ok (.ifCond .ne 6, 3) := by decide +kernel
theorem jd_Top_code_20 : decode jm_m_Top_code.2.1 20 = .ok (.bipush (-3), 2) := by decide +kernel
theorem jd_Top_code_22 : decode jm_m_Top_code.2.1 22 = .ok (.ireturn, 1) := by decide +kernel
theorem jd_Top_code_23 : decode jm_m_Top_code.2.1 23 = .ok (.aload_n 0, 1) := by decide +kernel
theorem jd_Top_code_24 : decode jm_m_Top_code.2.1 24 = .ok (.getfield 35, 3) := by decide +kernel
theorem jd_Top_code_27 : decode jm_m_Top_code.2.1 27 = .ok (.invokevirtual 139, 3) := by decide +kernel
theorem jd_Top_code_30 : decode jm_m_Top_code.2.1 30 = .ok (.aload_n 0, 1) := by decide +kernel
theorem jd_Top_code_31 : decode jm_m_Top_code.2.1 31 = .ok (.getfield 35, 3) := by decide +kernel
theorem jd_Top_code_34 : decode jm_m_Top_code.2.1 34 = .ok (.getfield 152, 3) := by decide +kernel
theorem jd_Top_code_37 : decode jm_m_Top_code.2.1 37 = .ok (.ifCond .ne 6, 3) := by decide +kernel
theorem jd_Top_code_40 : decode jm_m_Top_code.2.1 40 = .ok (.bipush (-5), 2) := by decide +kernel
theorem jd_Top_code_42 : decode jm_m_Top_code.2.1 42 = .ok (.ireturn, 1) := by decide +kernel
theorem jd_Top_code_43 : decode jm_m_Top_code.2.1 43 = .ok (.iload_n 1, 1) := by decide +kernel
theorem jd_Top_code_44 : decode jm_m_Top_code.2.1 44 = .ok (.iconst (-1), 1) := by decide +kernel
theorem jd_Top_code_45 : decode jm_m_Top_code.2.1 45 = .ok (.if_icmp .ne 11, 3) := by decide +kernel
theorem jd_Top_code_48 : decode jm_m_Top_code.2.1 48 = .ok (.aload_n 0, 1) := by decide +kernel
theorem jd_Top_code_49 : decode jm_m_Top_code.2.1 49 = .ok (.getfield 35, 3) := by decide +kernel
theorem jd_Top_code_52 : decode jm_m_Top_code.2.1 52 = .ok (.getfield 152, 3) := by decide +kernel
theorem jd_Top_code_55 : decode jm_m_Top_code.2.1 55 = .ok (.ireturn, 1) := by decide +kernel
theorem jd_Top_code_56 : decode jm_m_Top_code.2.1 56 = .ok (.iload_n 1, 1) := by decide +kernel
theorem jd_Top_code_57 : decode jm_m_Top_code.2.1 57 = .ok (.ifCond .lt 14, 3) := by decide +kernel
theorem jd_Top_code_60 : decode jm_m_Top_code.2.1 60 = .ok (.iload_n 1, 1) := by decide +kernel
theorem jd_Top_code_61 : decode jm_m_Top_code.2.1 61 = .ok (.aload_n 0, 1) := by decide +kernel
theorem jd_Top_code_62 : decode jm_m_Top_code.2.1 62 = .ok (.getfield 35, 3) := by decide +kernel
theorem jd_Top_code_65 : decode jm_m_Top_code.2.1 65 = .ok (.getfield 152, 3) := by decide +kernel
theorem jd_Top_code_68 : decode jm_m_Top_code.2.1 68 = .ok (.if_icmp .lt 6, 3) := by decide +kernel
theorem jd_Top_code_71 : decode jm_m_Top_code.2.1 71 = .ok (.bipush (-6), 2) := by decide +kernel
theorem jd_Top_code_73 : decode jm_m_Top_code.2.1 73 = .ok (.ireturn, 1) := by decide +kernel
theorem jd_Top_code_74 : decode jm_m_Top_code.2.1 74 = .ok (.iload_n 2, 1) := by decide +kernel
theorem jd_Top_code_75 : decode jm_m_Top_code.2.1 75 = .ok (.ifCond .ne 15, 3) := by decide +kernel
theorem jd_Top_code_78 : decode jm_m_Top_code.2.1 78 = .ok (.aload_n 0, 1) := by decide +kernel
theorem jd_Top_code_79 : decode jm_m_Top_code.2.1 79 = .ok (.getfield 35, 3) := by decide +kernel
theorem jd_Top_code_82 : decode jm_m_Top_code.2.1 82 = .ok (.getfield 155, 3) := by decide +kernel
theorem jd_Top_code_85 : decode jm_m_Top_code.2.1 85 = .ok (.iload_n 1, 1) := by decide +kernel
theorem jd_Top_code_86 : decode jm_m_Top_code.2.1 86 = .ok (.iaload, 1) := by decide +kernel
theorem jd_Top_code_87 : decode jm_m_Top_code.2.1 87 = .ok (.goto 12, 3) := by decide +kernel
theorem jd_Top_code_90 : decode jm_m_Top_code.2.1 90 = .ok (.aload_n 0, 1) := by decide +kernel
theorem jd_Top_code_91 : decode jm_m_Top_code.2.1 91 = .ok (.getfield 35, 3) := by decide +kernel
theorem jd_Top_code_94 : decode jm_m_Top_code.2.1 94 = .ok (.getfield 158, 3) := by decide +kernel
theorem jd_Top_code_97 : decode jm_m_Top_code.2.1 97 = .ok (.iload_n 1, 1) := by decide +kernel
theorem jd_Top_code_98 : decode jm_m_Top_code.2.1 98 = .ok (.iaload, 1) := by decide +kernel
theorem jd_Top_code_99 : decode jm_m_Top_code.2.1 99 = .ok (.ireturn, 1) := by decide +kernel
theorem jd_Top_stores_0 : decode jm_m_Top_stores.2.1 0 = .ok (.iload_n 1, 1) := by decide +kernel
theorem jd_Top_stores_1 : decode jm_m_Top_stores.2.1 1 = .ok (.iconst 2, 1) := by decide +kernel
theorem jd_Top_stores_2 : decode jm_m_Top_stores.2.1 2 = .ok (.if_icmp .lt 9, 3) := by decide +kernel
theorem jd_Top_stores_5 : decode jm_m_Top_stores.2.1 5 = .ok (.iload_n 1, 1) := by decide +kernel
theorem jd_Top_stores_6 : decode jm_m_Top_stores.2.1 6 = .ok (.bipush 8, 2) := by decide +kernel
theorem jd_Top_stores_8 : decode jm_m_Top_stores.2.1 8 = .ok (.if_icmp .le 6, 3) := by decide +kernel
theorem jd_Top_stores_11 : decode jm_m_Top_stores.2.1 11 = .ok (.bipush (-2), 2) := by decide +kernel
theorem jd_Top_stores_13 : decode jm_m_Top_stores.2.1 13 = .ok (.ireturn, 1) := by decide +kernel
theorem jd_Top_stores_14 : decode jm_m_Top_stores.2.1 14 = .ok (.aload_n 0, 1) := by decide +kernel
theorem jd_Top_stores_15 : decode jm_m_Top_stores.2.1 15 = .ok (.getfield 19, 3) := by decide +kernel
theorem jd_Top_stores_18 : decode jm_m_Top_stores.2.1 18 = .ok (.getfield 98, 3) := by decide +kernel
theorem jd_Top_stores_21 : decode jm_m_Top_stores.2.1 21 = .ok (.ifCond .ne 8, 3) := by decide +kernel
theorem jd_Top_stores_24 : decode jm_m_Top_stores.2.1 24 = .ok (.bipush (-3), 2) := by decide +kernel
theorem jd_Top_stores_26 : decode jm_m_Top_stores.2.1 26 = .ok (.goto 11, 3) := by decide +kernel
theorem jd_Top_stores_29 : decode jm_m_Top_stores.2.1 29 = .ok (.aload_n 0, 1) := by decide +kernel
theorem jd_Top_stores_30 : decode jm_m_Top_stores.2.1 30 = .ok (.getfield 19, 3) := by decide +kernel
theorem jd_Top_stores_33 : decode jm_m_Top_stores.2.1 33 = .ok (.iload_n 1, 1) := by decide +kernel
theorem jd_Top_stores_34 : decode jm_m_Top_stores.2.1 34 = .ok (.invokevirtual 161, 3) := by decide +kernel
theorem jd_Top_stores_37 : decode jm_m_Top_stores.2.1 37 = .ok (.ireturn, 1) := by decide +kernel
theorem jd_Top_add_0 : decode jm_m_Top_add.2.1 0 = .ok (.iload_n 1, 1) := by decide +kernel
theorem jd_Top_add_1 : decode jm_m_Top_add.2.1 1 = .ok (.invokestatic 164, 3) := by decide +kernel
theorem jd_Top_add_4 : decode jm_m_Top_add.2.1 4 = .ok (.ifCond .eq 25, 3) := by decide +kernel
theorem jd_Top_add_7 : decode jm_m_Top_add.2.1 7 = .ok (.iload_n 2, 1) := by decide +kernel
theorem jd_Top_add_8 : decode jm_m_Top_add.2.1 8 = .ok (.invokestatic 167, 3) := by decide +kernel
theorem jd_Top_add_11 : decode jm_m_Top_add.2.1 11 = .ok (.ifCond .eq 18, 3) := by decide +kernel
theorem jd_Top_add_14 : decode jm_m_Top_add.2.1 14 = .ok (.iload_n 3, 1) := by decide +kernel
theorem jd_Top_add_15 : decode jm_m_Top_add.2.1 15 = .ok (.invokestatic 167, 3) := by decide +kernel
theorem jd_Top_add_18 : decode jm_m_Top_add.2.1 18 = .ok (.ifCond .eq 11, 3) := by decide +kernel
theorem jd_Top_add_21 : decode jm_m_Top_add.2.1 21 = .ok (.iload 4, 2) := by decide +kernel
theorem jd_Top_add_23 : decode jm_m_Top_add.2.1 23 = .ok (.invokestatic 167, 3) := by decide +kernel
theorem jd_Top_add_26 : decode jm_m_Top_add.2.1 26 = .ok (.ifCond .ne 6, 3) := by decide +kernel
theorem jd_Top_add_29 : decode jm_m_Top_add.2.1 29 = .ok (.bipush (-2), 2) := by decide +kernel
theorem jd_Top_add_31 : decode jm_m_Top_add.2.1 31 = .ok (.ireturn, 1) := by decide +kernel
theorem jd_Top_add_32 : decode jm_m_Top_add.2.1 32 = .ok (.iload 5, 2) := by decide +kernel
theorem jd_Top_add_34 : decode jm_m_Top_add.2.1 34 = .ok (.iconst 1, 1) := by decide +kernel
theorem jd_Top_add_35 : decode jm_m_Top_add.2.1 35 = .ok (.if_icmp .lt 21, 3) := by decide +kernel
theorem jd_Top_add_38 : decode jm_m_Top_add.2.1 38 = .ok (.iload 5, 2) := by decide +kernel
theorem jd_Top_add_40 : decode jm_m_Top_add.2.1 40 = .ok (.iconst 5, 1) := by decide +kernel
theorem jd_Top_add_41 : decode jm_m_Top_add.2.1 41 = .ok (.if_icmp .gt 15, 3) := by decide +kernel
theorem jd_Top_add_44 : decode jm_m_Top_add.2.1 44 = .ok (.iload_n 1, 1) := by decide +kernel
theorem jd_Top_add_45 : decode jm_m_Top_add.2.1 45 = .ok (.invokestatic 170, 3) := by decide +kernel
theorem jd_Top_add_48 : decode jm_m_Top_add.2.1 48 = .ok (.ifCond .ne 11, 3) := by decide +kernel
theorem jd_Top_add_51 : decode jm_m_Top_add.2.1 51 = .ok (.iload 4, 2) := by decide +kernel
theorem jd_Top_add_53 : decode jm_m_Top_add.2.1 53 = .ok (.ifCond .eq 6, 3) := by decide +kernel
theorem jd_Top_add_56 : decode jm_m_Top_add.2.1 56 = .ok (.bipush (-2), 2) := by decide +kernel
theorem jd_Top_add_58 : decode jm_m_Top_add.2.1 58 = .ok (.ireturn, 1) := by decide +kernel
theorem jd_Top_add_59 : decode jm_m_Top_add.2.1 59 = .ok (.aload_n 0, 1) := by decide +kernel
