theorem jd_Mod_fault_2 : decode jm_m_Mod_fault.2.1 2 = .ok (.invokevirtual 165, 3) := by decide +kernel
theorem jd_Mod_fault_5 : decode jm_m_Mod_fault.2.1 5 = .ok (.ireturn, 1) := by decide +kernel
theorem jd_Mod_read_0 : decode jm_m_Mod_read.2.1 0 = .ok (.aload_n 0, 1) := by decide +kernel
theorem jd_Mod_read_1 : decode jm_m_Mod_read.2.1 1 = .ok (.iconst 0, 1) := by decide +kernel
theorem jd_Mod_read_2 : decode jm_m_Mod_read.2.1 2 = .ok (.invokevirtual 165, 3) := by decide +kernel
theorem jd_Mod_read_5 : decode jm_m_Mod_read.2.1 5 = .ok (.ifCond .lt 6, 3) := by decide +kernel
theorem jd_Mod_read_8 : decode jm_m_Mod_read.2.1 8 = .ok (.bipush (-5), 2) := by decide +kernel
theorem jd_Mod_read_10 : decode jm_m_Mod_read.2.1 10 = .ok (.ireturn, 1) := by decide +kernel
theorem jd_Mod_read_11 : decode jm_m_Mod_read.2.1 11 = .ok (.aload_n 0, 1) := by decide +kernel
theorem jd_Mod_read_12 : decode jm_m_Mod_read.2.1 12 = .ok (.getfield 148, 3) := by decide +kernel
theorem jd_Mod_read_15 : decode jm_m_Mod_read.2.1 15 = .ok (.bipush 30, 2) := by decide +kernel
theorem jd_Mod_read_17 : decode jm_m_Mod_read.2.1 17 = .ok (.if_icmp .le 6, 3) := by decide +kernel
theorem jd_Mod_read_20 : decode jm_m_Mod_read.2.1 20 = .ok (.bipush (-4), 2) := by decide +kernel
theorem jd_Mod_read_22 : decode jm_m_Mod_read.2.1 22 = .ok (.ireturn, 1) := by decide +kernel
theorem jd_Mod_read_23 : decode jm_m_Mod_read.2.1 23 = .ok (.aload_n 0, 1) := by decide +kernel
theorem jd_Mod_read_24 : decode jm_m_Mod_read.2.1 24 = .ok (.aload_n 0, 1) := by decide +kernel
theorem jd_Mod_read_25 : decode jm_m_Mod_read.2.1 25 = .ok (.getfield 148, 3) := by decide +kernel
theorem jd_Mod_read_28 : decode jm_m_Mod_read.2.1 28 = .ok (.putfield 169, 3) := by decide +kernel
theorem jd_Mod_read_31 : decode jm_m_Mod_read.2.1 31 = .ok (.iconst 0, 1) := by decide +kernel
theorem jd_Mod_read_32 : decode jm_m_Mod_read.2.1 32 = .ok (.istore_n 1, 1) := by decide +kernel
theorem jd_Mod_read_33 : decode jm_m_Mod_read.2.1 33 = .ok (.iload_n 1, 1) := by decide +kernel
theorem jd_Mod_read_34 : decode jm_m_Mod_read.2.1 34 = .ok (.aload_n 0, 1) := by decide +kernel
theorem jd_Mod_read_35 : decode jm_m_Mod_read.2.1 35 = .ok (.getfield 169, 3) := by decide +kernel
theorem jd_Mod_read_38 : decode jm_m_Mod_read.2.1 38 = .ok (.if_icmp .ge 33, 3) := by decide +kernel
theorem jd_Mod_read_41 : decode jm_m_Mod_read.2.1 41 = .ok (.aload_n 0, 1) := by decide +kernel
theorem jd_Mod_read_42 : decode jm_m_Mod_read.2.1 42 = .ok (.getfield 13, 3) := by decide +kernel
theorem jd_Mod_read_45 : decode jm_m_Mod_read.2.1 45 = .ok (.iload_n 1, 1) := by decide +kernel
theorem jd_Mod_read_46 : decode jm_m_Mod_read.2.1 46 = .ok (.aload_n 0, 1) := by decide +kernel
theorem jd_Mod_read_47 : decode jm_m_Mod_read.2.1 47 = .ok (.getfield 19, 3) := by decide +kernel
theorem jd_Mod_read_50 : decode jm_m_Mod_read.2.1 50 = .ok (.iload_n 1, 1) := by decide +kernel
theorem jd_Mod_read_51 : decode jm_m_Mod_read.2.1 51 = .ok (.iaload, 1) := by decide +kernel
theorem jd_Mod_read_52 : decode jm_m_Mod_read.2.1 52 = .ok (.iastore, 1) := by decide +kernel
theorem jd_Mod_read_53 : decode jm_m_Mod_read.2.1 53 = .ok (.aload_n 0, 1) := by decide +kernel
theorem jd_Mod_read_54 : decode jm_m_Mod_read.2.1 54 = .ok (.getfield 16, 3) := by decide +kernel
theorem jd_Mod_read_57 : decode jm_m_Mod_read.2.1 57 = .ok (.iload_n 1, 1) := by decide +kernel
theorem jd_Mod_read_58 : decode jm_m_Mod_read.2.1 58 = .ok (.aload_n 0, 1) := by decide +kernel
theorem jd_Mod_read_59 : decode jm_m_Mod_read.2.1 59 = .ok (.getfield 22, 3) := by decide +kernel
theorem jd_Mod_read_62 : decode jm_m_Mod_read.2.1 62 = .ok (.iload_n 1, 1) := by decide +kernel
theorem jd_Mod_read_63 : decode jm_m_Mod_read.2.1 63 = .ok (.iaload, 1) := by decide +kernel
theorem jd_Mod_read_64 : decode jm_m_Mod_read.2.1 64 = .ok (.iastore, 1) := by decide +kernel
theorem jd_Mod_read_65 : decode jm_m_Mod_read.2.1 65 = .ok (.iinc 1 1, 3) := by decide +kernel
theorem jd_Mod_read_68 : decode jm_m_Mod_read.2.1 68 = .ok (.goto (-35), 3) := by decide +kernel
theorem jd_Mod_read_71 : decode jm_m_Mod_read.2.1 71 = .ok (.aload_n 0, 1) := by decide +kernel
theorem jd_Mod_read_72 : decode jm_m_Mod_read.2.1 72 = .ok (.iconst 0, 1) := by decide +kernel
theorem jd_Mod_read_73 : decode jm_m_Mod_read.2.1 73 = .ok (.putfield 130, 3) := by decide +kernel
theorem jd_Mod_read_76 : decode jm_m_Mod_read.2.1 76 = .ok (.aload_n 0, 1) := by decide +kernel
theorem jd_Mod_read_77 : decode jm_m_Mod_read.2.1 77 = .ok (.getfield 169, 3) := by decide +kernel
theorem jd_Mod_read_80 : decode jm_m_Mod_read.2.1 80 = .ok (.ireturn, 1) := by decide +kernel
theorem jd_Mod_endOf_0 : decode jm_m_Mod_endOf.2.1 0 = .ok (.iconst 1, 1) := by decide +kernel
theorem jd_Mod_endOf_1 : decode jm_m_Mod_endOf.2.1 1 = .ok (.istore_n 2, 1) := by decide +kernel
theorem jd_Mod_endOf_2 : decode jm_m_Mod_endOf.2.1 2 = .ok (.iload_n 1, 1) := by decide +kernel
theorem jd_Mod_endOf_3 : decode jm_m_Mod_endOf.2.1 3 = .ok (.istore_n 3, 1) := by decide +kernel
theorem jd_Mod_endOf_4 : decode jm_m_Mod_endOf.2.1 4 = .ok (.iload_n 2, 1) := by decide +kernel
theorem jd_Mod_endOf_5 : decode jm_m_Mod_endOf.2.1 5 = .ok (.ifCond .le 23, 3) := by decide +kernel
theorem jd_Mod_endOf_8 : decode jm_m_Mod_endOf.2.1 8 = .ok (.iload_n 2, 1) := by decide +kernel
theorem jd_Mod_endOf_9 : decode jm_m_Mod_endOf.2.1 9 = .ok (.aload_n 0, 1) := by decide +kernel
theorem jd_Mod_endOf_10 : decode jm_m_Mod_endOf.2.1 10 = .ok (.getfield 13, 3) := by decide +kernel
theorem jd_Mod_endOf_13 : decode jm_m_Mod_endOf.2.1 13 = .ok (.iload_n 3, 1) := by decide +kernel
theorem jd_Mod_endOf_14 : decode jm_m_Mod_endOf.2.1 14 = .ok (.iaload, 1) := by decide +kernel
theorem jd_Mod_endOf_15 : decode jm_m_Mod_endOf.2.1 15 = .ok (.invokestatic 151, 3) := by decide +kernel
theorem jd_Mod_endOf_18 : decode jm_m_Mod_endOf.2.1 18 = .ok (.iconst 1, 1) := by decide +kernel
theorem jd_Mod_endOf_19 : decode jm_m_Mod_endOf.2.1 19 = .ok (.isub, 1) := by decide +kernel
theorem jd_Mod_endOf_20 : decode jm_m_Mod_endOf.2.1 20 = .ok (.iadd, 1) := by decide +kernel
theorem jd_Mod_endOf_21 : decode jm_m_Mod_endOf.2.1 21 = .ok (.istore_n 2, 1) := by decide +kernel
theorem jd_Mod_endOf_22 : decode jm_m_Mod_endOf.2.1 22 = .ok (.iinc 3 1, 3) := by decide +kernel
theorem jd_Mod_endOf_25 : decode jm_m_Mod_endOf.2.1 25 = .ok (.goto (-21), 3) := by decide +kernel
theorem jd_Mod_endOf_28 : decode jm_m_Mod_endOf.2.1 28 = .ok (.iload_n 3, 1) := by decide +kernel
theorem jd_Mod_endOf_29 : decode jm_m_Mod_endOf.2.1 29 = .ok (.ireturn, 1) := by decide +kernel
theorem jd_Mod_findNeeds_0 : decode jm_m_Mod_findNeeds.2.1 0 = .ok (.aload_n 0, 1) := by decide +kernel
theorem jd_Mod_findNeeds_1 : decode jm_m_Mod_findNeeds.2.1 1 = .ok (.getfield 169, 3) := by decide +kernel
theorem jd_Mod_findNeeds_4 : decode jm_m_Mod_findNeeds.2.1 4 = .ok (.iconst 1, 1) := by decide +kernel
theorem jd_Mod_findNeeds_5 : decode jm_m_Mod_findNeeds.2.1 5 = .ok (.isub, 1) := by decide +kernel
theorem jd_Mod_findNeeds_6 : decode jm_m_Mod_findNeeds.2.1 6 = .ok (.istore_n 1, 1) := by decide +kernel
theorem jd_Mod_findNeeds_7 : decode jm_m_Mod_findNeeds.2.1 7 = .ok (.iload_n 1, 1) := by decide +kernel
theorem jd_Mod_findNeeds_8 : decode jm_m_Mod_findNeeds.2.1 8 = .ok (.ifCond .lt 89, 3) := by decide +kernel
theorem jd_Mod_findNeeds_11 : decode jm_m_Mod_findNeeds.2.1 11 = .ok (.aload_n 0, 1) := by decide +kernel
theorem jd_Mod_findNeeds_12 : decode jm_m_Mod_findNeeds.2.1 12 = .ok (.getfield 13, 3) := by decide +kernel
theorem jd_Mod_findNeeds_15 : decode jm_m_Mod_findNeeds.2.1 15 = .ok (.iload_n 1, 1) := by decide +kernel
theorem jd_Mod_findNeeds_16 : decode jm_m_Mod_findNeeds.2.1 16 = .ok (.iaload, 1) := by decide +kernel
theorem jd_Mod_findNeeds_17 : decode jm_m_Mod_findNeeds.2.1 17 = .ok (.invokestatic 151, 3) := by decide +kernel
theorem jd_Mod_findNeeds_20 : decode jm_m_Mod_findNeeds.2.1 20 = .ok (.istore_n 2, 1) := by decide +kernel
theorem jd_Mod_findNeeds_21 : decode jm_m_Mod_findNeeds.2.1 21 = .ok (.iload_n 2, 1) := by decide +kernel
theorem jd_Mod_findNeeds_22 : decode jm_m_Mod_findNeeds.2.1 22 = .ok (.ifCond .le 14, 3) := by decide +kernel
theorem jd_Mod_findNeeds_25 : decode jm_m_Mod_findNeeds.2.1 25 = .ok (.aload_n 0, 1) := by decide +kernel
theorem jd_Mod_findNeeds_26 : decode jm_m_Mod_findNeeds.2.1 26 = .ok (.getfield 28, 3) := by decide +kernel
theorem jd_Mod_findNeeds_29 : decode jm_m_Mod_findNeeds.2.1 29 = .ok (.iload_n 1, 1) := by decide +kernel
theorem jd_Mod_findNeeds_30 : decode jm_m_Mod_findNeeds.2.1 30 = .ok (.iconst 1, 1) := by decide +kernel
theorem jd_Mod_findNeeds_31 : decode jm_m_Mod_findNeeds.2.1 31 = .ok (.iadd, 1) := by decide +kernel
theorem jd_Mod_findNeeds_32 : decode jm_m_Mod_findNeeds.2.1 32 = .ok (.iaload, 1) := by decide +kernel
theorem jd_Mod_findNeeds_33 : decode jm_m_Mod_findNeeds.2.1 33 = .ok (.goto 4, 3) := by decide +kernel
theorem jd_Mod_findNeeds_36 : decode jm_m_Mod_findNeeds.2.1 36 = .ok (.iconst 1, 1) := by decide +kernel
theorem jd_Mod_findNeeds_37 : decode jm_m_Mod_findNeeds.2.1 37 = .ok (.istore_n 3, 1) := by decide +kernel
theorem jd_Mod_findNeeds_38 : decode jm_m_Mod_findNeeds.2.1 38 = .ok (.iload_n 2, 1) := by decide +kernel
theorem jd_Mod_findNeeds_39 : decode jm_m_Mod_findNeeds.2.1 39 = .ok (.iconst 1, 1) := by decide +kernel
theorem jd_Mod_findNeeds_40 : decode jm_m_Mod_findNeeds.2.1 40 = .ok (.if_icmp .le 18, 3) := by decide +kernel
theorem jd_Mod_findNeeds_43 : decode jm_m_Mod_findNeeds.2.1 43 = .ok (.aload_n 0, 1) := by decide +kernel
theorem jd_Mod_findNeeds_44 : decode jm_m_Mod_findNeeds.2.1 44 = .ok (.getfield 28, 3) := by decide +kernel
theorem jd_Mod_findNeeds_47 : decode jm_m_Mod_findNeeds.2.1 47 = .ok (.aload_n 0, 1) := by decide +kernel
theorem jd_Mod_findNeeds_48 : decode jm_m_Mod_findNeeds.2.1 48 = .ok (.iload_n 1, 1) := by decide +kernel
theorem jd_Mod_findNeeds_49 : decode jm_m_Mod_findNeeds.2.1 49 = .ok (.iconst 1, 1) := by decide +kernel
theorem jd_Mod_findNeeds_50 : decode jm_m_Mod_findNeeds.2.1 50 = .ok (.iadd, 1) := by decide +kernel
theorem jd_Mod_findNeeds_51 : decode jm_m_Mod_findNeeds.2.1 51 = .ok (.invokevirtual 172, 3) := by decide +kernel
theorem jd_Mod_findNeeds_54 : decode jm_m_Mod_findNeeds.2.1 54 = .ok (.iaload, 1) := by decide +kernel
theorem jd_Mod_findNeeds_55 : decode jm_m_Mod_findNeeds.2.1 55 = .ok (.goto 4, 3) := by decide +kernel
theorem jd_Mod_findNeeds_58 : decode jm_m_Mod_findNeeds.2.1 58 = .ok (.iconst 0, 1) := by decide +kernel
theorem jd_Mod_findNeeds_59 : decode jm_m_Mod_findNeeds.2.1 59 = .ok (.istore 4, 2) := by decide +kernel
theorem jd_Mod_findNeeds_61 : decode jm_m_Mod_findNeeds.2.1 61 = .ok (.aload_n 0, 1) := by decide +kernel
theorem jd_Mod_findNeeds_62 : decode jm_m_Mod_findNeeds.2.1 62 = .ok (.getfield 28, 3) := by decide +kernel
theorem jd_Mod_findNeeds_65 : decode jm_m_Mod_findNeeds.2.1 65 = .ok (.iload_n 1, 1) := by decide +kernel
theorem jd_Mod_findNeeds_66 : decode jm_m_Mod_findNeeds.2.1 66 = .ok (.iload_n 3, 1) := by decide +kernel
theorem jd_Mod_findNeeds_67 : decode jm_m_Mod_findNeeds.2.1 67 = .ok (.iload 4, 2) := by decide +kernel
theorem jd_Mod_findNeeds_69 : decode jm_m_Mod_findNeeds.2.1 69 = .ok (.if_icmp .ne 9, 3) := by decide +kernel
theorem jd_Mod_findNeeds_72 : decode jm_m_Mod_findNeeds.2.1 72 = .ok (.iload_n 3, 1) := by decide +kernel
theorem jd_Mod_findNeeds_73 : decode jm_m_Mod_findNeeds.2.1 73 = .ok (.iconst 1, 1) := by decide +kernel
theorem jd_Mod_findNeeds_74 : decode jm_m_Mod_findNeeds.2.1 74 = .ok (.iadd, 1) := by decide +kernel
theorem jd_Mod_findNeeds_75 : decode jm_m_Mod_findNeeds.2.1 75 = .ok (.goto 15, 3) := by decide +kernel
theorem jd_Mod_findNeeds_78 : decode jm_m_Mod_findNeeds.2.1 78 = .ok (.iload_n 3, 1) := by decide +kernel
theorem jd_Mod_findNeeds_79 : decode jm_m_Mod_findNeeds.2.1 79 = .ok (.iload 4, 2) := by decide +kernel
theorem jd_Mod_findNeeds_81 : decode jm_m_Mod_findNeeds.2.1 81 = .ok (.if_icmp .le 7, 3) := by decide +kernel
theorem jd_Mod_findNeeds_84 : decode jm_m_Mod_findNeeds.2.1 84 = .ok (.iload_n 3, 1) := by decide +kernel
theorem jd_Mod_findNeeds_85 : decode jm_m_Mod_findNeeds.2.1 85 = .ok (.goto 5, 3) := by decide +kernel
theorem jd_Mod_findNeeds_88 : decode jm_m_Mod_findNeeds.2.1 88 = .ok (.iload 4, 2) := by decide +kernel
theorem jd_Mod_findNeeds_90 : decode jm_m_Mod_findNeeds.2.1 90 = .ok (.iastore, 1) := by decide +kernel
theorem jd_Mod_findNeeds_91 : decode jm_m_Mod_findNeeds.2.1 91 = .ok (.iinc 1 (-1), 3) := by decide +kernel
theorem jd_Mod_findNeeds_94 : decode jm_m_Mod_findNeeds.2.1 94 = .ok (.goto (-87), 3) := by decide +kernel
theorem jd_Mod_findNeeds_97 : decode jm_m_Mod_findNeeds.2.1 97 = .ok (.return_, 1) := by decide +kernel
theorem jd_Mod_isNode_0 : decode jm_m_Mod_isNode.2.1 0 = .ok (.iload_n 1, 1) := by decide +kernel
theorem jd_Mod_isNode_1 : decode jm_m_Mod_isNode.2.1 1 = .ok (.i2l, 1) := by decide +kernel
theorem jd_Mod_isNode_2 : decode jm_m_Mod_isNode.2.1 2 = .ok (.lconst 0, 1) := by decide +kernel
theorem jd_Mod_isNode_3 : decode jm_m_Mod_isNode.2.1 3 = .ok (.aload_n 0, 1) := by decide +kernel
theorem jd_Mod_isNode_4 : decode jm_m_Mod_isNode.2.1 4 = .ok (.getfield 169, 3) := by decide +kernel
theorem jd_Mod_isNode_7 : decode jm_m_Mod_isNode.2.1 7 = .ok (.iconst 1, 1) := by decide +kernel
theorem jd_Mod_isNode_8 : decode jm_m_Mod_isNode.2.1 8 = .ok (.isub, 1) := by decide +kernel
theorem jd_Mod_isNode_9 : decode jm_m_Mod_isNode.2.1 9 = .ok (.i2l, 1) := by decide +kernel
theorem jd_Mod_isNode_10 : decode jm_m_Mod_isNode.2.1 10 = .ok (.invokestatic 126, 3) := by decide +kernel
theorem jd_Mod_isNode_13 : decode jm_m_Mod_isNode.2.1 13 = .ok (.ireturn, 1) := by decide +kernel
theorem jd_Mod_node_0 : decode jm_m_Mod_node.2.1 0 = .ok (.aload_n 0, 1) := by decide +kernel
theorem jd_Mod_node_1 : decode jm_m_Mod_node.2.1 1 = .ok (.iload_n 1, 1) := by decide +kernel
theorem jd_Mod_node_2 : decode jm_m_Mod_node.2.1 2 = .ok (.invokevirtual 175, 3) := by decide +kernel
theorem jd_Mod_node_5 : decode jm_m_Mod_node.2.1 5 = .ok (.ifCond .ne 5, 3) := by decide +kernel
theorem jd_Mod_node_8 : decode jm_m_Mod_node.2.1 8 = .ok (.iconst (-1), 1) := by decide +kernel
theorem jd_Mod_node_9 : decode jm_m_Mod_node.2.1 9 = .ok (.ireturn, 1) := by decide +kernel
theorem jd_Mod_node_10 : decode jm_m_Mod_node.2.1 10 = .ok (.aload_n 0, 1) := by decide +kernel
theorem jd_Mod_node_11 : decode jm_m_Mod_node.2.1 11 = .ok (.invokevirtual 178, 3) := by decide +kernel
theorem jd_Mod_node_14 : decode jm_m_Mod_node.2.1 14 = .ok (.iload_n 2, 1) := by decide +kernel
theorem jd_Mod_node_15 : decode jm_m_Mod_node.2.1 15 = .ok (.tableswitch 72 0 4 #[33, 40, 47, 57, 65], 33) := by decide +kernel
theorem jd_Mod_node_48 : decode jm_m_Mod_node.2.1 48 = .ok (.aload_n 0, 1) := by decide +kernel
theorem jd_Mod_node_49 : decode jm_m_Mod_node.2.1 49 = .ok (.getfield 13, 3) := by decide +kernel
theorem jd_Mod_node_52 : decode jm_m_Mod_node.2.1 52 = .ok (.iload_n 1, 1) := by decide +kernel
theorem jd_Mod_node_53 : decode jm_m_Mod_node.2.1 53 = .ok (.iaload, 1) := by decide +kernel
theorem jd_Mod_node_54 : decode jm_m_Mod_node.2.1 54 = .ok (.ireturn, 1) := by decide +kernel
theorem jd_Mod_node_55 : decode jm_m_Mod_node.2.1 55 = .ok (.aload_n 0, 1) := by decide +kernel
theorem jd_Mod_node_56 : decode jm_m_Mod_node.2.1 56 = .ok (.getfield 16, 3) := by decide +kernel
theorem jd_Mod_node_59 : decode jm_m_Mod_node.2.1 59 = .ok (.iload_n 1, 1) := by decide +kernel
theorem jd_Mod_node_60 : decode jm_m_Mod_node.2.1 60 = .ok (.iaload, 1) := by decide +kernel
theorem jd_Mod_node_61 : decode jm_m_Mod_node.2.1 61 = .ok (.ireturn, 1) := by decide +kernel
theorem jd_Mod_node_62 : decode jm_m_Mod_node.2.1 62 = .ok (.aload_n 0, 1) := by decide +kernel
theorem jd_Mod_node_63 : decode jm_m_Mod_node.2.1 63 = .ok (.getfield 13, 3) := by decide +kernel
theorem jd_Mod_node_66 : decode jm_m_Mod_node.2.1 66 = .ok (.iload_n 1, 1) := by decide +kernel
theorem jd_Mod_node_67 : decode jm_m_Mod_node.2.1 67 = .ok (.iaload, 1) := by decide +kernel
theorem jd_Mod_node_68 : decode jm_m_Mod_node.2.1 68 = .ok (.invokestatic 151, 3) := by decide +kernel
theorem jd_Mod_node_71 : decode jm_m_Mod_node.2.1 71 = .ok (.ireturn, 1) := by decide +kernel
theorem jd_Mod_node_72 : decode jm_m_Mod_node.2.1 72 = .ok (.aload_n 0, 1) := by decide +kernel
theorem jd_Mod_node_73 : decode jm_m_Mod_node.2.1 73 = .ok (.iload_n 1, 1) := by decide +kernel
theorem jd_Mod_node_74 : decode jm_m_Mod_node.2.1 74 = .ok (.invokevirtual 172, 3) := by decide +kernel
theorem jd_Mod_node_77 : decode jm_m_Mod_node.2.1 77 = .ok (.iload_n 1, 1) := by decide +kernel
theorem jd_Mod_node_78 : decode jm_m_Mod_node.2.1 78 = .ok (.isub, 1) := by decide +kernel
theorem jd_Mod_node_79 : decode jm_m_Mod_node.2.1 79 = .ok (.ireturn, 1) := by decide +kernel
theorem jd_Mod_node_80 : decode jm_m_Mod_node.2.1 80 = .ok (.aload_n 0, 1) := by decide +kernel
theorem jd_Mod_node_81 : decode jm_m_Mod_node.2.1 81 = .ok (.getfield 28, 3) := by decide +kernel
theorem jd_Mod_node_84 : decode jm_m_Mod_node.2.1 84 = .ok (.iload_n 1, 1) := by decide +kernel
theorem jd_Mod_node_85 : decode jm_m_Mod_node.2.1 85 = .ok (.iaload, 1) := by decide +kernel
theorem jd_Mod_node_86 : decode jm_m_Mod_node.2.1 86 = .ok (.ireturn, 1) := by decide +kernel
theorem jd_Mod_node_87 : decode jm_m_Mod_node.2.1 87 = .ok (.bipush (-2), 2) := by decide +kernel
theorem jd_Mod_node_89 : decode jm_m_Mod_node.2.1 89 = .ok (.ireturn, 1) := by decide +kernel
theorem jd_Mod_isHead_0 : decode jm_m_Mod_isHead.2.1 0 = .ok (.iload_n 0, 1) := by decide +kernel
theorem jd_Mod_isHead_1 : decode jm_m_Mod_isHead.2.1 1 = .ok (.i2l, 1) := by decide +kernel
theorem jd_Mod_isHead_2 : decode jm_m_Mod_isHead.2.1 2 = .ok (.lconst 0, 1) := by decide +kernel
theorem jd_Mod_isHead_3 : decode jm_m_Mod_isHead.2.1 3 = .ok (.lconst 1, 1) := by decide +kernel
theorem jd_Mod_isHead_4 : decode jm_m_Mod_isHead.2.1 4 = .ok (.invokestatic 126, 3) := by decide +kernel
theorem jd_Mod_isHead_7 : decode jm_m_Mod_isHead.2.1 7 = .ok (.ireturn, 1) := by decide +kernel
theorem jd_Mod_headFor_0 : decode jm_m_Mod_headFor.2.1 0 = .ok (.iload_n 0, 1) := by decide +kernel
theorem jd_Mod_headFor_1 : decode jm_m_Mod_headFor.2.1 1 = .ok (.bipush 82, 2) := by decide +kernel
theorem jd_Mod_headFor_3 : decode jm_m_Mod_headFor.2.1 3 = .ok (.if_icmp .ne 7, 3) := by decide +kernel
theorem jd_Mod_headFor_6 : decode jm_m_Mod_headFor.2.1 6 = .ok (.iconst 0, 1) := by decide +kernel
theorem jd_Mod_headFor_7 : decode jm_m_Mod_headFor.2.1 7 = .ok (.goto 15, 3) := by decide +kernel
theorem jd_Mod_headFor_10 : decode jm_m_Mod_headFor.2.1 10 = .ok (.iload_n 0, 1) := by decide +kernel
theorem jd_Mod_headFor_11 : decode jm_m_Mod_headFor.2.1 11 = .ok (.bipush 65, 2) := by decide +kernel
theorem jd_Mod_headFor_13 : decode jm_m_Mod_headFor.2.1 13 = .ok (.if_icmp .ne 7, 3) := by decide +kernel
theorem jd_Mod_headFor_16 : decode jm_m_Mod_headFor.2.1 16 = .ok (.iconst 1, 1) := by decide +kernel
theorem jd_Mod_headFor_17 : decode jm_m_Mod_headFor.2.1 17 = .ok (.goto 5, 3) := by decide +kernel
theorem jd_Mod_headFor_20 : decode jm_m_Mod_headFor.2.1 20 = .ok (.bipush (-6), 2) := by decide +kernel
theorem jd_Mod_headFor_22 : decode jm_m_Mod_headFor.2.1 22 = .ok (.ireturn, 1) := by decide +kernel
theorem jd_Mod_pattern_0 : decode jm_m_Mod_pattern.2.1 0 = .ok (.iload_n 1, 1) := by decide +kernel
theorem jd_Mod_pattern_1 : decode jm_m_Mod_pattern.2.1 1 = .ok (.invokestatic 181, 3) := by decide +kernel
theorem jd_Mod_pattern_4 : decode jm_m_Mod_pattern.2.1 4 = .ok (.ifCond .eq 15, 3) := by decide +kernel
theorem jd_Mod_pattern_7 : decode jm_m_Mod_pattern.2.1 7 = .ok (.iload_n 2, 1) := by decide +kernel
theorem jd_Mod_pattern_8 : decode jm_m_Mod_pattern.2.1 8 = .ok (.i2l, 1) := by decide +kernel
theorem jd_Mod_pattern_9 : decode jm_m_Mod_pattern.2.1 9 = .ok (.lconst 0, 1) := by decide +kernel
theorem jd_Mod_pattern_10 : decode jm_m_Mod_pattern.2.1 10 = .ok (.ldc2_w 184, 3) := by decide +kernel
theorem jd_Mod_pattern_13 : decode jm_m_Mod_pattern.2.1 13 = .ok (.invokestatic 126, 3) := by decide +kernel
theorem jd_Mod_pattern_16 : decode jm_m_Mod_pattern.2.1 16 = .ok (.ifCond .ne 6, 3) := by decide +kernel
theorem jd_Mod_pattern_19 : decode jm_m_Mod_pattern.2.1 19 = .ok (.bipush (-2), 2) := by decide +kernel
theorem jd_Mod_pattern_21 : decode jm_m_Mod_pattern.2.1 21 = .ok (.ireturn, 1) := by decide +kernel
theorem jd_Mod_pattern_22 : decode jm_m_Mod_pattern.2.1 22 = .ok (.aload_n 0, 1) := by decide +kernel
theorem jd_Mod_pattern_23 : decode jm_m_Mod_pattern.2.1 23 = .ok (.getfield 186, 3) := by decide +kernel
theorem jd_Mod_pattern_26 : decode jm_m_Mod_pattern.2.1 26 = .ok (.bipush 16, 2) := by decide +kernel
theorem jd_Mod_pattern_28 : decode jm_m_Mod_pattern.2.1 28 = .ok (.if_icmp .ne 6, 3) := by decide +kernel
theorem jd_Mod_pattern_31 : decode jm_m_Mod_pattern.2.1 31 = .ok (.bipush (-4), 2) := by decide +kernel
theorem jd_Mod_pattern_33 : decode jm_m_Mod_pattern.2.1 33 = .ok (.ireturn, 1) := by decide +kernel
theorem jd_Mod_pattern_34 : decode jm_m_Mod_pattern.2.1 34 = .ok (.aload_n 0, 1) := by decide +kernel
theorem jd_Mod_pattern_35 : decode jm_m_Mod_pattern.2.1 35 = .ok (.getfield 130, 3) := by decide +kernel
theorem jd_Mod_pattern_38 : decode jm_m_Mod_pattern.2.1 38 = .ok (.iconst 1, 1) := by decide +kernel
theorem jd_Mod_pattern_39 : decode jm_m_Mod_pattern.2.1 39 = .ok (.if_icmp .ne 20, 3) := by decide +kernel
theorem jd_Mod_pattern_42 : decode jm_m_Mod_pattern.2.1 42 = .ok (.aload_n 0, 1) := by decide +kernel
theorem jd_Mod_pattern_43 : decode jm_m_Mod_pattern.2.1 43 = .ok (.getfield 7, 3) := by decide +kernel
theorem jd_Mod_pattern_46 : decode jm_m_Mod_pattern.2.1 46 = .ok (.iconst 0, 1) := by decide +kernel
theorem jd_Mod_pattern_47 : decode jm_m_Mod_pattern.2.1 47 = .ok (.iaload, 1) := by decide +kernel
theorem jd_Mod_pattern_48 : decode jm_m_Mod_pattern.2.1 48 = .ok (.invokestatic 189, 3) := by decide +kernel
theorem jd_Mod_pattern_51 : decode jm_m_Mod_pattern.2.1 51 = .ok (.iload_n 1, 1) := by decide +kernel
theorem jd_Mod_pattern_52 : decode jm_m_Mod_pattern.2.1 52 = .ok (.if_icmp .ne 7, 3) := by decide +kernel
theorem jd_Mod_pattern_55 : decode jm_m_Mod_pattern.2.1 55 = .ok (.iconst 1, 1) := by decide +kernel
theorem jd_Mod_pattern_56 : decode jm_m_Mod_pattern.2.1 56 = .ok (.goto 4, 3) := by decide +kernel
theorem jd_Mod_pattern_59 : decode jm_m_Mod_pattern.2.1 59 = .ok (.iconst 0, 1) := by decide +kernel
theorem jd_Mod_pattern_60 : decode jm_m_Mod_pattern.2.1 60 = .ok (.istore_n 3, 1) := by decide +kernel
theorem jd_Mod_pattern_61 : decode jm_m_Mod_pattern.2.1 61 = .ok (.aload_n 0, 1) := by decide +kernel
theorem jd_Mod_pattern_62 : decode jm_m_Mod_pattern.2.1 62 = .ok (.getfield 130, 3) := by decide +kernel
theorem jd_Mod_pattern_65 : decode jm_m_Mod_pattern.2.1 65 = .ok (.bipush 12, 2) := by decide +kernel
theorem jd_Mod_pattern_67 : decode jm_m_Mod_pattern.2.1 67 = .ok (.if_icmp .gt 15, 3) := by decide +kernel
theorem jd_Mod_pattern_70 : decode jm_m_Mod_pattern.2.1 70 = .ok (.iload_n 3, 1) := by decide +kernel
theorem jd_Mod_pattern_71 : decode jm_m_Mod_pattern.2.1 71 = .ok (.ifCond .ne 11, 3) := by decide +kernel
theorem jd_Mod_pattern_74 : decode jm_m_Mod_pattern.2.1 74 = .ok (.aload_n 0, 1) := by decide +kernel
theorem jd_Mod_pattern_75 : decode jm_m_Mod_pattern.2.1 75 = .ok (.iconst 1, 1) := by decide +kernel
theorem jd_Mod_pattern_76 : decode jm_m_Mod_pattern.2.1 76 = .ok (.invokevirtual 165, 3) := by decide +kernel
theorem jd_Mod_pattern_79 : decode jm_m_Mod_pattern.2.1 79 = .ok (.ifCond .lt 6, 3) := by decide +kernel
theorem jd_Mod_pattern_82 : decode jm_m_Mod_pattern.2.1 82 = .ok (.bipush (-5), 2) := by decide +kernel
theorem jd_Mod_pattern_84 : decode jm_m_Mod_pattern.2.1 84 = .ok (.ireturn, 1) := by decide +kernel
theorem jd_Mod_pattern_85 : decode jm_m_Mod_pattern.2.1 85 = .ok (.aload_n 0, 1) := by decide +kernel
theorem jd_Mod_pattern_86 : decode jm_m_Mod_pattern.2.1 86 = .ok (.getfield 31, 3) := by decide +kernel
theorem jd_Mod_pattern_89 : decode jm_m_Mod_pattern.2.1 89 = .ok (.aload_n 0, 1) := by decide +kernel
theorem jd_Mod_pattern_90 : decode jm_m_Mod_pattern.2.1 90 = .ok (.getfield 186, 3) := by decide +kernel
theorem jd_Mod_pattern_93 : decode jm_m_Mod_pattern.2.1 93 = .ok (.iload_n 1, 1) := by decide +kernel
theorem jd_Mod_pattern_94 : decode jm_m_Mod_pattern.2.1 94 = .ok (.iastore, 1) := by decide +kernel
theorem jd_Mod_pattern_95 : decode jm_m_Mod_pattern.2.1 95 = .ok (.aload_n 0, 1) := by decide +kernel
theorem jd_Mod_pattern_96 : decode jm_m_Mod_pattern.2.1 96 = .ok (.getfield 34, 3) := by decide +kernel
theorem jd_Mod_pattern_99 : decode jm_m_Mod_pattern.2.1 99 = .ok (.aload_n 0, 1) := by decide +kernel
theorem jd_Mod_pattern_100 : decode jm_m_Mod_pattern.2.1 100 = .ok (.getfield 186, 3) := by decide +kernel
theorem jd_Mod_pattern_103 : decode jm_m_Mod_pattern.2.1 103 = .ok (.iload_n 2, 1) := by decide +kernel
theorem jd_Mod_pattern_104 : decode jm_m_Mod_pattern.2.1 104 = .ok (.iastore, 1) := by decide +kernel
theorem jd_Mod_pattern_105 : decode jm_m_Mod_pattern.2.1 105 = .ok (.aload_n 0, 1) := by decide +kernel
theorem jd_Mod_pattern_106 : decode jm_m_Mod_pattern.2.1 106 = .ok (.getfield 40, 3) := by decide +kernel
theorem jd_Mod_pattern_109 : decode jm_m_Mod_pattern.2.1 109 = .ok (.aload_n 0, 1) := by decide +kernel
theorem jd_Mod_pattern_110 : decode jm_m_Mod_pattern.2.1 110 = .ok (.getfield 186, 3) := by decide +kernel
theorem jd_Mod_pattern_113 : decode jm_m_Mod_pattern.2.1 113 = .ok (.aload_n 0, 1) := by decide +kernel
theorem jd_Mod_pattern_114 : decode jm_m_Mod_pattern.2.1 114 = .ok (.getfield 130, 3) := by decide +kernel
theorem jd_Mod_pattern_117 : decode jm_m_Mod_pattern.2.1 117 = .ok (.iastore, 1) := by decide +kernel
theorem jd_Mod_pattern_118 : decode jm_m_Mod_pattern.2.1 118 = .ok (.iconst 0, 1) := by decide +kernel
theorem jd_Mod_pattern_119 : decode jm_m_Mod_pattern.2.1 119 = .ok (.istore 4, 2) := by decide +kernel
theorem jd_Mod_pattern_121 : decode jm_m_Mod_pattern.2.1 121 = .ok (.iload 4, 2) := by decide +kernel
theorem jd_Mod_pattern_123 : decode jm_m_Mod_pattern.2.1 123 = .ok (.aload_n 0, 1) := by decide +kernel
theorem jd_Mod_pattern_124 : decode jm_m_Mod_pattern.2.1 124 = .ok (.getfield 130, 3) := by decide +kernel
theorem jd_Mod_pattern_127 : decode jm_m_Mod_pattern.2.1 127 = .ok (.if_icmp .ge 31, 3) := by decide +kernel
theorem jd_Mod_pattern_130 : decode jm_m_Mod_pattern.2.1 130 = .ok (.aload_n 0, 1) := by decide +kernel
theorem jd_Mod_pattern_131 : decode jm_m_Mod_pattern.2.1 131 = .ok (.getfield 37, 3) := by decide +kernel
theorem jd_Mod_pattern_134 : decode jm_m_Mod_pattern.2.1 134 = .ok (.bipush 12, 2) := by decide +kernel
theorem jd_Mod_pattern_136 : decode jm_m_Mod_pattern.2.1 136 = .ok (.aload_n 0, 1) := by decide +kernel
theorem jd_Mod_pattern_137 : decode jm_m_Mod_pattern.2.1 137 = .ok (.getfield 186, 3) := by decide +kernel
theorem jd_Mod_pattern_140 : decode jm_m_Mod_pattern.2.1 140 = .ok (.imul, 1) := by decide +kernel
theorem jd_Mod_pattern_141 : decode jm_m_Mod_pattern.2.1 141 = .ok (.iload 4, 2) := by decide +kernel
theorem jd_Mod_pattern_143 : decode jm_m_Mod_pattern.2.1 143 = .ok (.iadd, 1) := by decide +kernel
theorem jd_Mod_pattern_144 : decode jm_m_Mod_pattern.2.1 144 = .ok (.aload_n 0, 1) := by decide +kernel
theorem jd_Mod_pattern_145 : decode jm_m_Mod_pattern.2.1 145 = .ok (.getfield 7, 3) := by decide +kernel
theorem jd_Mod_pattern_148 : decode jm_m_Mod_pattern.2.1 148 = .ok (.iload 4, 2) := by decide +kernel
theorem jd_Mod_pattern_150 : decode jm_m_Mod_pattern.2.1 150 = .ok (.iaload, 1) := by decide +kernel
theorem jd_Mod_pattern_151 : decode jm_m_Mod_pattern.2.1 151 = .ok (.iastore, 1) := by decide +kernel
theorem jd_Mod_pattern_152 : decode jm_m_Mod_pattern.2.1 152 = .ok (.iinc 4 1, 3) := by decide +kernel
theorem jd_Mod_pattern_155 : decode jm_m_Mod_pattern.2.1 155 = .ok (.goto (-34), 3) := by decide +kernel
theorem jd_Mod_pattern_158 : decode jm_m_Mod_pattern.2.1 158 = .ok (.aload_n 0, 1) := by decide +kernel
theorem jd_Mod_pattern_159 : decode jm_m_Mod_pattern.2.1 159 = .ok (.iconst 0, 1) := by decide +kernel
theorem jd_Mod_pattern_160 : decode jm_m_Mod_pattern.2.1 160 = .ok (.putfield 130, 3) := by decide +kernel
theorem jd_Mod_pattern_163 : decode jm_m_Mod_pattern.2.1 163 = .ok (.aload_n 0, 1) := by decide +kernel
theorem jd_Mod_pattern_164 : decode jm_m_Mod_pattern.2.1 164 = .ok (.dup, 1) := by decide +kernel
theorem jd_Mod_pattern_165 : decode jm_m_Mod_pattern.2.1 165 = .ok (.getfield 186, 3) := by decide +kernel
theorem jd_Mod_pattern_168 : decode jm_m_Mod_pattern.2.1 168 = .ok (.iconst 1, 1) := by decide +kernel
theorem jd_Mod_pattern_169 : decode jm_m_Mod_pattern.2.1 169 = .ok (.iadd, 1) := by decide +kernel
theorem jd_Mod_pattern_170 : decode jm_m_Mod_pattern.2.1 170 = .ok (.putfield 186, 3) := by decide +kernel
theorem jd_Mod_pattern_173 : decode jm_m_Mod_pattern.2.1 173 = .ok (.aload_n 0, 1) := by decide +kernel
theorem jd_Mod_pattern_174 : decode jm_m_Mod_pattern.2.1 174 = .ok (.getfield 186, 3) := by decide +kernel
theorem jd_Mod_pattern_177 : decode jm_m_Mod_pattern.2.1 177 = .ok (.iconst 1, 1) := by decide +kernel
theorem jd_Mod_pattern_178 : decode jm_m_Mod_pattern.2.1 178 = .ok (.isub, 1) := by decide +kernel
theorem jd_Mod_pattern_179 : decode jm_m_Mod_pattern.2.1 179 = .ok (.ireturn, 1) := by decide +kernel
theorem jd_Mod_price_0 : decode jm_m_Mod_price.2.1 0 = .ok (.iload_n 1, 1) := by decide +kernel
theorem jd_Mod_price_1 : decode jm_m_Mod_price.2.1 1 = .ok (.i2l, 1) := by decide +kernel
theorem jd_Mod_price_2 : decode jm_m_Mod_price.2.1 2 = .ok (.lconst 0, 1) := by decide +kernel
theorem jd_Mod_price_3 : decode jm_m_Mod_price.2.1 3 = .ok (.aload_n 0, 1) := by decide +kernel
theorem jd_Mod_price_4 : decode jm_m_Mod_price.2.1 4 = .ok (.getfield 186, 3) := by decide +kernel
theorem jd_Mod_price_7 : decode jm_m_Mod_price.2.1 7 = .ok (.iconst 1, 1) := by decide +kernel
theorem jd_Mod_price_8 : decode jm_m_Mod_price.2.1 8 = .ok (.isub, 1) := by decide +kernel
theorem jd_Mod_price_9 : decode jm_m_Mod_price.2.1 9 = .ok (.i2l, 1) := by decide +kernel
theorem jd_Mod_price_10 : decode jm_m_Mod_price.2.1 10 = .ok (.invokestatic 126, 3) := by decide +kernel
theorem jd_Mod_price_13 : decode jm_m_Mod_price.2.1 13 = .ok (.ifCond .ne 5, 3) := by decide +kernel
theorem jd_Mod_price_16 : decode jm_m_Mod_price.2.1 16 = .ok (.iconst (-1), 1) := by decide +kernel
theorem jd_Mod_price_17 : decode jm_m_Mod_price.2.1 17 = .ok (.ireturn, 1) := by decide +kernel
theorem jd_Mod_price_18 : decode jm_m_Mod_price.2.1 18 = .ok (.iload_n 2, 1) := by decide +kernel
theorem jd_Mod_price_19 : decode jm_m_Mod_price.2.1 19 = .ok (.i2l, 1) := by decide +kernel
theorem jd_Mod_price_20 : decode jm_m_Mod_price.2.1 20 = .ok (.lconst 0, 1) := by decide +kernel
theorem jd_Mod_price_21 : decode jm_m_Mod_price.2.1 21 = .ok (.ldc2_w 184, 3) := by decide +kernel
theorem jd_Mod_price_24 : decode jm_m_Mod_price.2.1 24 = .ok (.invokestatic 126, 3) := by decide +kernel
theorem jd_Mod_price_27 : decode jm_m_Mod_price.2.1 27 = .ok (.ifCond .ne 6, 3) := by decide +kernel
theorem jd_Mod_price_30 : decode jm_m_Mod_price.2.1 30 = .ok (.bipush (-2), 2) := by decide +kernel
theorem jd_Mod_price_32 : decode jm_m_Mod_price.2.1 32 = .ok (.ireturn, 1) := by decide +kernel
theorem jd_Mod_price_33 : decode jm_m_Mod_price.2.1 33 = .ok (.aload_n 0, 1) := by decide +kernel
theorem jd_Mod_price_34 : decode jm_m_Mod_price.2.1 34 = .ok (.getfield 34, 3) := by decide +kernel
theorem jd_Mod_price_37 : decode jm_m_Mod_price.2.1 37 = .ok (.iload_n 1, 1) := by decide +kernel
theorem jd_Mod_price_38 : decode jm_m_Mod_price.2.1 38 = .ok (.iaload, 1) := by decide +kernel
theorem jd_Mod_price_39 : decode jm_m_Mod_price.2.1 39 = .ok (.istore_n 3, 1) := by decide +kernel
theorem jd_Mod_price_40 : decode jm_m_Mod_price.2.1 40 = .ok (.aload_n 0, 1) := by decide +kernel
theorem jd_Mod_price_41 : decode jm_m_Mod_price.2.1 41 = .ok (.getfield 34, 3) := by decide +kernel
theorem jd_Mod_price_44 : decode jm_m_Mod_price.2.1 44 = .ok (.iload_n 1, 1) := by decide +kernel
theorem jd_Mod_price_45 : decode jm_m_Mod_price.2.1 45 = .ok (.iload_n 2, 1) := by decide +kernel
theorem jd_Mod_price_46 : decode jm_m_Mod_price.2.1 46 = .ok (.iastore, 1) := by decide +kernel
theorem jd_Mod_price_47 : decode jm_m_Mod_price.2.1 47 = .ok (.iload_n 3, 1) := by decide +kernel
theorem jd_Mod_price_48 : decode jm_m_Mod_price.2.1 48 = .ok (.ireturn, 1) := by decide +kernel
theorem jd_Mod_clear_0 : decode jm_m_Mod_clear.2.1 0 = .ok (.aload_n 0, 1) := by decide +kernel
theorem jd_Mod_clear_1 : decode jm_m_Mod_clear.2.1 1 = .ok (.getfield 186, 3) := by decide +kernel
theorem jd_Mod_clear_4 : decode jm_m_Mod_clear.2.1 4 = .ok (.istore_n 1, 1) := by decide +kernel
theorem jd_Mod_clear_5 : decode jm_m_Mod_clear.2.1 5 = .ok (.aload_n 0, 1) := by decide +kernel
theorem jd_Mod_clear_6 : decode jm_m_Mod_clear.2.1 6 = .ok (.iconst 0, 1) := by decide +kernel
theorem jd_Mod_clear_7 : decode jm_m_Mod_clear.2.1 7 = .ok (.putfield 186, 3) := by decide +kernel
theorem jd_Mod_clear_10 : decode jm_m_Mod_clear.2.1 10 = .ok (.iload_n 1, 1) := by decide +kernel
theorem jd_Mod_clear_11 : decode jm_m_Mod_clear.2.1 11 = .ok (.ireturn, 1) := by decide +kernel
theorem jd_Mod_isChain_0 : decode jm_m_Mod_isChain.2.1 0 = .ok (.aload_n 0, 1) := by decide +kernel
theorem jd_Mod_isChain_1 : decode jm_m_Mod_isChain.2.1 1 = .ok (.getfield 40, 3) := by decide +kernel
theorem jd_Mod_isChain_4 : decode jm_m_Mod_isChain.2.1 4 = .ok (.iload_n 1, 1) := by decide +kernel
theorem jd_Mod_isChain_5 : decode jm_m_Mod_isChain.2.1 5 = .ok (.iaload, 1) := by decide +kernel
theorem jd_Mod_isChain_6 : decode jm_m_Mod_isChain.2.1 6 = .ok (.iconst 1, 1) := by decide +kernel
theorem jd_Mod_isChain_7 : decode jm_m_Mod_isChain.2.1 7 = .ok (.if_icmp .ne 22, 3) := by decide +kernel
theorem jd_Mod_isChain_10 : decode jm_m_Mod_isChain.2.1 10 = .ok (.aload_n 0, 1) := by decide +kernel
theorem jd_Mod_isChain_11 : decode jm_m_Mod_isChain.2.1 11 = .ok (.getfield 37, 3) := by decide +kernel
theorem jd_Mod_isChain_14 : decode jm_m_Mod_isChain.2.1 14 = .ok (.bipush 12, 2) := by decide +kernel
theorem jd_Mod_isChain_16 : decode jm_m_Mod_isChain.2.1 16 = .ok (.iload_n 1, 1) := by decide +kernel
theorem jd_Mod_isChain_17 : decode jm_m_Mod_isChain.2.1 17 = .ok (.imul, 1) := by decide +kernel
theorem jd_Mod_isChain_18 : decode jm_m_Mod_isChain.2.1 18 = .ok (.iaload, 1) := by decide +kernel
theorem jd_Mod_isChain_19 : decode jm_m_Mod_isChain.2.1 19 = .ok (.invokestatic 189, 3) := by decide +kernel
theorem jd_Mod_isChain_22 : decode jm_m_Mod_isChain.2.1 22 = .ok (.ifCond .lt 7, 3) := by decide +kernel
theorem jd_Mod_isChain_25 : decode jm_m_Mod_isChain.2.1 25 = .ok (.iconst 1, 1) := by decide +kernel
theorem jd_Mod_isChain_26 : decode jm_m_Mod_isChain.2.1 26 = .ok (.goto 4, 3) := by decide +kernel
theorem jd_Mod_isChain_29 : decode jm_m_Mod_isChain.2.1 29 = .ok (.iconst 0, 1) := by decide +kernel
theorem jd_Mod_isChain_30 : decode jm_m_Mod_isChain.2.1 30 = .ok (.ireturn, 1) := by decide +kernel
theorem jd_Mod_costAt_0 : decode jm_m_Mod_costAt.2.1 0 = .ok (.aload_n 0, 1) := by decide +kernel
theorem jd_Mod_costAt_1 : decode jm_m_Mod_costAt.2.1 1 = .ok (.getfield 34, 3) := by decide +kernel
theorem jd_Mod_costAt_4 : decode jm_m_Mod_costAt.2.1 4 = .ok (.iload_n 1, 1) := by decide +kernel
theorem jd_Mod_costAt_5 : decode jm_m_Mod_costAt.2.1 5 = .ok (.iaload, 1) := by decide +kernel
theorem jd_Mod_costAt_6 : decode jm_m_Mod_costAt.2.1 6 = .ok (.istore_n 3, 1) := by decide +kernel
theorem jd_Mod_costAt_7 : decode jm_m_Mod_costAt.2.1 7 = .ok (.iload_n 2, 1) := by decide +kernel
theorem jd_Mod_costAt_8 : decode jm_m_Mod_costAt.2.1 8 = .ok (.istore 4, 2) := by decide +kernel
theorem jd_Mod_costAt_10 : decode jm_m_Mod_costAt.2.1 10 = .ok (.iconst 0, 1) := by decide +kernel
theorem jd_Mod_costAt_11 : decode jm_m_Mod_costAt.2.1 11 = .ok (.istore 5, 2) := by decide +kernel
theorem jd_Mod_costAt_13 : decode jm_m_Mod_costAt.2.1 13 = .ok (.iload 5, 2) := by decide +kernel
theorem jd_Mod_costAt_15 : decode jm_m_Mod_costAt.2.1 15 = .ok (.aload_n 0, 1) := by decide +kernel
theorem jd_Mod_costAt_16 : decode jm_m_Mod_costAt.2.1 16 = .ok (.getfield 40, 3) := by decide +kernel
theorem jd_Mod_costAt_19 : decode jm_m_Mod_costAt.2.1 19 = .ok (.iload_n 1, 1) := by decide +kernel
theorem jd_Mod_costAt_20 : decode jm_m_Mod_costAt.2.1 20 = .ok (.iaload, 1) := by decide +kernel
theorem jd_Mod_costAt_21 : decode jm_m_Mod_costAt.2.1 21 = .ok (.if_icmp .ge 131, 3) := by decide +kernel
theorem jd_Mod_costAt_24 : decode jm_m_Mod_costAt.2.1 24 = .ok (.aload_n 0, 1) := by decide +kernel
theorem jd_Mod_costAt_25 : decode jm_m_Mod_costAt.2.1 25 = .ok (.getfield 37, 3) := by decide +kernel
theorem jd_Mod_costAt_28 : decode jm_m_Mod_costAt.2.1 28 = .ok (.bipush 12, 2) := by decide +kernel
theorem jd_Mod_costAt_30 : decode jm_m_Mod_costAt.2.1 30 = .ok (.iload_n 1, 1) := by decide +kernel
theorem jd_Mod_costAt_31 : decode jm_m_Mod_costAt.2.1 31 = .ok (.imul, 1) := by decide +kernel
theorem jd_Mod_costAt_32 : decode jm_m_Mod_costAt.2.1 32 = .ok (.iload 5, 2) := by decide +kernel
theorem jd_Mod_costAt_34 : decode jm_m_Mod_costAt.2.1 34 = .ok (.iadd, 1) := by decide +kernel
theorem jd_Mod_costAt_35 : decode jm_m_Mod_costAt.2.1 35 = .ok (.iaload, 1) := by decide +kernel
theorem jd_Mod_costAt_36 : decode jm_m_Mod_costAt.2.1 36 = .ok (.istore 6, 2) := by decide +kernel
theorem jd_Mod_costAt_38 : decode jm_m_Mod_costAt.2.1 38 = .ok (.iload 6, 2) := by decide +kernel
theorem jd_Mod_costAt_40 : decode jm_m_Mod_costAt.2.1 40 = .ok (.invokestatic 189, 3) := by decide +kernel
theorem jd_Mod_costAt_43 : decode jm_m_Mod_costAt.2.1 43 = .ok (.istore 7, 2) := by decide +kernel
theorem jd_Mod_costAt_45 : decode jm_m_Mod_costAt.2.1 45 = .ok (.iload 7, 2) := by decide +kernel
theorem jd_Mod_costAt_47 : decode jm_m_Mod_costAt.2.1 47 = .ok (.ifCond .lt 29, 3) := by decide +kernel
theorem jd_Mod_costAt_50 : decode jm_m_Mod_costAt.2.1 50 = .ok (.iload_n 3, 1) := by decide +kernel
theorem jd_Mod_costAt_51 : decode jm_m_Mod_costAt.2.1 51 = .ok (.aload_n 0, 1) := by decide +kernel
theorem jd_Mod_costAt_52 : decode jm_m_Mod_costAt.2.1 52 = .ok (.getfield 49, 3) := by decide +kernel
theorem jd_Mod_costAt_55 : decode jm_m_Mod_costAt.2.1 55 = .ok (.iconst 2, 1) := by decide +kernel
theorem jd_Mod_costAt_56 : decode jm_m_Mod_costAt.2.1 56 = .ok (.iload 4, 2) := by decide +kernel
theorem jd_Mod_costAt_58 : decode jm_m_Mod_costAt.2.1 58 = .ok (.imul, 1) := by decide +kernel
theorem jd_Mod_costAt_59 : decode jm_m_Mod_costAt.2.1 59 = .ok (.iload 7, 2) := by decide +kernel
theorem jd_Mod_costAt_61 : decode jm_m_Mod_costAt.2.1 61 = .ok (.iadd, 1) := by decide +kernel
theorem jd_Mod_costAt_62 : decode jm_m_Mod_costAt.2.1 62 = .ok (.iaload, 1) := by decide +kernel
theorem jd_Mod_costAt_63 : decode jm_m_Mod_costAt.2.1 63 = .ok (.iadd, 1) := by decide +kernel
theorem jd_Mod_costAt_64 : decode jm_m_Mod_costAt.2.1 64 = .ok (.istore_n 3, 1) := by decide +kernel
theorem jd_Mod_costAt_65 : decode jm_m_Mod_costAt.2.1 65 = .ok (.aload_n 0, 1) := by decide +kernel
theorem jd_Mod_costAt_66 : decode jm_m_Mod_costAt.2.1 66 = .ok (.iload 4, 2) := by decide +kernel
theorem jd_Mod_costAt_68 : decode jm_m_Mod_costAt.2.1 68 = .ok (.invokevirtual 172, 3) := by decide +kernel
theorem jd_Mod_costAt_71 : decode jm_m_Mod_costAt.2.1 71 = .ok (.istore 4, 2) := by decide +kernel
theorem jd_Mod_costAt_73 : decode jm_m_Mod_costAt.2.1 73 = .ok (.goto 73, 3) := by decide +kernel
theorem jd_Mod_costAt_76 : decode jm_m_Mod_costAt.2.1 76 = .ok (.iload 6, 2) := by decide +kernel
theorem jd_Mod_costAt_78 : decode jm_m_Mod_costAt.2.1 78 = .ok (.bipush 75, 2) := by decide +kernel
theorem jd_Mod_costAt_80 : decode jm_m_Mod_costAt.2.1 80 = .ok (.if_icmp .ne 16, 3) := by decide +kernel
theorem jd_Mod_costAt_83 : decode jm_m_Mod_costAt.2.1 83 = .ok (.aload_n 0, 1) := by decide +kernel
theorem jd_Mod_costAt_84 : decode jm_m_Mod_costAt.2.1 84 = .ok (.getfield 13, 3) := by decide +kernel
theorem jd_Mod_costAt_87 : decode jm_m_Mod_costAt.2.1 87 = .ok (.iload 4, 2) := by decide +kernel
