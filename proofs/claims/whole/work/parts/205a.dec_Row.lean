theorem jd_Row_init_0 : decode jm_m_Row_init.2.1 0 = .ok (.aload_n 0, 1) := by decide +kernel
theorem jd_Row_init_1 : decode jm_m_Row_init.2.1 1 = .ok (.invokespecial 1, 3) := by decide +kernel
theorem jd_Row_init_4 : decode jm_m_Row_init.2.1 4 = .ok (.aload_n 0, 1) := by decide +kernel
theorem jd_Row_init_5 : decode jm_m_Row_init.2.1 5 = .ok (.bipush 6, 2) := by decide +kernel
theorem jd_Row_init_7 : decode jm_m_Row_init.2.1 7 = .ok (.bipush 12, 2) := by decide +kernel
theorem jd_Row_init_9 : decode jm_m_Row_init.2.1 9 = .ok (.multianewarray 9 2, 4) := by decide +kernel
theorem jd_Row_init_13 : decode jm_m_Row_init.2.1 13 = .ok (.putfield 11, 3) := by decide +kernel
theorem jd_Row_init_16 : decode jm_m_Row_init.2.1 16 = .ok (.aload_n 0, 1) := by decide +kernel
theorem jd_Row_init_17 : decode jm_m_Row_init.2.1 17 = .ok (.bipush 12, 2) := by decide +kernel
theorem jd_Row_init_19 : decode jm_m_Row_init.2.1 19 = .ok (.newarray .int, 2) := by decide +kernel
theorem jd_Row_init_21 : decode jm_m_Row_init.2.1 21 = .ok (.putfield 14, 3) := by decide +kernel
theorem jd_Row_init_24 : decode jm_m_Row_init.2.1 24 = .ok (.aload_n 0, 1) := by decide +kernel
theorem jd_Row_init_25 : decode jm_m_Row_init.2.1 25 = .ok (.bipush 12, 2) := by decide +kernel
theorem jd_Row_init_27 : decode jm_m_Row_init.2.1 27 = .ok (.newarray .int, 2) := by decide +kernel
theorem jd_Row_init_29 : decode jm_m_Row_init.2.1 29 = .ok (.putfield 18, 3) := by decide +kernel
theorem jd_Row_init_32 : decode jm_m_Row_init.2.1 32 = .ok (.aload_n 0, 1) := by decide +kernel
theorem jd_Row_init_33 : decode jm_m_Row_init.2.1 33 = .ok (.iconst 1, 1) := by decide +kernel
theorem jd_Row_init_34 : decode jm_m_Row_init.2.1 34 = .ok (.putfield 21, 3) := by decide +kernel
theorem jd_Row_init_37 : decode jm_m_Row_init.2.1 37 = .ok (.return_, 1) := by decide +kernel
theorem jd_Row_isOp_0 : decode jm_m_Row_isOp.2.1 0 = .ok (.iload_n 0, 1) := by decide +kernel
theorem jd_Row_isOp_1 : decode jm_m_Row_isOp.2.1 1 = .ok (.ifCond .lt 13, 3) := by decide +kernel
theorem jd_Row_isOp_4 : decode jm_m_Row_isOp.2.1 4 = .ok (.iload_n 0, 1) := by decide +kernel
theorem jd_Row_isOp_5 : decode jm_m_Row_isOp.2.1 5 = .ok (.bipush 6, 2) := by decide +kernel
theorem jd_Row_isOp_7 : decode jm_m_Row_isOp.2.1 7 = .ok (.if_icmp .gt 7, 3) := by decide +kernel
theorem jd_Row_isOp_10 : decode jm_m_Row_isOp.2.1 10 = .ok (.iconst 1, 1) := by decide +kernel
theorem jd_Row_isOp_11 : decode jm_m_Row_isOp.2.1 11 = .ok (.goto 4, 3) := by decide +kernel
theorem jd_Row_isOp_14 : decode jm_m_Row_isOp.2.1 14 = .ok (.iconst 0, 1) := by decide +kernel
theorem jd_Row_isOp_15 : decode jm_m_Row_isOp.2.1 15 = .ok (.ireturn, 1) := by decide +kernel
theorem jd_Row_isRegister_0 : decode jm_m_Row_isRegister.2.1 0 = .ok (.iload_n 0, 1) := by decide +kernel
theorem jd_Row_isRegister_1 : decode jm_m_Row_isRegister.2.1 1 = .ok (.ifCond .lt 13, 3) := by decide +kernel
theorem jd_Row_isRegister_4 : decode jm_m_Row_isRegister.2.1 4 = .ok (.iload_n 0, 1) := by decide +kernel
theorem jd_Row_isRegister_5 : decode jm_m_Row_isRegister.2.1 5 = .ok (.bipush 6, 2) := by decide +kernel
theorem jd_Row_isRegister_7 : decode jm_m_Row_isRegister.2.1 7 = .ok (.if_icmp .ge 7, 3) := by decide +kernel
theorem jd_Row_isRegister_10 : decode jm_m_Row_isRegister.2.1 10 = .ok (.iconst 1, 1) := by decide +kernel
theorem jd_Row_isRegister_11 : decode jm_m_Row_isRegister.2.1 11 = .ok (.goto 4, 3) := by decide +kernel
theorem jd_Row_isRegister_14 : decode jm_m_Row_isRegister.2.1 14 = .ok (.iconst 0, 1) := by decide +kernel
theorem jd_Row_isRegister_15 : decode jm_m_Row_isRegister.2.1 15 = .ok (.ireturn, 1) := by decide +kernel
theorem jd_Row_hasSecond_0 : decode jm_m_Row_hasSecond.2.1 0 = .ok (.iload_n 0, 1) := by decide +kernel
theorem jd_Row_hasSecond_1 : decode jm_m_Row_hasSecond.2.1 1 = .ok (.iconst 5, 1) := by decide +kernel
theorem jd_Row_hasSecond_2 : decode jm_m_Row_hasSecond.2.1 2 = .ok (.if_icmp .ge 7, 3) := by decide +kernel
theorem jd_Row_hasSecond_5 : decode jm_m_Row_hasSecond.2.1 5 = .ok (.iconst 1, 1) := by decide +kernel
theorem jd_Row_hasSecond_6 : decode jm_m_Row_hasSecond.2.1 6 = .ok (.goto 4, 3) := by decide +kernel
theorem jd_Row_hasSecond_9 : decode jm_m_Row_hasSecond.2.1 9 = .ok (.iconst 0, 1) := by decide +kernel
theorem jd_Row_hasSecond_10 : decode jm_m_Row_hasSecond.2.1 10 = .ok (.ireturn, 1) := by decide +kernel
theorem jd_Row_has_0 : decode jm_m_Row_has.2.1 0 = .ok (.iload_n 1, 1) := by decide +kernel
theorem jd_Row_has_1 : decode jm_m_Row_has.2.1 1 = .ok (.ifCond .lt 15, 3) := by decide +kernel
theorem jd_Row_has_4 : decode jm_m_Row_has.2.1 4 = .ok (.iload_n 1, 1) := by decide +kernel
theorem jd_Row_has_5 : decode jm_m_Row_has.2.1 5 = .ok (.aload_n 0, 1) := by decide +kernel
theorem jd_Row_has_6 : decode jm_m_Row_has.2.1 6 = .ok (.getfield 25, 3) := by decide +kernel
theorem jd_Row_has_9 : decode jm_m_Row_has.2.1 9 = .ok (.if_icmp .ge 7, 3) := by decide +kernel
theorem jd_Row_has_12 : decode jm_m_Row_has.2.1 12 = .ok (.iconst 1, 1) := by decide +kernel
theorem jd_Row_has_13 : decode jm_m_Row_has.2.1 13 = .ok (.goto 4, 3) := by decide +kernel
theorem jd_Row_has_16 : decode jm_m_Row_has.2.1 16 = .ok (.iconst 0, 1) := by decide +kernel
theorem jd_Row_has_17 : decode jm_m_Row_has.2.1 17 = .ok (.ireturn, 1) := by decide +kernel
theorem jd_Row_append_0 : decode jm_m_Row_append.2.1 0 = .ok (.aload_n 0, 1) := by decide +kernel
theorem jd_Row_append_1 : decode jm_m_Row_append.2.1 1 = .ok (.getfield 25, 3) := by decide +kernel
theorem jd_Row_append_4 : decode jm_m_Row_append.2.1 4 = .ok (.bipush 12, 2) := by decide +kernel
theorem jd_Row_append_6 : decode jm_m_Row_append.2.1 6 = .ok (.if_icmp .lt 5, 3) := by decide +kernel
theorem jd_Row_append_9 : decode jm_m_Row_append.2.1 9 = .ok (.iconst 0, 1) := by decide +kernel
theorem jd_Row_append_10 : decode jm_m_Row_append.2.1 10 = .ok (.ireturn, 1) := by decide +kernel
theorem jd_Row_append_11 : decode jm_m_Row_append.2.1 11 = .ok (.aload_n 0, 1) := by decide +kernel
theorem jd_Row_append_12 : decode jm_m_Row_append.2.1 12 = .ok (.getfield 11, 3) := by decide +kernel
theorem jd_Row_append_15 : decode jm_m_Row_append.2.1 15 = .ok (.iconst 0, 1) := by decide +kernel
theorem jd_Row_append_16 : decode jm_m_Row_append.2.1 16 = .ok (.aaload, 1) := by decide +kernel
theorem jd_Row_append_17 : decode jm_m_Row_append.2.1 17 = .ok (.aload_n 0, 1) := by decide +kernel
theorem jd_Row_append_18 : decode jm_m_Row_append.2.1 18 = .ok (.getfield 25, 3) := by decide +kernel
theorem jd_Row_append_21 : decode jm_m_Row_append.2.1 21 = .ok (.iload_n 1, 1) := by decide +kernel
theorem jd_Row_append_22 : decode jm_m_Row_append.2.1 22 = .ok (.iastore, 1) := by decide +kernel
theorem jd_Row_append_23 : decode jm_m_Row_append.2.1 23 = .ok (.aload_n 0, 1) := by decide +kernel
theorem jd_Row_append_24 : decode jm_m_Row_append.2.1 24 = .ok (.getfield 11, 3) := by decide +kernel
theorem jd_Row_append_27 : decode jm_m_Row_append.2.1 27 = .ok (.iconst 1, 1) := by decide +kernel
theorem jd_Row_append_28 : decode jm_m_Row_append.2.1 28 = .ok (.aaload, 1) := by decide +kernel
theorem jd_Row_append_29 : decode jm_m_Row_append.2.1 29 = .ok (.aload_n 0, 1) := by decide +kernel
theorem jd_Row_append_30 : decode jm_m_Row_append.2.1 30 = .ok (.getfield 25, 3) := by decide +kernel
theorem jd_Row_append_33 : decode jm_m_Row_append.2.1 33 = .ok (.iload_n 2, 1) := by decide +kernel
theorem jd_Row_append_34 : decode jm_m_Row_append.2.1 34 = .ok (.iastore, 1) := by decide +kernel
theorem jd_Row_append_35 : decode jm_m_Row_append.2.1 35 = .ok (.aload_n 0, 1) := by decide +kernel
theorem jd_Row_append_36 : decode jm_m_Row_append.2.1 36 = .ok (.getfield 11, 3) := by decide +kernel
theorem jd_Row_append_39 : decode jm_m_Row_append.2.1 39 = .ok (.iconst 2, 1) := by decide +kernel
theorem jd_Row_append_40 : decode jm_m_Row_append.2.1 40 = .ok (.aaload, 1) := by decide +kernel
theorem jd_Row_append_41 : decode jm_m_Row_append.2.1 41 = .ok (.aload_n 0, 1) := by decide +kernel
theorem jd_Row_append_42 : decode jm_m_Row_append.2.1 42 = .ok (.getfield 25, 3) := by decide +kernel
theorem jd_Row_append_45 : decode jm_m_Row_append.2.1 45 = .ok (.iload_n 3, 1) := by decide +kernel
theorem jd_Row_append_46 : decode jm_m_Row_append.2.1 46 = .ok (.iastore, 1) := by decide +kernel
theorem jd_Row_append_47 : decode jm_m_Row_append.2.1 47 = .ok (.aload_n 0, 1) := by decide +kernel
theorem jd_Row_append_48 : decode jm_m_Row_append.2.1 48 = .ok (.getfield 11, 3) := by decide +kernel
theorem jd_Row_append_51 : decode jm_m_Row_append.2.1 51 = .ok (.iconst 3, 1) := by decide +kernel
theorem jd_Row_append_52 : decode jm_m_Row_append.2.1 52 = .ok (.aaload, 1) := by decide +kernel
theorem jd_Row_append_53 : decode jm_m_Row_append.2.1 53 = .ok (.aload_n 0, 1) := by decide +kernel
theorem jd_Row_append_54 : decode jm_m_Row_append.2.1 54 = .ok (.getfield 25, 3) := by decide +kernel
theorem jd_Row_append_57 : decode jm_m_Row_append.2.1 57 = .ok (.iload 4, 2) := by decide +kernel
theorem jd_Row_append_59 : decode jm_m_Row_append.2.1 59 = .ok (.iastore, 1) := by decide +kernel
theorem jd_Row_append_60 : decode jm_m_Row_append.2.1 60 = .ok (.aload_n 0, 1) := by decide +kernel
theorem jd_Row_append_61 : decode jm_m_Row_append.2.1 61 = .ok (.getfield 11, 3) := by decide +kernel
theorem jd_Row_append_64 : decode jm_m_Row_append.2.1 64 = .ok (.iconst 4, 1) := by decide +kernel
theorem jd_Row_append_65 : decode jm_m_Row_append.2.1 65 = .ok (.aaload, 1) := by decide +kernel
theorem jd_Row_append_66 : decode jm_m_Row_append.2.1 66 = .ok (.aload_n 0, 1) := by decide +kernel
theorem jd_Row_append_67 : decode jm_m_Row_append.2.1 67 = .ok (.getfield 25, 3) := by decide +kernel
theorem jd_Row_append_70 : decode jm_m_Row_append.2.1 70 = .ok (.iload 5, 2) := by decide +kernel
theorem jd_Row_append_72 : decode jm_m_Row_append.2.1 72 = .ok (.iastore, 1) := by decide +kernel
theorem jd_Row_append_73 : decode jm_m_Row_append.2.1 73 = .ok (.aload_n 0, 1) := by decide +kernel
theorem jd_Row_append_74 : decode jm_m_Row_append.2.1 74 = .ok (.getfield 11, 3) := by decide +kernel
theorem jd_Row_append_77 : decode jm_m_Row_append.2.1 77 = .ok (.iconst 5, 1) := by decide +kernel
theorem jd_Row_append_78 : decode jm_m_Row_append.2.1 78 = .ok (.aaload, 1) := by decide +kernel
theorem jd_Row_append_79 : decode jm_m_Row_append.2.1 79 = .ok (.aload_n 0, 1) := by decide +kernel
theorem jd_Row_append_80 : decode jm_m_Row_append.2.1 80 = .ok (.getfield 25, 3) := by decide +kernel
theorem jd_Row_append_83 : decode jm_m_Row_append.2.1 83 = .ok (.iconst 1, 1) := by decide +kernel
theorem jd_Row_append_84 : decode jm_m_Row_append.2.1 84 = .ok (.iastore, 1) := by decide +kernel
theorem jd_Row_append_85 : decode jm_m_Row_append.2.1 85 = .ok (.aload_n 0, 1) := by decide +kernel
theorem jd_Row_append_86 : decode jm_m_Row_append.2.1 86 = .ok (.dup, 1) := by decide +kernel
theorem jd_Row_append_87 : decode jm_m_Row_append.2.1 87 = .ok (.getfield 25, 3) := by decide +kernel
theorem jd_Row_append_90 : decode jm_m_Row_append.2.1 90 = .ok (.iconst 1, 1) := by decide +kernel
theorem jd_Row_append_91 : decode jm_m_Row_append.2.1 91 = .ok (.iadd, 1) := by decide +kernel
theorem jd_Row_append_92 : decode jm_m_Row_append.2.1 92 = .ok (.putfield 25, 3) := by decide +kernel
theorem jd_Row_append_95 : decode jm_m_Row_append.2.1 95 = .ok (.aload_n 0, 1) := by decide +kernel
theorem jd_Row_append_96 : decode jm_m_Row_append.2.1 96 = .ok (.dup, 1) := by decide +kernel
theorem jd_Row_append_97 : decode jm_m_Row_append.2.1 97 = .ok (.getfield 21, 3) := by decide +kernel
theorem jd_Row_append_100 : decode jm_m_Row_append.2.1 100 = .ok (.iconst 1, 1) := by decide +kernel
theorem jd_Row_append_101 : decode jm_m_Row_append.2.1 101 = .ok (.iadd, 1) := by decide +kernel
theorem jd_Row_append_102 : decode jm_m_Row_append.2.1 102 = .ok (.putfield 21, 3) := by decide +kernel
theorem jd_Row_append_105 : decode jm_m_Row_append.2.1 105 = .ok (.iconst 1, 1) := by decide +kernel
theorem jd_Row_append_106 : decode jm_m_Row_append.2.1 106 = .ok (.ireturn, 1) := by decide +kernel
theorem jd_Row_empty_0 : decode jm_m_Row_empty.2.1 0 = .ok (.aload_n 0, 1) := by decide +kernel
theorem jd_Row_empty_1 : decode jm_m_Row_empty.2.1 1 = .ok (.iconst 0, 1) := by decide +kernel
theorem jd_Row_empty_2 : decode jm_m_Row_empty.2.1 2 = .ok (.putfield 25, 3) := by decide +kernel
theorem jd_Row_empty_5 : decode jm_m_Row_empty.2.1 5 = .ok (.aload_n 0, 1) := by decide +kernel
theorem jd_Row_empty_6 : decode jm_m_Row_empty.2.1 6 = .ok (.dup, 1) := by decide +kernel
theorem jd_Row_empty_7 : decode jm_m_Row_empty.2.1 7 = .ok (.getfield 21, 3) := by decide +kernel
theorem jd_Row_empty_10 : decode jm_m_Row_empty.2.1 10 = .ok (.iconst 1, 1) := by decide +kernel
theorem jd_Row_empty_11 : decode jm_m_Row_empty.2.1 11 = .ok (.iadd, 1) := by decide +kernel
theorem jd_Row_empty_12 : decode jm_m_Row_empty.2.1 12 = .ok (.putfield 21, 3) := by decide +kernel
theorem jd_Row_empty_15 : decode jm_m_Row_empty.2.1 15 = .ok (.return_, 1) := by decide +kernel
theorem jd_Row_remove_0 : decode jm_m_Row_remove.2.1 0 = .ok (.aload_n 0, 1) := by decide +kernel
theorem jd_Row_remove_1 : decode jm_m_Row_remove.2.1 1 = .ok (.iload_n 1, 1) := by decide +kernel
theorem jd_Row_remove_2 : decode jm_m_Row_remove.2.1 2 = .ok (.invokevirtual 28, 3) := by decide +kernel
theorem jd_Row_remove_5 : decode jm_m_Row_remove.2.1 5 = .ok (.ifCond .ne 4, 3) := by decide +kernel
theorem jd_Row_remove_8 : decode jm_m_Row_remove.2.1 8 = .ok (.return_, 1) := by decide +kernel
theorem jd_Row_remove_9 : decode jm_m_Row_remove.2.1 9 = .ok (.aload_n 0, 1) := by decide +kernel
theorem jd_Row_remove_10 : decode jm_m_Row_remove.2.1 10 = .ok (.dup, 1) := by decide +kernel
theorem jd_Row_remove_11 : decode jm_m_Row_remove.2.1 11 = .ok (.getfield 25, 3) := by decide +kernel
theorem jd_Row_remove_14 : decode jm_m_Row_remove.2.1 14 = .ok (.iconst 1, 1) := by decide +kernel
theorem jd_Row_remove_15 : decode jm_m_Row_remove.2.1 15 = .ok (.isub, 1) := by decide +kernel
theorem jd_Row_remove_16 : decode jm_m_Row_remove.2.1 16 = .ok (.putfield 25, 3) := by decide +kernel
theorem jd_Row_remove_19 : decode jm_m_Row_remove.2.1 19 = .ok (.iconst 0, 1) := by decide +kernel
theorem jd_Row_remove_20 : decode jm_m_Row_remove.2.1 20 = .ok (.istore_n 2, 1) := by decide +kernel
theorem jd_Row_remove_21 : decode jm_m_Row_remove.2.1 21 = .ok (.iload_n 2, 1) := by decide +kernel
theorem jd_Row_remove_22 : decode jm_m_Row_remove.2.1 22 = .ok (.bipush 6, 2) := by decide +kernel
theorem jd_Row_remove_24 : decode jm_m_Row_remove.2.1 24 = .ok (.if_icmp .ge 43, 3) := by decide +kernel
theorem jd_Row_remove_27 : decode jm_m_Row_remove.2.1 27 = .ok (.iload_n 1, 1) := by decide +kernel
theorem jd_Row_remove_28 : decode jm_m_Row_remove.2.1 28 = .ok (.istore_n 3, 1) := by decide +kernel
theorem jd_Row_remove_29 : decode jm_m_Row_remove.2.1 29 = .ok (.iload_n 3, 1) := by decide +kernel
theorem jd_Row_remove_30 : decode jm_m_Row_remove.2.1 30 = .ok (.aload_n 0, 1) := by decide +kernel
theorem jd_Row_remove_31 : decode jm_m_Row_remove.2.1 31 = .ok (.getfield 25, 3) := by decide +kernel
theorem jd_Row_remove_34 : decode jm_m_Row_remove.2.1 34 = .ok (.if_icmp .ge 27, 3) := by decide +kernel
theorem jd_Row_remove_37 : decode jm_m_Row_remove.2.1 37 = .ok (.aload_n 0, 1) := by decide +kernel
theorem jd_Row_remove_38 : decode jm_m_Row_remove.2.1 38 = .ok (.getfield 11, 3) := by decide +kernel
theorem jd_Row_remove_41 : decode jm_m_Row_remove.2.1 41 = .ok (.iload_n 2, 1) := by decide +kernel
theorem jd_Row_remove_42 : decode jm_m_Row_remove.2.1 42 = .ok (.aaload, 1) := by decide +kernel
theorem jd_Row_remove_43 : decode jm_m_Row_remove.2.1 43 = .ok (.iload_n 3, 1) := by decide +kernel
theorem jd_Row_remove_44 : decode jm_m_Row_remove.2.1 44 = .ok (.aload_n 0, 1) := by decide +kernel
theorem jd_Row_remove_45 : decode jm_m_Row_remove.2.1 45 = .ok (.getfield 11, 3) := by decide +kernel
theorem jd_Row_remove_48 : decode jm_m_Row_remove.2.1 48 = .ok (.iload_n 2, 1) := by decide +kernel
theorem jd_Row_remove_49 : decode jm_m_Row_remove.2.1 49 = .ok (.aaload, 1) := by decide +kernel
theorem jd_Row_remove_50 : decode jm_m_Row_remove.2.1 50 = .ok (.iload_n 3, 1) := by decide +kernel
theorem jd_Row_remove_51 : decode jm_m_Row_remove.2.1 51 = .ok (.iconst 1, 1) := by decide +kernel
theorem jd_Row_remove_52 : decode jm_m_Row_remove.2.1 52 = .ok (.iadd, 1) := by decide +kernel
theorem jd_Row_remove_53 : decode jm_m_Row_remove.2.1 53 = .ok (.iaload, 1) := by decide +kernel
theorem jd_Row_remove_54 : decode jm_m_Row_remove.2.1 54 = .ok (.iastore, 1) := by decide +kernel
theorem jd_Row_remove_55 : decode jm_m_Row_remove.2.1 55 = .ok (.iinc 3 1, 3) := by decide +kernel
theorem jd_Row_remove_58 : decode jm_m_Row_remove.2.1 58 = .ok (.goto (-29), 3) := by decide +kernel
theorem jd_Row_remove_61 : decode jm_m_Row_remove.2.1 61 = .ok (.iinc 2 1, 3) := by decide +kernel
theorem jd_Row_remove_64 : decode jm_m_Row_remove.2.1 64 = .ok (.goto (-43), 3) := by decide +kernel
theorem jd_Row_remove_67 : decode jm_m_Row_remove.2.1 67 = .ok (.aload_n 0, 1) := by decide +kernel
theorem jd_Row_remove_68 : decode jm_m_Row_remove.2.1 68 = .ok (.dup, 1) := by decide +kernel
theorem jd_Row_remove_69 : decode jm_m_Row_remove.2.1 69 = .ok (.getfield 21, 3) := by decide +kernel
theorem jd_Row_remove_72 : decode jm_m_Row_remove.2.1 72 = .ok (.iconst 1, 1) := by decide +kernel
theorem jd_Row_remove_73 : decode jm_m_Row_remove.2.1 73 = .ok (.iadd, 1) := by decide +kernel
theorem jd_Row_remove_74 : decode jm_m_Row_remove.2.1 74 = .ok (.putfield 21, 3) := by decide +kernel
theorem jd_Row_remove_77 : decode jm_m_Row_remove.2.1 77 = .ok (.return_, 1) := by decide +kernel
theorem jd_Row_rearrange_0 : decode jm_m_Row_rearrange.2.1 0 = .ok (.iconst 0, 1) := by decide +kernel
theorem jd_Row_rearrange_1 : decode jm_m_Row_rearrange.2.1 1 = .ok (.istore_n 2, 1) := by decide +kernel
theorem jd_Row_rearrange_2 : decode jm_m_Row_rearrange.2.1 2 = .ok (.iload_n 2, 1) := by decide +kernel
theorem jd_Row_rearrange_3 : decode jm_m_Row_rearrange.2.1 3 = .ok (.bipush 6, 2) := by decide +kernel
theorem jd_Row_rearrange_5 : decode jm_m_Row_rearrange.2.1 5 = .ok (.if_icmp .ge 87, 3) := by decide +kernel
theorem jd_Row_rearrange_8 : decode jm_m_Row_rearrange.2.1 8 = .ok (.iconst 0, 1) := by decide +kernel
theorem jd_Row_rearrange_9 : decode jm_m_Row_rearrange.2.1 9 = .ok (.istore_n 3, 1) := by decide +kernel
theorem jd_Row_rearrange_10 : decode jm_m_Row_rearrange.2.1 10 = .ok (.iload_n 3, 1) := by decide +kernel
theorem jd_Row_rearrange_11 : decode jm_m_Row_rearrange.2.1 11 = .ok (.aload_n 0, 1) := by decide +kernel
theorem jd_Row_rearrange_12 : decode jm_m_Row_rearrange.2.1 12 = .ok (.getfield 25, 3) := by decide +kernel
theorem jd_Row_rearrange_15 : decode jm_m_Row_rearrange.2.1 15 = .ok (.if_icmp .ge 23, 3) := by decide +kernel
theorem jd_Row_rearrange_18 : decode jm_m_Row_rearrange.2.1 18 = .ok (.aload_n 0, 1) := by decide +kernel
theorem jd_Row_rearrange_19 : decode jm_m_Row_rearrange.2.1 19 = .ok (.getfield 18, 3) := by decide +kernel
theorem jd_Row_rearrange_22 : decode jm_m_Row_rearrange.2.1 22 = .ok (.iload_n 3, 1) := by decide +kernel
theorem jd_Row_rearrange_23 : decode jm_m_Row_rearrange.2.1 23 = .ok (.aload_n 0, 1) := by decide +kernel
theorem jd_Row_rearrange_24 : decode jm_m_Row_rearrange.2.1 24 = .ok (.getfield 11, 3) := by decide +kernel
theorem jd_Row_rearrange_27 : decode jm_m_Row_rearrange.2.1 27 = .ok (.iload_n 2, 1) := by decide +kernel
theorem jd_Row_rearrange_28 : decode jm_m_Row_rearrange.2.1 28 = .ok (.aaload, 1) := by decide +kernel
theorem jd_Row_rearrange_29 : decode jm_m_Row_rearrange.2.1 29 = .ok (.iload_n 3, 1) := by decide +kernel
theorem jd_Row_rearrange_30 : decode jm_m_Row_rearrange.2.1 30 = .ok (.iaload, 1) := by decide +kernel
theorem jd_Row_rearrange_31 : decode jm_m_Row_rearrange.2.1 31 = .ok (.iastore, 1) := by decide +kernel
theorem jd_Row_rearrange_32 : decode jm_m_Row_rearrange.2.1 32 = .ok (.iinc 3 1, 3) := by decide +kernel
theorem jd_Row_rearrange_35 : decode jm_m_Row_rearrange.2.1 35 = .ok (.goto (-25), 3) := by decide +kernel
theorem jd_Row_rearrange_38 : decode jm_m_Row_rearrange.2.1 38 = .ok (.iconst 0, 1) := by decide +kernel
theorem jd_Row_rearrange_39 : decode jm_m_Row_rearrange.2.1 39 = .ok (.istore_n 3, 1) := by decide +kernel
theorem jd_Row_rearrange_40 : decode jm_m_Row_rearrange.2.1 40 = .ok (.iload_n 3, 1) := by decide +kernel
theorem jd_Row_rearrange_41 : decode jm_m_Row_rearrange.2.1 41 = .ok (.aload_n 0, 1) := by decide +kernel
theorem jd_Row_rearrange_42 : decode jm_m_Row_rearrange.2.1 42 = .ok (.getfield 25, 3) := by decide +kernel
theorem jd_Row_rearrange_45 : decode jm_m_Row_rearrange.2.1 45 = .ok (.if_icmp .ge 41, 3) := by decide +kernel
theorem jd_Row_rearrange_48 : decode jm_m_Row_rearrange.2.1 48 = .ok (.iload_n 3, 1) := by decide +kernel
theorem jd_Row_rearrange_49 : decode jm_m_Row_rearrange.2.1 49 = .ok (.aload_n 1, 1) := by decide +kernel
theorem jd_Row_rearrange_50 : decode jm_m_Row_rearrange.2.1 50 = .ok (.arraylength, 1) := by decide +kernel
theorem jd_Row_rearrange_51 : decode jm_m_Row_rearrange.2.1 51 = .ok (.if_icmp .ge 35, 3) := by decide +kernel
theorem jd_Row_rearrange_54 : decode jm_m_Row_rearrange.2.1 54 = .ok (.aload_n 0, 1) := by decide +kernel
theorem jd_Row_rearrange_55 : decode jm_m_Row_rearrange.2.1 55 = .ok (.aload_n 1, 1) := by decide +kernel
theorem jd_Row_rearrange_56 : decode jm_m_Row_rearrange.2.1 56 = .ok (.iload_n 3, 1) := by decide +kernel
theorem jd_Row_rearrange_57 : decode jm_m_Row_rearrange.2.1 57 = .ok (.iaload, 1) := by decide +kernel
theorem jd_Row_rearrange_58 : decode jm_m_Row_rearrange.2.1 58 = .ok (.invokevirtual 28, 3) := by decide +kernel
theorem jd_Row_rearrange_61 : decode jm_m_Row_rearrange.2.1 61 = .ok (.ifCond .eq 19, 3) := by decide +kernel
theorem jd_Row_rearrange_64 : decode jm_m_Row_rearrange.2.1 64 = .ok (.aload_n 0, 1) := by decide +kernel
theorem jd_Row_rearrange_65 : decode jm_m_Row_rearrange.2.1 65 = .ok (.getfield 11, 3) := by decide +kernel
theorem jd_Row_rearrange_68 : decode jm_m_Row_rearrange.2.1 68 = .ok (.iload_n 2, 1) := by decide +kernel
theorem jd_Row_rearrange_69 : decode jm_m_Row_rearrange.2.1 69 = .ok (.aaload, 1) := by decide +kernel
theorem jd_Row_rearrange_70 : decode jm_m_Row_rearrange.2.1 70 = .ok (.iload_n 3, 1) := by decide +kernel
theorem jd_Row_rearrange_71 : decode jm_m_Row_rearrange.2.1 71 = .ok (.aload_n 0, 1) := by decide +kernel
theorem jd_Row_rearrange_72 : decode jm_m_Row_rearrange.2.1 72 = .ok (.getfield 18, 3) := by decide +kernel
theorem jd_Row_rearrange_75 : decode jm_m_Row_rearrange.2.1 75 = .ok (.aload_n 1, 1) := by decide +kernel
theorem jd_Row_rearrange_76 : decode jm_m_Row_rearrange.2.1 76 = .ok (.iload_n 3, 1) := by decide +kernel
theorem jd_Row_rearrange_77 : decode jm_m_Row_rearrange.2.1 77 = .ok (.iaload, 1) := by decide +kernel
theorem jd_Row_rearrange_78 : decode jm_m_Row_rearrange.2.1 78 = .ok (.iaload, 1) := by decide +kernel
theorem jd_Row_rearrange_79 : decode jm_m_Row_rearrange.2.1 79 = .ok (.iastore, 1) := by decide +kernel
theorem jd_Row_rearrange_80 : decode jm_m_Row_rearrange.2.1 80 = .ok (.iinc 3 1, 3) := by decide +kernel
theorem jd_Row_rearrange_83 : decode jm_m_Row_rearrange.2.1 83 = .ok (.goto (-43), 3) := by decide +kernel
theorem jd_Row_rearrange_86 : decode jm_m_Row_rearrange.2.1 86 = .ok (.iinc 2 1, 3) := by decide +kernel
theorem jd_Row_rearrange_89 : decode jm_m_Row_rearrange.2.1 89 = .ok (.goto (-87), 3) := by decide +kernel
theorem jd_Row_rearrange_92 : decode jm_m_Row_rearrange.2.1 92 = .ok (.aload_n 0, 1) := by decide +kernel
theorem jd_Row_rearrange_93 : decode jm_m_Row_rearrange.2.1 93 = .ok (.dup, 1) := by decide +kernel
theorem jd_Row_rearrange_94 : decode jm_m_Row_rearrange.2.1 94 = .ok (.getfield 21, 3) := by decide +kernel
theorem jd_Row_rearrange_97 : decode jm_m_Row_rearrange.2.1 97 = .ok (.iconst 1, 1) := by decide +kernel
theorem jd_Row_rearrange_98 : decode jm_m_Row_rearrange.2.1 98 = .ok (.iadd, 1) := by decide +kernel
theorem jd_Row_rearrange_99 : decode jm_m_Row_rearrange.2.1 99 = .ok (.putfield 21, 3) := by decide +kernel
theorem jd_Row_rearrange_102 : decode jm_m_Row_rearrange.2.1 102 = .ok (.return_, 1) := by decide +kernel
theorem jd_Row_uses_0 : decode jm_m_Row_uses.2.1 0 = .ok (.aload_n 0, 1) := by decide +kernel
theorem jd_Row_uses_1 : decode jm_m_Row_uses.2.1 1 = .ok (.getfield 11, 3) := by decide +kernel
theorem jd_Row_uses_4 : decode jm_m_Row_uses.2.1 4 = .ok (.iconst 2, 1) := by decide +kernel
theorem jd_Row_uses_5 : decode jm_m_Row_uses.2.1 5 = .ok (.aaload, 1) := by decide +kernel
theorem jd_Row_uses_6 : decode jm_m_Row_uses.2.1 6 = .ok (.iload_n 1, 1) := by decide +kernel
theorem jd_Row_uses_7 : decode jm_m_Row_uses.2.1 7 = .ok (.iaload, 1) := by decide +kernel
theorem jd_Row_uses_8 : decode jm_m_Row_uses.2.1 8 = .ok (.iload_n 2, 1) := by decide +kernel
theorem jd_Row_uses_9 : decode jm_m_Row_uses.2.1 9 = .ok (.if_icmp .eq 29, 3) := by decide +kernel
theorem jd_Row_uses_12 : decode jm_m_Row_uses.2.1 12 = .ok (.aload_n 0, 1) := by decide +kernel
theorem jd_Row_uses_13 : decode jm_m_Row_uses.2.1 13 = .ok (.getfield 11, 3) := by decide +kernel
theorem jd_Row_uses_16 : decode jm_m_Row_uses.2.1 16 = .ok (.iconst 0, 1) := by decide +kernel
theorem jd_Row_uses_17 : decode jm_m_Row_uses.2.1 17 = .ok (.aaload, 1) := by decide +kernel
theorem jd_Row_uses_18 : decode jm_m_Row_uses.2.1 18 = .ok (.iload_n 1, 1) := by decide +kernel
theorem jd_Row_uses_19 : decode jm_m_Row_uses.2.1 19 = .ok (.iaload, 1) := by decide +kernel
theorem jd_Row_uses_20 : decode jm_m_Row_uses.2.1 20 = .ok (.invokestatic 32, 3) := by decide +kernel
theorem jd_Row_uses_23 : decode jm_m_Row_uses.2.1 23 = .ok (.ifCond .eq 19, 3) := by decide +kernel
theorem jd_Row_uses_26 : decode jm_m_Row_uses.2.1 26 = .ok (.aload_n 0, 1) := by decide +kernel
theorem jd_Row_uses_27 : decode jm_m_Row_uses.2.1 27 = .ok (.getfield 11, 3) := by decide +kernel
theorem jd_Row_uses_30 : decode jm_m_Row_uses.2.1 30 = .ok (.iconst 3, 1) := by decide +kernel
theorem jd_Row_uses_31 : decode jm_m_Row_uses.2.1 31 = .ok (.aaload, 1) := by decide +kernel
theorem jd_Row_uses_32 : decode jm_m_Row_uses.2.1 32 = .ok (.iload_n 1, 1) := by decide +kernel
theorem jd_Row_uses_33 : decode jm_m_Row_uses.2.1 33 = .ok (.iaload, 1) := by decide +kernel
theorem jd_Row_uses_34 : decode jm_m_Row_uses.2.1 34 = .ok (.iload_n 2, 1) := by decide +kernel
theorem jd_Row_uses_35 : decode jm_m_Row_uses.2.1 35 = .ok (.if_icmp .ne 7, 3) := by decide +kernel
theorem jd_Row_uses_38 : decode jm_m_Row_uses.2.1 38 = .ok (.iconst 1, 1) := by decide +kernel
theorem jd_Row_uses_39 : decode jm_m_Row_uses.2.1 39 = .ok (.goto 4, 3) := by decide +kernel
theorem jd_Row_uses_42 : decode jm_m_Row_uses.2.1 42 = .ok (.iconst 0, 1) := by decide +kernel
theorem jd_Row_uses_43 : decode jm_m_Row_uses.2.1 43 = .ok (.ireturn, 1) := by decide +kernel
theorem jd_Row_clash_0 : decode jm_m_Row_clash.2.1 0 = .ok (.aload_n 0, 1) := by decide +kernel
theorem jd_Row_clash_1 : decode jm_m_Row_clash.2.1 1 = .ok (.getfield 11, 3) := by decide +kernel
theorem jd_Row_clash_4 : decode jm_m_Row_clash.2.1 4 = .ok (.iconst 1, 1) := by decide +kernel
theorem jd_Row_clash_5 : decode jm_m_Row_clash.2.1 5 = .ok (.aaload, 1) := by decide +kernel
theorem jd_Row_clash_6 : decode jm_m_Row_clash.2.1 6 = .ok (.iload_n 1, 1) := by decide +kernel
theorem jd_Row_clash_7 : decode jm_m_Row_clash.2.1 7 = .ok (.iaload, 1) := by decide +kernel
theorem jd_Row_clash_8 : decode jm_m_Row_clash.2.1 8 = .ok (.istore_n 3, 1) := by decide +kernel
theorem jd_Row_clash_9 : decode jm_m_Row_clash.2.1 9 = .ok (.aload_n 0, 1) := by decide +kernel
theorem jd_Row_clash_10 : decode jm_m_Row_clash.2.1 10 = .ok (.getfield 11, 3) := by decide +kernel
theorem jd_Row_clash_13 : decode jm_m_Row_clash.2.1 13 = .ok (.iconst 1, 1) := by decide +kernel
theorem jd_Row_clash_14 : decode jm_m_Row_clash.2.1 14 = .ok (.aaload, 1) := by decide +kernel
theorem jd_Row_clash_15 : decode jm_m_Row_clash.2.1 15 = .ok (.iload_n 2, 1) := by decide +kernel
theorem jd_Row_clash_16 : decode jm_m_Row_clash.2.1 16 = .ok (.iaload, 1) := by decide +kernel
theorem jd_Row_clash_17 : decode jm_m_Row_clash.2.1 17 = .ok (.istore 4, 2) := by decide +kernel
theorem jd_Row_clash_19 : decode jm_m_Row_clash.2.1 19 = .ok (.iload_n 3, 1) := by decide +kernel
theorem jd_Row_clash_20 : decode jm_m_Row_clash.2.1 20 = .ok (.iload 4, 2) := by decide +kernel
theorem jd_Row_clash_22 : decode jm_m_Row_clash.2.1 22 = .ok (.if_icmp .eq 22, 3) := by decide +kernel
theorem jd_Row_clash_25 : decode jm_m_Row_clash.2.1 25 = .ok (.aload_n 0, 1) := by decide +kernel
theorem jd_Row_clash_26 : decode jm_m_Row_clash.2.1 26 = .ok (.iload_n 2, 1) := by decide +kernel
theorem jd_Row_clash_27 : decode jm_m_Row_clash.2.1 27 = .ok (.iload_n 3, 1) := by decide +kernel
theorem jd_Row_clash_28 : decode jm_m_Row_clash.2.1 28 = .ok (.invokevirtual 35, 3) := by decide +kernel
theorem jd_Row_clash_31 : decode jm_m_Row_clash.2.1 31 = .ok (.ifCond .ne 13, 3) := by decide +kernel
theorem jd_Row_clash_34 : decode jm_m_Row_clash.2.1 34 = .ok (.aload_n 0, 1) := by decide +kernel
theorem jd_Row_clash_35 : decode jm_m_Row_clash.2.1 35 = .ok (.iload_n 1, 1) := by decide +kernel
theorem jd_Row_clash_36 : decode jm_m_Row_clash.2.1 36 = .ok (.iload 4, 2) := by decide +kernel
theorem jd_Row_clash_38 : decode jm_m_Row_clash.2.1 38 = .ok (.invokevirtual 35, 3) := by decide +kernel
theorem jd_Row_clash_41 : decode jm_m_Row_clash.2.1 41 = .ok (.ifCond .eq 7, 3) := by decide +kernel
theorem jd_Row_clash_44 : decode jm_m_Row_clash.2.1 44 = .ok (.iconst 1, 1) := by decide +kernel
theorem jd_Row_clash_45 : decode jm_m_Row_clash.2.1 45 = .ok (.goto 4, 3) := by decide +kernel
theorem jd_Row_clash_48 : decode jm_m_Row_clash.2.1 48 = .ok (.iconst 0, 1) := by decide +kernel
theorem jd_Row_clash_49 : decode jm_m_Row_clash.2.1 49 = .ok (.ireturn, 1) := by decide +kernel
theorem jd_Row_setterAhead_0 : decode jm_m_Row_setterAhead.2.1 0 = .ok (.iload_n 1, 1) := by decide +kernel
theorem jd_Row_setterAhead_1 : decode jm_m_Row_setterAhead.2.1 1 = .ok (.iconst 1, 1) := by decide +kernel
theorem jd_Row_setterAhead_2 : decode jm_m_Row_setterAhead.2.1 2 = .ok (.isub, 1) := by decide +kernel
theorem jd_Row_setterAhead_3 : decode jm_m_Row_setterAhead.2.1 3 = .ok (.istore_n 3, 1) := by decide +kernel
theorem jd_Row_setterAhead_4 : decode jm_m_Row_setterAhead.2.1 4 = .ok (.iload_n 3, 1) := by decide +kernel
theorem jd_Row_setterAhead_5 : decode jm_m_Row_setterAhead.2.1 5 = .ok (.ifCond .lt 23, 3) := by decide +kernel
theorem jd_Row_setterAhead_8 : decode jm_m_Row_setterAhead.2.1 8 = .ok (.aload_n 0, 1) := by decide +kernel
theorem jd_Row_setterAhead_9 : decode jm_m_Row_setterAhead.2.1 9 = .ok (.getfield 11, 3) := by decide +kernel
theorem jd_Row_setterAhead_12 : decode jm_m_Row_setterAhead.2.1 12 = .ok (.iconst 1, 1) := by decide +kernel
theorem jd_Row_setterAhead_13 : decode jm_m_Row_setterAhead.2.1 13 = .ok (.aaload, 1) := by decide +kernel
theorem jd_Row_setterAhead_14 : decode jm_m_Row_setterAhead.2.1 14 = .ok (.iload_n 3, 1) := by decide +kernel
theorem jd_Row_setterAhead_15 : decode jm_m_Row_setterAhead.2.1 15 = .ok (.iaload, 1) := by decide +kernel
theorem jd_Row_setterAhead_16 : decode jm_m_Row_setterAhead.2.1 16 = .ok (.iload_n 2, 1) := by decide +kernel
theorem jd_Row_setterAhead_17 : decode jm_m_Row_setterAhead.2.1 17 = .ok (.if_icmp .ne 5, 3) := by decide +kernel
theorem jd_Row_setterAhead_20 : decode jm_m_Row_setterAhead.2.1 20 = .ok (.iload_n 3, 1) := by decide +kernel
theorem jd_Row_setterAhead_21 : decode jm_m_Row_setterAhead.2.1 21 = .ok (.ireturn, 1) := by decide +kernel
theorem jd_Row_setterAhead_22 : decode jm_m_Row_setterAhead.2.1 22 = .ok (.iinc 3 (-1), 3) := by decide +kernel
theorem jd_Row_setterAhead_25 : decode jm_m_Row_setterAhead.2.1 25 = .ok (.goto (-21), 3) := by decide +kernel
theorem jd_Row_setterAhead_28 : decode jm_m_Row_setterAhead.2.1 28 = .ok (.iconst (-1), 1) := by decide +kernel
theorem jd_Row_setterAhead_29 : decode jm_m_Row_setterAhead.2.1 29 = .ok (.ireturn, 1) := by decide +kernel
theorem jd_Row_firstSetter_0 : decode jm_m_Row_firstSetter.2.1 0 = .ok (.aload_n 0, 1) := by decide +kernel
theorem jd_Row_firstSetter_1 : decode jm_m_Row_firstSetter.2.1 1 = .ok (.iload_n 1, 1) := by decide +kernel
theorem jd_Row_firstSetter_2 : decode jm_m_Row_firstSetter.2.1 2 = .ok (.aload_n 0, 1) := by decide +kernel
theorem jd_Row_firstSetter_3 : decode jm_m_Row_firstSetter.2.1 3 = .ok (.getfield 11, 3) := by decide +kernel
theorem jd_Row_firstSetter_6 : decode jm_m_Row_firstSetter.2.1 6 = .ok (.iconst 2, 1) := by decide +kernel
theorem jd_Row_firstSetter_7 : decode jm_m_Row_firstSetter.2.1 7 = .ok (.aaload, 1) := by decide +kernel
theorem jd_Row_firstSetter_8 : decode jm_m_Row_firstSetter.2.1 8 = .ok (.iload_n 1, 1) := by decide +kernel
theorem jd_Row_firstSetter_9 : decode jm_m_Row_firstSetter.2.1 9 = .ok (.iaload, 1) := by decide +kernel
theorem jd_Row_firstSetter_10 : decode jm_m_Row_firstSetter.2.1 10 = .ok (.invokevirtual 39, 3) := by decide +kernel
theorem jd_Row_firstSetter_13 : decode jm_m_Row_firstSetter.2.1 13 = .ok (.ireturn, 1) := by decide +kernel
theorem jd_Row_secondSetter_0 : decode jm_m_Row_secondSetter.2.1 0 = .ok (.aload_n 0, 1) := by decide +kernel
theorem jd_Row_secondSetter_1 : decode jm_m_Row_secondSetter.2.1 1 = .ok (.getfield 11, 3) := by decide +kernel
theorem jd_Row_secondSetter_4 : decode jm_m_Row_secondSetter.2.1 4 = .ok (.iconst 0, 1) := by decide +kernel
theorem jd_Row_secondSetter_5 : decode jm_m_Row_secondSetter.2.1 5 = .ok (.aaload, 1) := by decide +kernel
theorem jd_Row_secondSetter_6 : decode jm_m_Row_secondSetter.2.1 6 = .ok (.iload_n 1, 1) := by decide +kernel
theorem jd_Row_secondSetter_7 : decode jm_m_Row_secondSetter.2.1 7 = .ok (.iaload, 1) := by decide +kernel
theorem jd_Row_secondSetter_8 : decode jm_m_Row_secondSetter.2.1 8 = .ok (.invokestatic 32, 3) := by decide +kernel
theorem jd_Row_secondSetter_11 : decode jm_m_Row_secondSetter.2.1 11 = .ok (.ifCond .eq 19, 3) := by decide +kernel
theorem jd_Row_secondSetter_14 : decode jm_m_Row_secondSetter.2.1 14 = .ok (.aload_n 0, 1) := by decide +kernel
theorem jd_Row_secondSetter_15 : decode jm_m_Row_secondSetter.2.1 15 = .ok (.iload_n 1, 1) := by decide +kernel
theorem jd_Row_secondSetter_16 : decode jm_m_Row_secondSetter.2.1 16 = .ok (.aload_n 0, 1) := by decide +kernel
theorem jd_Row_secondSetter_17 : decode jm_m_Row_secondSetter.2.1 17 = .ok (.getfield 11, 3) := by decide +kernel
theorem jd_Row_secondSetter_20 : decode jm_m_Row_secondSetter.2.1 20 = .ok (.iconst 3, 1) := by decide +kernel
theorem jd_Row_secondSetter_21 : decode jm_m_Row_secondSetter.2.1 21 = .ok (.aaload, 1) := by decide +kernel
theorem jd_Row_secondSetter_22 : decode jm_m_Row_secondSetter.2.1 22 = .ok (.iload_n 1, 1) := by decide +kernel
theorem jd_Row_secondSetter_23 : decode jm_m_Row_secondSetter.2.1 23 = .ok (.iaload, 1) := by decide +kernel
theorem jd_Row_secondSetter_24 : decode jm_m_Row_secondSetter.2.1 24 = .ok (.invokevirtual 39, 3) := by decide +kernel
theorem jd_Row_secondSetter_27 : decode jm_m_Row_secondSetter.2.1 27 = .ok (.goto 4, 3) := by decide +kernel
theorem jd_Row_secondSetter_30 : decode jm_m_Row_secondSetter.2.1 30 = .ok (.iconst (-1), 1) := by decide +kernel
theorem jd_Row_secondSetter_31 : decode jm_m_Row_secondSetter.2.1 31 = .ok (.ireturn, 1) := by decide +kernel
theorem jd_Row_cycleOf_0 : decode jm_m_Row_cycleOf.2.1 0 = .ok (.aload_n 0, 1) := by decide +kernel
theorem jd_Row_cycleOf_1 : decode jm_m_Row_cycleOf.2.1 1 = .ok (.invokevirtual 43, 3) := by decide +kernel
theorem jd_Row_cycleOf_4 : decode jm_m_Row_cycleOf.2.1 4 = .ok (.aload_n 0, 1) := by decide +kernel
theorem jd_Row_cycleOf_5 : decode jm_m_Row_cycleOf.2.1 5 = .ok (.getfield 14, 3) := by decide +kernel
theorem jd_Row_cycleOf_8 : decode jm_m_Row_cycleOf.2.1 8 = .ok (.iload_n 1, 1) := by decide +kernel
theorem jd_Row_cycleOf_9 : decode jm_m_Row_cycleOf.2.1 9 = .ok (.iaload, 1) := by decide +kernel
theorem jd_Row_cycleOf_10 : decode jm_m_Row_cycleOf.2.1 10 = .ok (.ireturn, 1) := by decide +kernel
theorem jd_Row_endAsWritten_0 : decode jm_m_Row_endAsWritten.2.1 0 = .ok (.aload_n 0, 1) := by decide +kernel
theorem jd_Row_endAsWritten_1 : decode jm_m_Row_endAsWritten.2.1 1 = .ok (.invokevirtual 43, 3) := by decide +kernel
theorem jd_Row_endAsWritten_4 : decode jm_m_Row_endAsWritten.2.1 4 = .ok (.iconst 0, 1) := by decide +kernel
theorem jd_Row_endAsWritten_5 : decode jm_m_Row_endAsWritten.2.1 5 = .ok (.istore_n 1, 1) := by decide +kernel
theorem jd_Row_endAsWritten_6 : decode jm_m_Row_endAsWritten.2.1 6 = .ok (.iconst 0, 1) := by decide +kernel
theorem jd_Row_endAsWritten_7 : decode jm_m_Row_endAsWritten.2.1 7 = .ok (.istore_n 2, 1) := by decide +kernel
theorem jd_Row_endAsWritten_8 : decode jm_m_Row_endAsWritten.2.1 8 = .ok (.iload_n 2, 1) := by decide +kernel
theorem jd_Row_endAsWritten_9 : decode jm_m_Row_endAsWritten.2.1 9 = .ok (.aload_n 0, 1) := by decide +kernel
theorem jd_Row_endAsWritten_10 : decode jm_m_Row_endAsWritten.2.1 10 = .ok (.getfield 25, 3) := by decide +kernel
theorem jd_Row_endAsWritten_13 : decode jm_m_Row_endAsWritten.2.1 13 = .ok (.if_icmp .ge 29, 3) := by decide +kernel
theorem jd_Row_endAsWritten_16 : decode jm_m_Row_endAsWritten.2.1 16 = .ok (.iload_n 1, 1) := by decide +kernel
theorem jd_Row_endAsWritten_17 : decode jm_m_Row_endAsWritten.2.1 17 = .ok (.aload_n 0, 1) := by decide +kernel
theorem jd_Row_endAsWritten_18 : decode jm_m_Row_endAsWritten.2.1 18 = .ok (.getfield 14, 3) := by decide +kernel
theorem jd_Row_endAsWritten_21 : decode jm_m_Row_endAsWritten.2.1 21 = .ok (.iload_n 2, 1) := by decide +kernel
theorem jd_Row_endAsWritten_22 : decode jm_m_Row_endAsWritten.2.1 22 = .ok (.iaload, 1) := by decide +kernel
theorem jd_Row_endAsWritten_23 : decode jm_m_Row_endAsWritten.2.1 23 = .ok (.aload_n 0, 1) := by decide +kernel
theorem jd_Row_endAsWritten_24 : decode jm_m_Row_endAsWritten.2.1 24 = .ok (.getfield 11, 3) := by decide +kernel
theorem jd_Row_endAsWritten_27 : decode jm_m_Row_endAsWritten.2.1 27 = .ok (.iconst 4, 1) := by decide +kernel
theorem jd_Row_endAsWritten_28 : decode jm_m_Row_endAsWritten.2.1 28 = .ok (.aaload, 1) := by decide +kernel
theorem jd_Row_endAsWritten_29 : decode jm_m_Row_endAsWritten.2.1 29 = .ok (.iload_n 2, 1) := by decide +kernel
theorem jd_Row_endAsWritten_30 : decode jm_m_Row_endAsWritten.2.1 30 = .ok (.iaload, 1) := by decide +kernel
theorem jd_Row_endAsWritten_31 : decode jm_m_Row_endAsWritten.2.1 31 = .ok (.iadd, 1) := by decide +kernel
theorem jd_Row_endAsWritten_32 : decode jm_m_Row_endAsWritten.2.1 32 = .ok (.invokestatic 46, 3) := by decide +kernel
theorem jd_Row_endAsWritten_35 : decode jm_m_Row_endAsWritten.2.1 35 = .ok (.istore_n 1, 1) := by decide +kernel
theorem jd_Row_endAsWritten_36 : decode jm_m_Row_endAsWritten.2.1 36 = .ok (.iinc 2 1, 3) := by decide +kernel
theorem jd_Row_endAsWritten_39 : decode jm_m_Row_endAsWritten.2.1 39 = .ok (.goto (-31), 3) := by decide +kernel
theorem jd_Row_endAsWritten_42 : decode jm_m_Row_endAsWritten.2.1 42 = .ok (.iload_n 1, 1) := by decide +kernel
theorem jd_Row_endAsWritten_43 : decode jm_m_Row_endAsWritten.2.1 43 = .ok (.ireturn, 1) := by decide +kernel
theorem jd_Row_findCycles_0 : decode jm_m_Row_findCycles.2.1 0 = .ok (.iconst 0, 1) := by decide +kernel
theorem jd_Row_findCycles_1 : decode jm_m_Row_findCycles.2.1 1 = .ok (.istore_n 1, 1) := by decide +kernel
theorem jd_Row_findCycles_2 : decode jm_m_Row_findCycles.2.1 2 = .ok (.iconst 0, 1) := by decide +kernel
theorem jd_Row_findCycles_3 : decode jm_m_Row_findCycles.2.1 3 = .ok (.istore_n 2, 1) := by decide +kernel
theorem jd_Row_findCycles_4 : decode jm_m_Row_findCycles.2.1 4 = .ok (.iload_n 2, 1) := by decide +kernel
theorem jd_Row_findCycles_5 : decode jm_m_Row_findCycles.2.1 5 = .ok (.aload_n 0, 1) := by decide +kernel
theorem jd_Row_findCycles_6 : decode jm_m_Row_findCycles.2.1 6 = .ok (.getfield 25, 3) := by decide +kernel
theorem jd_Row_findCycles_9 : decode jm_m_Row_findCycles.2.1 9 = .ok (.if_icmp .ge 45, 3) := by decide +kernel
theorem jd_Row_findCycles_12 : decode jm_m_Row_findCycles.2.1 12 = .ok (.iload_n 1, 1) := by decide +kernel
theorem jd_Row_findCycles_13 : decode jm_m_Row_findCycles.2.1 13 = .ok (.aload_n 0, 1) := by decide +kernel
theorem jd_Row_findCycles_14 : decode jm_m_Row_findCycles.2.1 14 = .ok (.aload_n 0, 1) := by decide +kernel
theorem jd_Row_findCycles_15 : decode jm_m_Row_findCycles.2.1 15 = .ok (.iload_n 2, 1) := by decide +kernel
theorem jd_Row_findCycles_16 : decode jm_m_Row_findCycles.2.1 16 = .ok (.invokevirtual 51, 3) := by decide +kernel
theorem jd_Row_findCycles_19 : decode jm_m_Row_findCycles.2.1 19 = .ok (.invokevirtual 55, 3) := by decide +kernel
theorem jd_Row_findCycles_22 : decode jm_m_Row_findCycles.2.1 22 = .ok (.aload_n 0, 1) := by decide +kernel
