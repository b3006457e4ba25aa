theorem jd_Patterns_init_0 : decode jm_m_Patterns_init.2.1 0 = .ok (.aload_n 0, 1) := by decide +kernel
theorem jd_Patterns_init_1 : decode jm_m_Patterns_init.2.1 1 = .ok (.invokespecial 3, 3) := by decide +kernel
theorem jd_Patterns_init_4 : decode jm_m_Patterns_init.2.1 4 = .ok (.aload_n 0, 1) := by decide +kernel
theorem jd_Patterns_init_5 : decode jm_m_Patterns_init.2.1 5 = .ok (.bipush 16, 2) := by decide +kernel
theorem jd_Patterns_init_7 : decode jm_m_Patterns_init.2.1 7 = .ok (.newarray .int, 2) := by decide +kernel
theorem jd_Patterns_init_9 : decode jm_m_Patterns_init.2.1 9 = .ok (.putfield 11, 3) := by decide +kernel
theorem jd_Patterns_init_12 : decode jm_m_Patterns_init.2.1 12 = .ok (.aload_n 0, 1) := by decide +kernel
theorem jd_Patterns_init_13 : decode jm_m_Patterns_init.2.1 13 = .ok (.bipush 16, 2) := by decide +kernel
theorem jd_Patterns_init_15 : decode jm_m_Patterns_init.2.1 15 = .ok (.newarray .int, 2) := by decide +kernel
theorem jd_Patterns_init_17 : decode jm_m_Patterns_init.2.1 17 = .ok (.putfield 15, 3) := by decide +kernel
theorem jd_Patterns_init_20 : decode jm_m_Patterns_init.2.1 20 = .ok (.aload_n 0, 1) := by decide +kernel
theorem jd_Patterns_init_21 : decode jm_m_Patterns_init.2.1 21 = .ok (.bipush 16, 2) := by decide +kernel
theorem jd_Patterns_init_23 : decode jm_m_Patterns_init.2.1 23 = .ok (.newarray .int, 2) := by decide +kernel
theorem jd_Patterns_init_25 : decode jm_m_Patterns_init.2.1 25 = .ok (.putfield 18, 3) := by decide +kernel
theorem jd_Patterns_init_28 : decode jm_m_Patterns_init.2.1 28 = .ok (.aload_n 0, 1) := by decide +kernel
theorem jd_Patterns_init_29 : decode jm_m_Patterns_init.2.1 29 = .ok (.bipush 16, 2) := by decide +kernel
theorem jd_Patterns_init_31 : decode jm_m_Patterns_init.2.1 31 = .ok (.bipush 12, 2) := by decide +kernel
theorem jd_Patterns_init_33 : decode jm_m_Patterns_init.2.1 33 = .ok (.multianewarray 21 2, 4) := by decide +kernel
theorem jd_Patterns_init_37 : decode jm_m_Patterns_init.2.1 37 = .ok (.putfield 23, 3) := by decide +kernel
theorem jd_Patterns_init_40 : decode jm_m_Patterns_init.2.1 40 = .ok (.return_, 1) := by decide +kernel
theorem jd_Patterns_allows_0 : decode jm_m_Patterns_allows.2.1 0 = .ok (.aload_n 1, 1) := by decide +kernel
theorem jd_Patterns_allows_1 : decode jm_m_Patterns_allows.2.1 1 = .ok (.getfield 26, 3) := by decide +kernel
theorem jd_Patterns_allows_4 : decode jm_m_Patterns_allows.2.1 4 = .ok (.bipush 12, 2) := by decide +kernel
theorem jd_Patterns_allows_6 : decode jm_m_Patterns_allows.2.1 6 = .ok (.if_icmp .gt 12, 3) := by decide +kernel
theorem jd_Patterns_allows_9 : decode jm_m_Patterns_allows.2.1 9 = .ok (.aload_n 1, 1) := by decide +kernel
theorem jd_Patterns_allows_10 : decode jm_m_Patterns_allows.2.1 10 = .ok (.invokevirtual 32, 3) := by decide +kernel
theorem jd_Patterns_allows_13 : decode jm_m_Patterns_allows.2.1 13 = .ok (.bipush (-6), 2) := by decide +kernel
theorem jd_Patterns_allows_15 : decode jm_m_Patterns_allows.2.1 15 = .ok (.if_icmp .eq 5, 3) := by decide +kernel
theorem jd_Patterns_allows_18 : decode jm_m_Patterns_allows.2.1 18 = .ok (.iconst 0, 1) := by decide +kernel
theorem jd_Patterns_allows_19 : decode jm_m_Patterns_allows.2.1 19 = .ok (.ireturn, 1) := by decide +kernel
theorem jd_Patterns_allows_20 : decode jm_m_Patterns_allows.2.1 20 = .ok (.aload_n 1, 1) := by decide +kernel
theorem jd_Patterns_allows_21 : decode jm_m_Patterns_allows.2.1 21 = .ok (.getfield 26, 3) := by decide +kernel
theorem jd_Patterns_allows_24 : decode jm_m_Patterns_allows.2.1 24 = .ok (.iconst 1, 1) := by decide +kernel
theorem jd_Patterns_allows_25 : decode jm_m_Patterns_allows.2.1 25 = .ok (.if_icmp .ne 16, 3) := by decide +kernel
theorem jd_Patterns_allows_28 : decode jm_m_Patterns_allows.2.1 28 = .ok (.aload_n 1, 1) := by decide +kernel
theorem jd_Patterns_allows_29 : decode jm_m_Patterns_allows.2.1 29 = .ok (.getfield 36, 3) := by decide +kernel
theorem jd_Patterns_allows_32 : decode jm_m_Patterns_allows.2.1 32 = .ok (.iconst 0, 1) := by decide +kernel
theorem jd_Patterns_allows_33 : decode jm_m_Patterns_allows.2.1 33 = .ok (.iaload, 1) := by decide +kernel
theorem jd_Patterns_allows_34 : decode jm_m_Patterns_allows.2.1 34 = .ok (.invokestatic 39, 3) := by decide +kernel
theorem jd_Patterns_allows_37 : decode jm_m_Patterns_allows.2.1 37 = .ok (.iload_n 2, 1) := by decide +kernel
theorem jd_Patterns_allows_38 : decode jm_m_Patterns_allows.2.1 38 = .ok (.if_icmp .eq 7, 3) := by decide +kernel
theorem jd_Patterns_allows_41 : decode jm_m_Patterns_allows.2.1 41 = .ok (.iconst 1, 1) := by decide +kernel
theorem jd_Patterns_allows_42 : decode jm_m_Patterns_allows.2.1 42 = .ok (.goto 4, 3) := by decide +kernel
theorem jd_Patterns_allows_45 : decode jm_m_Patterns_allows.2.1 45 = .ok (.iconst 0, 1) := by decide +kernel
theorem jd_Patterns_allows_46 : decode jm_m_Patterns_allows.2.1 46 = .ok (.ireturn, 1) := by decide +kernel
theorem jd_Patterns_take_0 : decode jm_m_Patterns_take.2.1 0 = .ok (.aload_n 0, 1) := by decide +kernel
theorem jd_Patterns_take_1 : decode jm_m_Patterns_take.2.1 1 = .ok (.getfield 43, 3) := by decide +kernel
theorem jd_Patterns_take_4 : decode jm_m_Patterns_take.2.1 4 = .ok (.bipush 16, 2) := by decide +kernel
theorem jd_Patterns_take_6 : decode jm_m_Patterns_take.2.1 6 = .ok (.if_icmp .lt 4, 3) := by decide +kernel
theorem jd_Patterns_take_9 : decode jm_m_Patterns_take.2.1 9 = .ok (.return_, 1) := by decide +kernel
theorem jd_Patterns_take_10 : decode jm_m_Patterns_take.2.1 10 = .ok (.aload_n 0, 1) := by decide +kernel
theorem jd_Patterns_take_11 : decode jm_m_Patterns_take.2.1 11 = .ok (.getfield 11, 3) := by decide +kernel
theorem jd_Patterns_take_14 : decode jm_m_Patterns_take.2.1 14 = .ok (.aload_n 0, 1) := by decide +kernel
theorem jd_Patterns_take_15 : decode jm_m_Patterns_take.2.1 15 = .ok (.getfield 43, 3) := by decide +kernel
theorem jd_Patterns_take_18 : decode jm_m_Patterns_take.2.1 18 = .ok (.iload_n 2, 1) := by decide +kernel
theorem jd_Patterns_take_19 : decode jm_m_Patterns_take.2.1 19 = .ok (.iastore, 1) := by decide +kernel
theorem jd_Patterns_take_20 : decode jm_m_Patterns_take.2.1 20 = .ok (.aload_n 0, 1) := by decide +kernel
theorem jd_Patterns_take_21 : decode jm_m_Patterns_take.2.1 21 = .ok (.getfield 15, 3) := by decide +kernel
theorem jd_Patterns_take_24 : decode jm_m_Patterns_take.2.1 24 = .ok (.aload_n 0, 1) := by decide +kernel
theorem jd_Patterns_take_25 : decode jm_m_Patterns_take.2.1 25 = .ok (.getfield 43, 3) := by decide +kernel
theorem jd_Patterns_take_28 : decode jm_m_Patterns_take.2.1 28 = .ok (.iload_n 3, 1) := by decide +kernel
theorem jd_Patterns_take_29 : decode jm_m_Patterns_take.2.1 29 = .ok (.iastore, 1) := by decide +kernel
theorem jd_Patterns_take_30 : decode jm_m_Patterns_take.2.1 30 = .ok (.aload_n 0, 1) := by decide +kernel
theorem jd_Patterns_take_31 : decode jm_m_Patterns_take.2.1 31 = .ok (.getfield 18, 3) := by decide +kernel
theorem jd_Patterns_take_34 : decode jm_m_Patterns_take.2.1 34 = .ok (.aload_n 0, 1) := by decide +kernel
theorem jd_Patterns_take_35 : decode jm_m_Patterns_take.2.1 35 = .ok (.getfield 43, 3) := by decide +kernel
theorem jd_Patterns_take_38 : decode jm_m_Patterns_take.2.1 38 = .ok (.aload_n 1, 1) := by decide +kernel
theorem jd_Patterns_take_39 : decode jm_m_Patterns_take.2.1 39 = .ok (.getfield 26, 3) := by decide +kernel
theorem jd_Patterns_take_42 : decode jm_m_Patterns_take.2.1 42 = .ok (.bipush 12, 2) := by decide +kernel
theorem jd_Patterns_take_44 : decode jm_m_Patterns_take.2.1 44 = .ok (.invokestatic 44, 3) := by decide +kernel
theorem jd_Patterns_take_47 : decode jm_m_Patterns_take.2.1 47 = .ok (.iastore, 1) := by decide +kernel
theorem jd_Patterns_take_48 : decode jm_m_Patterns_take.2.1 48 = .ok (.iconst 0, 1) := by decide +kernel
theorem jd_Patterns_take_49 : decode jm_m_Patterns_take.2.1 49 = .ok (.istore 4, 2) := by decide +kernel
theorem jd_Patterns_take_51 : decode jm_m_Patterns_take.2.1 51 = .ok (.iload 4, 2) := by decide +kernel
theorem jd_Patterns_take_53 : decode jm_m_Patterns_take.2.1 53 = .ok (.aload_n 0, 1) := by decide +kernel
theorem jd_Patterns_take_54 : decode jm_m_Patterns_take.2.1 54 = .ok (.getfield 18, 3) := by decide +kernel
theorem jd_Patterns_take_57 : decode jm_m_Patterns_take.2.1 57 = .ok (.aload_n 0, 1) := by decide +kernel
theorem jd_Patterns_take_58 : decode jm_m_Patterns_take.2.1 58 = .ok (.getfield 43, 3) := by decide +kernel
theorem jd_Patterns_take_61 : decode jm_m_Patterns_take.2.1 61 = .ok (.iaload, 1) := by decide +kernel
theorem jd_Patterns_take_62 : decode jm_m_Patterns_take.2.1 62 = .ok (.if_icmp .ge 28, 3) := by decide +kernel
theorem jd_Patterns_take_65 : decode jm_m_Patterns_take.2.1 65 = .ok (.aload_n 0, 1) := by decide +kernel
theorem jd_Patterns_take_66 : decode jm_m_Patterns_take.2.1 66 = .ok (.getfield 23, 3) := by decide +kernel
theorem jd_Patterns_take_69 : decode jm_m_Patterns_take.2.1 69 = .ok (.aload_n 0, 1) := by decide +kernel
theorem jd_Patterns_take_70 : decode jm_m_Patterns_take.2.1 70 = .ok (.getfield 43, 3) := by decide +kernel
theorem jd_Patterns_take_73 : decode jm_m_Patterns_take.2.1 73 = .ok (.aaload, 1) := by decide +kernel
theorem jd_Patterns_take_74 : decode jm_m_Patterns_take.2.1 74 = .ok (.iload 4, 2) := by decide +kernel
theorem jd_Patterns_take_76 : decode jm_m_Patterns_take.2.1 76 = .ok (.aload_n 1, 1) := by decide +kernel
theorem jd_Patterns_take_77 : decode jm_m_Patterns_take.2.1 77 = .ok (.getfield 36, 3) := by decide +kernel
theorem jd_Patterns_take_80 : decode jm_m_Patterns_take.2.1 80 = .ok (.iload 4, 2) := by decide +kernel
theorem jd_Patterns_take_82 : decode jm_m_Patterns_take.2.1 82 = .ok (.iaload, 1) := by decide +kernel
theorem jd_Patterns_take_83 : decode jm_m_Patterns_take.2.1 83 = .ok (.iastore, 1) := by decide +kernel
theorem jd_Patterns_take_84 : decode jm_m_Patterns_take.2.1 84 = .ok (.iinc 4 1, 3) := by decide +kernel
theorem jd_Patterns_take_87 : decode jm_m_Patterns_take.2.1 87 = .ok (.goto (-36), 3) := by decide +kernel
theorem jd_Patterns_take_90 : decode jm_m_Patterns_take.2.1 90 = .ok (.aload_n 0, 1) := by decide +kernel
theorem jd_Patterns_take_91 : decode jm_m_Patterns_take.2.1 91 = .ok (.dup, 1) := by decide +kernel
theorem jd_Patterns_take_92 : decode jm_m_Patterns_take.2.1 92 = .ok (.getfield 43, 3) := by decide +kernel
theorem jd_Patterns_take_95 : decode jm_m_Patterns_take.2.1 95 = .ok (.iconst 1, 1) := by decide +kernel
theorem jd_Patterns_take_96 : decode jm_m_Patterns_take.2.1 96 = .ok (.iadd, 1) := by decide +kernel
theorem jd_Patterns_take_97 : decode jm_m_Patterns_take.2.1 97 = .ok (.putfield 43, 3) := by decide +kernel
theorem jd_Patterns_take_100 : decode jm_m_Patterns_take.2.1 100 = .ok (.return_, 1) := by decide +kernel
theorem jd_Patterns_chainFrom_0 : decode jm_m_Patterns_chainFrom.2.1 0 = .ok (.aload_n 0, 1) := by decide +kernel
theorem jd_Patterns_chainFrom_1 : decode jm_m_Patterns_chainFrom.2.1 1 = .ok (.getfield 18, 3) := by decide +kernel
theorem jd_Patterns_chainFrom_4 : decode jm_m_Patterns_chainFrom.2.1 4 = .ok (.iload_n 1, 1) := by decide +kernel
theorem jd_Patterns_chainFrom_5 : decode jm_m_Patterns_chainFrom.2.1 5 = .ok (.iaload, 1) := by decide +kernel
theorem jd_Patterns_chainFrom_6 : decode jm_m_Patterns_chainFrom.2.1 6 = .ok (.iconst 1, 1) := by decide +kernel
theorem jd_Patterns_chainFrom_7 : decode jm_m_Patterns_chainFrom.2.1 7 = .ok (.if_icmp .ne 17, 3) := by decide +kernel
theorem jd_Patterns_chainFrom_10 : decode jm_m_Patterns_chainFrom.2.1 10 = .ok (.aload_n 0, 1) := by decide +kernel
theorem jd_Patterns_chainFrom_11 : decode jm_m_Patterns_chainFrom.2.1 11 = .ok (.getfield 23, 3) := by decide +kernel
theorem jd_Patterns_chainFrom_14 : decode jm_m_Patterns_chainFrom.2.1 14 = .ok (.iload_n 1, 1) := by decide +kernel
theorem jd_Patterns_chainFrom_15 : decode jm_m_Patterns_chainFrom.2.1 15 = .ok (.aaload, 1) := by decide +kernel
theorem jd_Patterns_chainFrom_16 : decode jm_m_Patterns_chainFrom.2.1 16 = .ok (.iconst 0, 1) := by decide +kernel
theorem jd_Patterns_chainFrom_17 : decode jm_m_Patterns_chainFrom.2.1 17 = .ok (.iaload, 1) := by decide +kernel
theorem jd_Patterns_chainFrom_18 : decode jm_m_Patterns_chainFrom.2.1 18 = .ok (.invokestatic 39, 3) := by decide +kernel
theorem jd_Patterns_chainFrom_21 : decode jm_m_Patterns_chainFrom.2.1 21 = .ok (.goto 4, 3) := by decide +kernel
theorem jd_Patterns_chainFrom_24 : decode jm_m_Patterns_chainFrom.2.1 24 = .ok (.iconst (-1), 1) := by decide +kernel
theorem jd_Patterns_chainFrom_25 : decode jm_m_Patterns_chainFrom.2.1 25 = .ok (.ireturn, 1) := by decide +kernel
theorem jd_Patterns_headOf_0 : decode jm_m_Patterns_headOf.2.1 0 = .ok (.iload_n 0, 1) := by decide +kernel
theorem jd_Patterns_headOf_1 : decode jm_m_Patterns_headOf.2.1 1 = .ok (.bipush 82, 2) := by decide +kernel
theorem jd_Patterns_headOf_3 : decode jm_m_Patterns_headOf.2.1 3 = .ok (.if_icmp .ne 5, 3) := by decide +kernel
theorem jd_Patterns_headOf_6 : decode jm_m_Patterns_headOf.2.1 6 = .ok (.iconst 0, 1) := by decide +kernel
theorem jd_Patterns_headOf_7 : decode jm_m_Patterns_headOf.2.1 7 = .ok (.ireturn, 1) := by decide +kernel
theorem jd_Patterns_headOf_8 : decode jm_m_Patterns_headOf.2.1 8 = .ok (.iload_n 0, 1) := by decide +kernel
theorem jd_Patterns_headOf_9 : decode jm_m_Patterns_headOf.2.1 9 = .ok (.bipush 65, 2) := by decide +kernel
theorem jd_Patterns_headOf_11 : decode jm_m_Patterns_headOf.2.1 11 = .ok (.if_icmp .ne 7, 3) := by decide +kernel
theorem jd_Patterns_headOf_14 : decode jm_m_Patterns_headOf.2.1 14 = .ok (.iconst 1, 1) := by decide +kernel
theorem jd_Patterns_headOf_15 : decode jm_m_Patterns_headOf.2.1 15 = .ok (.goto 4, 3) := by decide +kernel
theorem jd_Patterns_headOf_18 : decode jm_m_Patterns_headOf.2.1 18 = .ok (.iconst (-1), 1) := by decide +kernel
theorem jd_Patterns_headOf_19 : decode jm_m_Patterns_headOf.2.1 19 = .ok (.ireturn, 1) := by decide +kernel
theorem jd_Patterns_fits_0 : decode jm_m_Patterns_fits.2.1 0 = .ok (.iload_n 0, 1) := by decide +kernel
theorem jd_Patterns_fits_1 : decode jm_m_Patterns_fits.2.1 1 = .ok (.lookupswitch 37 #[(75, 27), (86, 32)], 27) := by decide +kernel
theorem jd_Patterns_fits_28 : decode jm_m_Patterns_fits.2.1 28 = .ok (.iload_n 1, 1) := by decide +kernel
theorem jd_Patterns_fits_29 : decode jm_m_Patterns_fits.2.1 29 = .ok (.invokestatic 50, 3) := by decide +kernel
theorem jd_Patterns_fits_32 : decode jm_m_Patterns_fits.2.1 32 = .ok (.ireturn, 1) := by decide +kernel
theorem jd_Patterns_fits_33 : decode jm_m_Patterns_fits.2.1 33 = .ok (.iload_n 1, 1) := by decide +kernel
theorem jd_Patterns_fits_34 : decode jm_m_Patterns_fits.2.1 34 = .ok (.invokestatic 54, 3) := by decide +kernel
theorem jd_Patterns_fits_37 : decode jm_m_Patterns_fits.2.1 37 = .ok (.ireturn, 1) := by decide +kernel
theorem jd_Patterns_fits_38 : decode jm_m_Patterns_fits.2.1 38 = .ok (.iload_n 0, 1) := by decide +kernel
theorem jd_Patterns_fits_39 : decode jm_m_Patterns_fits.2.1 39 = .ok (.iload_n 1, 1) := by decide +kernel
theorem jd_Patterns_fits_40 : decode jm_m_Patterns_fits.2.1 40 = .ok (.if_icmp .ne 7, 3) := by decide +kernel
theorem jd_Patterns_fits_43 : decode jm_m_Patterns_fits.2.1 43 = .ok (.iconst 1, 1) := by decide +kernel
theorem jd_Patterns_fits_44 : decode jm_m_Patterns_fits.2.1 44 = .ok (.goto 4, 3) := by decide +kernel
theorem jd_Patterns_fits_47 : decode jm_m_Patterns_fits.2.1 47 = .ok (.iconst 0, 1) := by decide +kernel
theorem jd_Patterns_fits_48 : decode jm_m_Patterns_fits.2.1 48 = .ok (.ireturn, 1) := by decide +kernel
