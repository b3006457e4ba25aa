theorem jd_Covering_tellPlain_91 : decode jm_m_Covering_tellPlain.2.1 91 = .ok (.iload 5, 2) := by decide +kernel
theorem jd_Covering_tellPlain_93 : decode jm_m_Covering_tellPlain.2.1 93 = .ok (.aload_n 0, 1) := by decide +kernel
theorem jd_Covering_tellPlain_94 : decode jm_m_Covering_tellPlain.2.1 94 = .ok (.getfield 30, 3) := by decide +kernel
theorem jd_Covering_tellPlain_97 : decode jm_m_Covering_tellPlain.2.1 97 = .ok (.getfield 96, 3) := by decide +kernel
theorem jd_Covering_tellPlain_100 : decode jm_m_Covering_tellPlain.2.1 100 = .ok (.iload 5, 2) := by decide +kernel
theorem jd_Covering_tellPlain_102 : decode jm_m_Covering_tellPlain.2.1 102 = .ok (.iaload, 1) := by decide +kernel
theorem jd_Covering_tellPlain_103 : decode jm_m_Covering_tellPlain.2.1 103 = .ok (.iadd, 1) := by decide +kernel
theorem jd_Covering_tellPlain_104 : decode jm_m_Covering_tellPlain.2.1 104 = .ok (.istore 5, 2) := by decide +kernel
theorem jd_Covering_tellPlain_106 : decode jm_m_Covering_tellPlain.2.1 106 = .ok (.goto 6, 3) := by decide +kernel
theorem jd_Covering_tellPlain_109 : decode jm_m_Covering_tellPlain.2.1 109 = .ok (.iinc 5 1, 3) := by decide +kernel
theorem jd_Covering_tellPlain_112 : decode jm_m_Covering_tellPlain.2.1 112 = .ok (.iinc 6 1, 3) := by decide +kernel
theorem jd_Covering_tellPlain_115 : decode jm_m_Covering_tellPlain.2.1 115 = .ok (.goto (-85), 3) := by decide +kernel
theorem jd_Covering_tellPlain_118 : decode jm_m_Covering_tellPlain.2.1 118 = .ok (.aload_n 0, 1) := by decide +kernel
theorem jd_Covering_tellPlain_119 : decode jm_m_Covering_tellPlain.2.1 119 = .ok (.iload 4, 2) := by decide +kernel
theorem jd_Covering_tellPlain_121 : decode jm_m_Covering_tellPlain.2.1 121 = .ok (.iload_n 1, 1) := by decide +kernel
theorem jd_Covering_tellPlain_122 : decode jm_m_Covering_tellPlain.2.1 122 = .ok (.invokevirtual 109, 3) := by decide +kernel
theorem jd_Covering_tellPlain_125 : decode jm_m_Covering_tellPlain.2.1 125 = .ok (.return_, 1) := by decide +kernel
theorem jd_Covering_tellOne_0 : decode jm_m_Covering_tellOne.2.1 0 = .ok (.aload_n 0, 1) := by decide +kernel
theorem jd_Covering_tellOne_1 : decode jm_m_Covering_tellOne.2.1 1 = .ok (.getfield 53, 3) := by decide +kernel
theorem jd_Covering_tellOne_4 : decode jm_m_Covering_tellOne.2.1 4 = .ok (.bipush 60, 2) := by decide +kernel
theorem jd_Covering_tellOne_6 : decode jm_m_Covering_tellOne.2.1 6 = .ok (.if_icmp .ge 33, 3) := by decide +kernel
theorem jd_Covering_tellOne_9 : decode jm_m_Covering_tellOne.2.1 9 = .ok (.aload_n 0, 1) := by decide +kernel
theorem jd_Covering_tellOne_10 : decode jm_m_Covering_tellOne.2.1 10 = .ok (.getfield 24, 3) := by decide +kernel
theorem jd_Covering_tellOne_13 : decode jm_m_Covering_tellOne.2.1 13 = .ok (.aload_n 0, 1) := by decide +kernel
theorem jd_Covering_tellOne_14 : decode jm_m_Covering_tellOne.2.1 14 = .ok (.getfield 53, 3) := by decide +kernel
theorem jd_Covering_tellOne_17 : decode jm_m_Covering_tellOne.2.1 17 = .ok (.iload_n 1, 1) := by decide +kernel
theorem jd_Covering_tellOne_18 : decode jm_m_Covering_tellOne.2.1 18 = .ok (.iastore, 1) := by decide +kernel
theorem jd_Covering_tellOne_19 : decode jm_m_Covering_tellOne.2.1 19 = .ok (.aload_n 0, 1) := by decide +kernel
theorem jd_Covering_tellOne_20 : decode jm_m_Covering_tellOne.2.1 20 = .ok (.getfield 27, 3) := by decide +kernel
theorem jd_Covering_tellOne_23 : decode jm_m_Covering_tellOne.2.1 23 = .ok (.aload_n 0, 1) := by decide +kernel
theorem jd_Covering_tellOne_24 : decode jm_m_Covering_tellOne.2.1 24 = .ok (.getfield 53, 3) := by decide +kernel
theorem jd_Covering_tellOne_27 : decode jm_m_Covering_tellOne.2.1 27 = .ok (.iload_n 2, 1) := by decide +kernel
theorem jd_Covering_tellOne_28 : decode jm_m_Covering_tellOne.2.1 28 = .ok (.iastore, 1) := by decide +kernel
theorem jd_Covering_tellOne_29 : decode jm_m_Covering_tellOne.2.1 29 = .ok (.aload_n 0, 1) := by decide +kernel
theorem jd_Covering_tellOne_30 : decode jm_m_Covering_tellOne.2.1 30 = .ok (.dup, 1) := by decide +kernel
theorem jd_Covering_tellOne_31 : decode jm_m_Covering_tellOne.2.1 31 = .ok (.getfield 53, 3) := by decide +kernel
theorem jd_Covering_tellOne_34 : decode jm_m_Covering_tellOne.2.1 34 = .ok (.iconst 1, 1) := by decide +kernel
theorem jd_Covering_tellOne_35 : decode jm_m_Covering_tellOne.2.1 35 = .ok (.iadd, 1) := by decide +kernel
theorem jd_Covering_tellOne_36 : decode jm_m_Covering_tellOne.2.1 36 = .ok (.putfield 53, 3) := by decide +kernel
theorem jd_Covering_tellOne_39 : decode jm_m_Covering_tellOne.2.1 39 = .ok (.return_, 1) := by decide +kernel
