theorem jd_Integer_bitCount_15 : decode jm_m_Integer_bitCount.2.1 15 = .ok (.iload_n 0, 1) := by decide +kernel
theorem jd_Integer_bitCount_16 : decode jm_m_Integer_bitCount.2.1 16 = .ok (.iconst 2, 1) := by decide +kernel
theorem jd_Integer_bitCount_17 : decode jm_m_Integer_bitCount.2.1 17 = .ok (.iushr, 1) := by decide +kernel
theorem jd_Integer_bitCount_18 : decode jm_m_Integer_bitCount.2.1 18 = .ok (.ldc_w 266, 3) := by decide +kernel
theorem jd_Integer_bitCount_21 : decode jm_m_Integer_bitCount.2.1 21 = .ok (.iand, 1) := by decide +kernel
theorem jd_Integer_bitCount_22 : decode jm_m_Integer_bitCount.2.1 22 = .ok (.iadd, 1) := by decide +kernel
theorem jd_Integer_bitCount_23 : decode jm_m_Integer_bitCount.2.1 23 = .ok (.istore_n 0, 1) := by decide +kernel
theorem jd_Integer_bitCount_24 : decode jm_m_Integer_bitCount.2.1 24 = .ok (.iload_n 0, 1) := by decide +kernel
theorem jd_Integer_bitCount_25 : decode jm_m_Integer_bitCount.2.1 25 = .ok (.iload_n 0, 1) := by decide +kernel
theorem jd_Integer_bitCount_26 : decode jm_m_Integer_bitCount.2.1 26 = .ok (.iconst 4, 1) := by decide +kernel
theorem jd_Integer_bitCount_27 : decode jm_m_Integer_bitCount.2.1 27 = .ok (.iushr, 1) := by decide +kernel
theorem jd_Integer_bitCount_28 : decode jm_m_Integer_bitCount.2.1 28 = .ok (.iadd, 1) := by decide +kernel
theorem jd_Integer_bitCount_29 : decode jm_m_Integer_bitCount.2.1 29 = .ok (.ldc_w 267, 3) := by decide +kernel
theorem jd_Integer_bitCount_32 : decode jm_m_Integer_bitCount.2.1 32 = .ok (.iand, 1) := by decide +kernel
theorem jd_Integer_bitCount_33 : decode jm_m_Integer_bitCount.2.1 33 = .ok (.istore_n 0, 1) := by decide +kernel
theorem jd_Integer_bitCount_34 : decode jm_m_Integer_bitCount.2.1 34 = .ok (.iload_n 0, 1) := by decide +kernel
theorem jd_Integer_bitCount_35 : decode jm_m_Integer_bitCount.2.1 35 = .ok (.iload_n 0, 1) := by decide +kernel
theorem jd_Integer_bitCount_36 : decode jm_m_Integer_bitCount.2.1 36 = .ok (.bipush 8, 2) := by decide +kernel
theorem jd_Integer_bitCount_38 : decode jm_m_Integer_bitCount.2.1 38 = .ok (.iushr, 1) := by decide +kernel
theorem jd_Integer_bitCount_39 : decode jm_m_Integer_bitCount.2.1 39 = .ok (.iadd, 1) := by decide +kernel
theorem jd_Integer_bitCount_40 : decode jm_m_Integer_bitCount.2.1 40 = .ok (.istore_n 0, 1) := by decide +kernel
theorem jd_Integer_bitCount_41 : decode jm_m_Integer_bitCount.2.1 41 = .ok (.iload_n 0, 1) := by decide +kernel
theorem jd_Integer_bitCount_42 : decode jm_m_Integer_bitCount.2.1 42 = .ok (.iload_n 0, 1) := by decide +kernel
theorem jd_Integer_bitCount_43 : decode jm_m_Integer_bitCount.2.1 43 = .ok (.bipush 16, 2) := by decide +kernel
theorem jd_Integer_bitCount_45 : decode jm_m_Integer_bitCount.2.1 45 = .ok (.iushr, 1) := by decide +kernel
theorem jd_Integer_bitCount_46 : decode jm_m_Integer_bitCount.2.1 46 = .ok (.iadd, 1) := by decide +kernel
theorem jd_Integer_bitCount_47 : decode jm_m_Integer_bitCount.2.1 47 = .ok (.istore_n 0, 1) := by decide +kernel
theorem jd_Integer_bitCount_48 : decode jm_m_Integer_bitCount.2.1 48 = .ok (.iload_n 0, 1) := by decide +kernel
theorem jd_Integer_bitCount_49 : decode jm_m_Integer_bitCount.2.1 49 = .ok (.bipush 63, 2) := by decide +kernel
theorem jd_Integer_bitCount_51 : decode jm_m_Integer_bitCount.2.1 51 = .ok (.iand, 1) := by decide +kernel
theorem jd_Integer_bitCount_52 : decode jm_m_Integer_bitCount.2.1 52 = .ok (.ireturn, 1) := by decide +kernel
