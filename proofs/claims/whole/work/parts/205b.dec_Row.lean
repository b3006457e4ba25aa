theorem jd_Row_findCycles_23 : decode jm_m_Row_findCycles.2.1 23 = .ok (.aload_n 0, 1) := by decide +kernel
theorem jd_Row_findCycles_24 : decode jm_m_Row_findCycles.2.1 24 = .ok (.iload_n 2, 1) := by decide +kernel
theorem jd_Row_findCycles_25 : decode jm_m_Row_findCycles.2.1 25 = .ok (.invokevirtual 58, 3) := by decide +kernel
theorem jd_Row_findCycles_28 : decode jm_m_Row_findCycles.2.1 28 = .ok (.invokevirtual 55, 3) := by decide +kernel
theorem jd_Row_findCycles_31 : decode jm_m_Row_findCycles.2.1 31 = .ok (.invokestatic 46, 3) := by decide +kernel
theorem jd_Row_findCycles_34 : decode jm_m_Row_findCycles.2.1 34 = .ok (.invokestatic 46, 3) := by decide +kernel
theorem jd_Row_findCycles_37 : decode jm_m_Row_findCycles.2.1 37 = .ok (.istore_n 1, 1) := by decide +kernel
theorem jd_Row_findCycles_38 : decode jm_m_Row_findCycles.2.1 38 = .ok (.aload_n 0, 1) := by decide +kernel
theorem jd_Row_findCycles_39 : decode jm_m_Row_findCycles.2.1 39 = .ok (.getfield 14, 3) := by decide +kernel
theorem jd_Row_findCycles_42 : decode jm_m_Row_findCycles.2.1 42 = .ok (.iload_n 2, 1) := by decide +kernel
theorem jd_Row_findCycles_43 : decode jm_m_Row_findCycles.2.1 43 = .ok (.iload_n 1, 1) := by decide +kernel
theorem jd_Row_findCycles_44 : decode jm_m_Row_findCycles.2.1 44 = .ok (.iastore, 1) := by decide +kernel
theorem jd_Row_findCycles_45 : decode jm_m_Row_findCycles.2.1 45 = .ok (.iinc 1 1, 3) := by decide +kernel
theorem jd_Row_findCycles_48 : decode jm_m_Row_findCycles.2.1 48 = .ok (.iinc 2 1, 3) := by decide +kernel
theorem jd_Row_findCycles_51 : decode jm_m_Row_findCycles.2.1 51 = .ok (.goto (-47), 3) := by decide +kernel
theorem jd_Row_findCycles_54 : decode jm_m_Row_findCycles.2.1 54 = .ok (.return_, 1) := by decide +kernel
theorem jd_Row_readyAt_0 : decode jm_m_Row_readyAt.2.1 0 = .ok (.iload_n 1, 1) := by decide +kernel
theorem jd_Row_readyAt_1 : decode jm_m_Row_readyAt.2.1 1 = .ok (.ifCond .ge 7, 3) := by decide +kernel
theorem jd_Row_readyAt_4 : decode jm_m_Row_readyAt.2.1 4 = .ok (.iconst 0, 1) := by decide +kernel
theorem jd_Row_readyAt_5 : decode jm_m_Row_readyAt.2.1 5 = .ok (.goto 18, 3) := by decide +kernel
theorem jd_Row_readyAt_8 : decode jm_m_Row_readyAt.2.1 8 = .ok (.aload_n 0, 1) := by decide +kernel
theorem jd_Row_readyAt_9 : decode jm_m_Row_readyAt.2.1 9 = .ok (.getfield 14, 3) := by decide +kernel
theorem jd_Row_readyAt_12 : decode jm_m_Row_readyAt.2.1 12 = .ok (.iload_n 1, 1) := by decide +kernel
theorem jd_Row_readyAt_13 : decode jm_m_Row_readyAt.2.1 13 = .ok (.iaload, 1) := by decide +kernel
theorem jd_Row_readyAt_14 : decode jm_m_Row_readyAt.2.1 14 = .ok (.aload_n 0, 1) := by decide +kernel
theorem jd_Row_readyAt_15 : decode jm_m_Row_readyAt.2.1 15 = .ok (.getfield 11, 3) := by decide +kernel
theorem jd_Row_readyAt_18 : decode jm_m_Row_readyAt.2.1 18 = .ok (.iconst 4, 1) := by decide +kernel
theorem jd_Row_readyAt_19 : decode jm_m_Row_readyAt.2.1 19 = .ok (.aaload, 1) := by decide +kernel
theorem jd_Row_readyAt_20 : decode jm_m_Row_readyAt.2.1 20 = .ok (.iload_n 1, 1) := by decide +kernel
theorem jd_Row_readyAt_21 : decode jm_m_Row_readyAt.2.1 21 = .ok (.iaload, 1) := by decide +kernel
theorem jd_Row_readyAt_22 : decode jm_m_Row_readyAt.2.1 22 = .ok (.iadd, 1) := by decide +kernel
theorem jd_Row_readyAt_23 : decode jm_m_Row_readyAt.2.1 23 = .ok (.ireturn, 1) := by decide +kernel
