theorem jd_Order_endAtLeast_42 : decode jm_m_Order_endAtLeast.2.1 42 = .ok (.iaload, 1) := by decide +kernel
theorem jd_Order_endAtLeast_43 : decode jm_m_Order_endAtLeast.2.1 43 = .ok (.aload_n 0, 1) := by decide +kernel
theorem jd_Order_endAtLeast_44 : decode jm_m_Order_endAtLeast.2.1 44 = .ok (.getfield 34, 3) := by decide +kernel
theorem jd_Order_endAtLeast_47 : decode jm_m_Order_endAtLeast.2.1 47 = .ok (.getfield 73, 3) := by decide +kernel
theorem jd_Order_endAtLeast_50 : decode jm_m_Order_endAtLeast.2.1 50 = .ok (.iconst 4, 1) := by decide +kernel
theorem jd_Order_endAtLeast_51 : decode jm_m_Order_endAtLeast.2.1 51 = .ok (.aaload, 1) := by decide +kernel
theorem jd_Order_endAtLeast_52 : decode jm_m_Order_endAtLeast.2.1 52 = .ok (.iload 6, 2) := by decide +kernel
theorem jd_Order_endAtLeast_54 : decode jm_m_Order_endAtLeast.2.1 54 = .ok (.iaload, 1) := by decide +kernel
theorem jd_Order_endAtLeast_55 : decode jm_m_Order_endAtLeast.2.1 55 = .ok (.iadd, 1) := by decide +kernel
theorem jd_Order_endAtLeast_56 : decode jm_m_Order_endAtLeast.2.1 56 = .ok (.invokestatic 77, 3) := by decide +kernel
theorem jd_Order_endAtLeast_59 : decode jm_m_Order_endAtLeast.2.1 59 = .ok (.istore_n 3, 1) := by decide +kernel
theorem jd_Order_endAtLeast_60 : decode jm_m_Order_endAtLeast.2.1 60 = .ok (.goto 31, 3) := by decide +kernel
theorem jd_Order_endAtLeast_63 : decode jm_m_Order_endAtLeast.2.1 63 = .ok (.iinc 4 1, 3) := by decide +kernel
theorem jd_Order_endAtLeast_66 : decode jm_m_Order_endAtLeast.2.1 66 = .ok (.iload_n 3, 1) := by decide +kernel
theorem jd_Order_endAtLeast_67 : decode jm_m_Order_endAtLeast.2.1 67 = .ok (.iload 4, 2) := by decide +kernel
theorem jd_Order_endAtLeast_69 : decode jm_m_Order_endAtLeast.2.1 69 = .ok (.aload_n 0, 1) := by decide +kernel
theorem jd_Order_endAtLeast_70 : decode jm_m_Order_endAtLeast.2.1 70 = .ok (.iload 6, 2) := by decide +kernel
theorem jd_Order_endAtLeast_72 : decode jm_m_Order_endAtLeast.2.1 72 = .ok (.iload_n 1, 1) := by decide +kernel
theorem jd_Order_endAtLeast_73 : decode jm_m_Order_endAtLeast.2.1 73 = .ok (.invokevirtual 92, 3) := by decide +kernel
theorem jd_Order_endAtLeast_76 : decode jm_m_Order_endAtLeast.2.1 76 = .ok (.invokestatic 77, 3) := by decide +kernel
theorem jd_Order_endAtLeast_79 : decode jm_m_Order_endAtLeast.2.1 79 = .ok (.aload_n 0, 1) := by decide +kernel
theorem jd_Order_endAtLeast_80 : decode jm_m_Order_endAtLeast.2.1 80 = .ok (.getfield 19, 3) := by decide +kernel
theorem jd_Order_endAtLeast_83 : decode jm_m_Order_endAtLeast.2.1 83 = .ok (.iload 6, 2) := by decide +kernel
theorem jd_Order_endAtLeast_85 : decode jm_m_Order_endAtLeast.2.1 85 = .ok (.iaload, 1) := by decide +kernel
theorem jd_Order_endAtLeast_86 : decode jm_m_Order_endAtLeast.2.1 86 = .ok (.iadd, 1) := by decide +kernel
theorem jd_Order_endAtLeast_87 : decode jm_m_Order_endAtLeast.2.1 87 = .ok (.invokestatic 77, 3) := by decide +kernel
theorem jd_Order_endAtLeast_90 : decode jm_m_Order_endAtLeast.2.1 90 = .ok (.istore_n 3, 1) := by decide +kernel
theorem jd_Order_endAtLeast_91 : decode jm_m_Order_endAtLeast.2.1 91 = .ok (.iinc 5 1, 3) := by decide +kernel
theorem jd_Order_endAtLeast_94 : decode jm_m_Order_endAtLeast.2.1 94 = .ok (.goto (-86), 3) := by decide +kernel
theorem jd_Order_endAtLeast_97 : decode jm_m_Order_endAtLeast.2.1 97 = .ok (.iload_n 3, 1) := by decide +kernel
theorem jd_Order_endAtLeast_98 : decode jm_m_Order_endAtLeast.2.1 98 = .ok (.ireturn, 1) := by decide +kernel
