set_option maxRecDepth 4000 in
theorem jb_Mod_lay {E : jm_Env} {x1 x2 : Int} {h : jm_H} {K : jm_H → Prop} (H : (0 ≤ jm_w32 (6 * x1) ∧ jm_w32 (6 * x1) < 72) ∧ ((0 ≤ x2 ∧ x2 < 12) ∧ ((0 ≤ jm_w32 ((jm_w32 (6 * x1)) + 1) ∧ jm_w32 ((jm_w32 (6 * x1)) + 1) < 72) ∧ ((0 ≤ x2 ∧ x2 < 12) ∧ ((0 ≤ jm_w32 ((jm_w32 (6 * x1)) + 2) ∧ jm_w32 ((jm_w32 (6 * x1)) + 2) < 72) ∧ ((0 ≤ x2 ∧ x2 < 12) ∧ ((0 ≤ jm_w32 ((jm_w32 (6 * x1)) + 3) ∧ jm_w32 ((jm_w32 (6 * x1)) + 3) < 72) ∧ ((0 ≤ x2 ∧ x2 < 12) ∧ ((0 ≤ jm_w32 ((jm_w32 (6 * x1)) + 4) ∧ jm_w32 ((jm_w32 (6 * x1)) + 4) < 72) ∧ ((0 ≤ x2 ∧ x2 < 12) ∧ ((0 ≤ jm_w32 ((jm_w32 (6 * x1)) + 5) ∧ jm_w32 ((jm_w32 (6 * x1)) + 5) < 72) ∧ ((0 ≤ x2 ∧ x2 < 12) ∧ (K (jm_up (jm_up (jm_up (jm_up (jm_up (jm_up h 99 (Int.toNat x2) (h 109 (Int.toNat (jm_w32 (6 * x1))))) 100 (Int.toNat x2) (h 109 (Int.toNat (jm_w32 ((jm_w32 (6 * x1)) + 1))))) 101 (Int.toNat x2) (h 109 (Int.toNat (jm_w32 ((jm_w32 (6 * x1)) + 2))))) 102 (Int.toNat x2) (h 109 (Int.toNat (jm_w32 ((jm_w32 (6 * x1)) + 3))))) 103 (Int.toNat x2) (h 109 (Int.toNat (jm_w32 ((jm_w32 (6 * x1)) + 4))))) 104 (Int.toNat x2) (h 109 (Int.toNat (jm_w32 ((jm_w32 (6 * x1)) + 5)))))))))))))))))) : jm_CV E jm_SH jm_m_Mod_lay 0 [jm_R 78, jm_I x1, jm_I x2] h K := by
  refine jm_body (ls0 := [some (jm_R 78), some (jm_I x1), some (jm_I x2)]) (by decide +kernel) rfl rfl (Nat.le_of_ble_eq_true rfl) ?_
  refine jm_aload_n jd_Mod_lay_0 rfl rfl ?_
  refine jm_gR jd_Mod_lay_1 jf_Mod_70 jm_SH_78 rfl ?_
  refine jm_iload_n jd_Mod_lay_4 rfl rfl ?_
  refine jm_aload_n jd_Mod_lay_5 rfl rfl ?_
  refine jm_gR jd_Mod_lay_6 jf_Mod_100 jm_SH_78 rfl ?_
  refine jm_bipush jd_Mod_lay_9 jb_6 ?_
  refine jm_iload_n jd_Mod_lay_11 rfl rfl ?_
  refine jm_imul jd_Mod_lay_12 ?_
  obtain ⟨hb1, H⟩ := H
  refine jm_iaload jd_Mod_lay_13 jm_SH_109 hb1 ?_
  obtain ⟨hb2, H⟩ := H
  refine jm_iastore jd_Mod_lay_14 jm_SH_99 hb2 ?_
  refine jm_aload_n jd_Mod_lay_15 rfl rfl ?_
  refine jm_gR jd_Mod_lay_16 jf_Mod_73 jm_SH_78 rfl ?_
  refine jm_iload_n jd_Mod_lay_19 rfl rfl ?_
  refine jm_aload_n jd_Mod_lay_20 rfl rfl ?_
  refine jm_gR jd_Mod_lay_21 jf_Mod_100 jm_SH_78 rfl ?_
  refine jm_bipush jd_Mod_lay_24 jb_6 ?_
  refine jm_iload_n jd_Mod_lay_26 rfl rfl ?_
  refine jm_imul jd_Mod_lay_27 ?_
  refine jm_iconst jd_Mod_lay_28 (jm_o32c rfl) ?_
  refine jm_iadd jd_Mod_lay_29 ?_
  obtain ⟨hb3, H⟩ := H
  refine jm_iaload jd_Mod_lay_30 jm_SH_109 hb3 ?_
  refine jm_topI (y := h 109 (Int.toNat (jm_w32 ((jm_w32 (6 * x1)) + 1)))) rfl ?_
  obtain ⟨hb4, H⟩ := H
  refine jm_iastore jd_Mod_lay_31 jm_SH_100 hb4 ?_
  refine jm_aload_n jd_Mod_lay_32 rfl rfl ?_
  refine jm_gR jd_Mod_lay_33 jf_Mod_76 jm_SH_78 rfl ?_
  refine jm_iload_n jd_Mod_lay_36 rfl rfl ?_
  refine jm_aload_n jd_Mod_lay_37 rfl rfl ?_
  refine jm_gR jd_Mod_lay_38 jf_Mod_100 jm_SH_78 rfl ?_
  refine jm_bipush jd_Mod_lay_41 jb_6 ?_
  refine jm_iload_n jd_Mod_lay_43 rfl rfl ?_
  refine jm_imul jd_Mod_lay_44 ?_
  refine jm_iconst jd_Mod_lay_45 (jm_o32c rfl) ?_
  refine jm_iadd jd_Mod_lay_46 ?_
  obtain ⟨hb5, H⟩ := H
  refine jm_iaload jd_Mod_lay_47 jm_SH_109 hb5 ?_
  refine jm_topI (y := h 109 (Int.toNat (jm_w32 ((jm_w32 (6 * x1)) + 2)))) rfl ?_
  obtain ⟨hb6, H⟩ := H
  refine jm_iastore jd_Mod_lay_48 jm_SH_101 hb6 ?_
  refine jm_aload_n jd_Mod_lay_49 rfl rfl ?_
  refine jm_gR jd_Mod_lay_50 jf_Mod_79 jm_SH_78 rfl ?_
  refine jm_iload_n jd_Mod_lay_53 rfl rfl ?_
  refine jm_aload_n jd_Mod_lay_54 rfl rfl ?_
  refine jm_gR jd_Mod_lay_55 jf_Mod_100 jm_SH_78 rfl ?_
  refine jm_bipush jd_Mod_lay_58 jb_6 ?_
  refine jm_iload_n jd_Mod_lay_60 rfl rfl ?_
  refine jm_imul jd_Mod_lay_61 ?_
  refine jm_iconst jd_Mod_lay_62 (jm_o32c rfl) ?_
  refine jm_iadd jd_Mod_lay_63 ?_
  obtain ⟨hb7, H⟩ := H
  refine jm_iaload jd_Mod_lay_64 jm_SH_109 hb7 ?_
  refine jm_topI (y := h 109 (Int.toNat (jm_w32 ((jm_w32 (6 * x1)) + 3)))) rfl ?_
  obtain ⟨hb8, H⟩ := H
  refine jm_iastore jd_Mod_lay_65 jm_SH_102 hb8 ?_
  refine jm_aload_n jd_Mod_lay_66 rfl rfl ?_
  refine jm_gR jd_Mod_lay_67 jf_Mod_82 jm_SH_78 rfl ?_
  refine jm_iload_n jd_Mod_lay_70 rfl rfl ?_
  refine jm_aload_n jd_Mod_lay_71 rfl rfl ?_
  refine jm_gR jd_Mod_lay_72 jf_Mod_100 jm_SH_78 rfl ?_
  refine jm_bipush jd_Mod_lay_75 jb_6 ?_
  refine jm_iload_n jd_Mod_lay_77 rfl rfl ?_
  refine jm_imul jd_Mod_lay_78 ?_
  refine jm_iconst jd_Mod_lay_79 (jm_o32c rfl) ?_
  refine jm_iadd jd_Mod_lay_80 ?_
  obtain ⟨hb9, H⟩ := H
  refine jm_iaload jd_Mod_lay_81 jm_SH_109 hb9 ?_
  refine jm_topI (y := h 109 (Int.toNat (jm_w32 ((jm_w32 (6 * x1)) + 4)))) rfl ?_
  obtain ⟨hb10, H⟩ := H
  refine jm_iastore jd_Mod_lay_82 jm_SH_103 hb10 ?_
  refine jm_aload_n jd_Mod_lay_83 rfl rfl ?_
  refine jm_gR jd_Mod_lay_84 jf_Mod_85 jm_SH_78 rfl ?_
  refine jm_iload_n jd_Mod_lay_87 rfl rfl ?_
  refine jm_aload_n jd_Mod_lay_88 rfl rfl ?_
  refine jm_gR jd_Mod_lay_89 jf_Mod_100 jm_SH_78 rfl ?_
  refine jm_bipush jd_Mod_lay_92 jb_6 ?_
  refine jm_iload_n jd_Mod_lay_94 rfl rfl ?_
  refine jm_imul jd_Mod_lay_95 ?_
  refine jm_iconst jd_Mod_lay_96 (jm_o32c rfl) ?_
  refine jm_iadd jd_Mod_lay_97 ?_
  obtain ⟨hb11, H⟩ := H
  refine jm_iaload jd_Mod_lay_98 jm_SH_109 hb11 ?_
  refine jm_topI (y := h 109 (Int.toNat (jm_w32 ((jm_w32 (6 * x1)) + 5)))) rfl ?_
  obtain ⟨hb12, H⟩ := H
  refine jm_iastore jd_Mod_lay_99 jm_SH_104 hb12 ?_
  exact jm_vreturn jd_Mod_lay_100 rfl (by decide) ⟨rfl, rfl, H⟩
set_option maxRecDepth 4000 in
theorem jb_Mod_keepAside {E : jm_Env} {h : jm_H} {K : jm_H → Prop} (H : jm_BV E jm_SH jm_m_Mod_keepAside 0 2 [some (jm_R 78), some (jm_I 0)] [] h K) : jm_CV E jm_SH jm_m_Mod_keepAside 0 [jm_R 78] h K := by
  refine jm_body (ls0 := [some (jm_R 78), none]) (by decide +kernel) rfl rfl (Nat.le_of_ble_eq_true rfl) ?_
  refine jm_iconst jd_Mod_keepAside_0 (jm_o32c rfl) ?_
  refine jm_istore_n (i := 1) jd_Mod_keepAside_1 rfl (by decide) (ls2 := [some (jm_R 78), some (jm_I 0)]) rfl ?_
  exact H
set_option maxRecDepth 4000 in
theorem jb_Mod_keepAside_2 {E : jm_Env} {x1 : Int} {h : jm_H} {K : jm_H → Prop} (H : ((h 78 32 ≤ x1) → K h) ∧ ((¬ h 78 32 ≤ x1) → (0 ≤ x1 ∧ x1 < 12) ∧ ((0 ≤ jm_w32 (6 * x1) ∧ jm_w32 (6 * x1) < 72) ∧ ((0 ≤ x1 ∧ x1 < 12) ∧ ((0 ≤ jm_w32 ((jm_w32 (6 * x1)) + 1) ∧ jm_w32 ((jm_w32 (6 * x1)) + 1) < 72) ∧ ((0 ≤ x1 ∧ x1 < 12) ∧ ((0 ≤ jm_w32 ((jm_w32 (6 * x1)) + 2) ∧ jm_w32 ((jm_w32 (6 * x1)) + 2) < 72) ∧ ((0 ≤ x1 ∧ x1 < 12) ∧ ((0 ≤ jm_w32 ((jm_w32 (6 * x1)) + 3) ∧ jm_w32 ((jm_w32 (6 * x1)) + 3) < 72) ∧ ((0 ≤ x1 ∧ x1 < 12) ∧ ((0 ≤ jm_w32 ((jm_w32 (6 * x1)) + 4) ∧ jm_w32 ((jm_w32 (6 * x1)) + 4) < 72) ∧ ((0 ≤ x1 ∧ x1 < 12) ∧ ((0 ≤ jm_w32 ((jm_w32 (6 * x1)) + 5) ∧ jm_w32 ((jm_w32 (6 * x1)) + 5) < 72) ∧ (jm_BV E jm_SH jm_m_Mod_keepAside 0 2 [some (jm_R 78), some (jm_I (jm_w32 (x1 + 1)))] [] (jm_up (jm_up (jm_up (jm_up (jm_up (jm_up h 109 (Int.toNat (jm_w32 (6 * x1))) (h 99 (Int.toNat x1))) 109 (Int.toNat (jm_w32 ((jm_w32 (6 * x1)) + 1))) (h 100 (Int.toNat x1))) 109 (Int.toNat (jm_w32 ((jm_w32 (6 * x1)) + 2))) (h 101 (Int.toNat x1))) 109 (Int.toNat (jm_w32 ((jm_w32 (6 * x1)) + 3))) (h 102 (Int.toNat x1))) 109 (Int.toNat (jm_w32 ((jm_w32 (6 * x1)) + 4))) (h 103 (Int.toNat x1))) 109 (Int.toNat (jm_w32 ((jm_w32 (6 * x1)) + 5))) (h 104 (Int.toNat x1))) K)))))))))))))) : jm_BV E jm_SH jm_m_Mod_keepAside 0 2 [some (jm_R 78), some (jm_I x1)] [] h K := by
  refine jm_iload_n jd_Mod_keepAside_2 rfl rfl ?_
  refine jm_aload_n jd_Mod_keepAside_3 rfl rfl ?_
  refine jm_gI jd_Mod_keepAside_4 jf_Mod_231 jm_SH_78 ?_
  refine jm_icmp_ge (tgt := 116) jd_Mod_keepAside_7 rfl (fun hc1 => ?_) (fun hc1 => ?_)
  · replace H := H.1 hc1
    exact jm_vreturn jd_Mod_keepAside_116 rfl (by decide) ⟨rfl, rfl, H⟩
  · replace H := H.2 hc1
    refine jm_aload_n jd_Mod_keepAside_10 rfl rfl ?_
    refine jm_gR jd_Mod_keepAside_11 jf_Mod_100 jm_SH_78 rfl ?_
    refine jm_bipush jd_Mod_keepAside_14 jb_6 ?_
    refine jm_iload_n jd_Mod_keepAside_16 rfl rfl ?_
    refine jm_imul jd_Mod_keepAside_17 ?_
    refine jm_aload_n jd_Mod_keepAside_18 rfl rfl ?_
    refine jm_gR jd_Mod_keepAside_19 jf_Mod_70 jm_SH_78 rfl ?_
    refine jm_iload_n jd_Mod_keepAside_22 rfl rfl ?_
    obtain ⟨hb2, H⟩ := H
    refine jm_iaload jd_Mod_keepAside_23 jm_SH_99 hb2 ?_
    obtain ⟨hb3, H⟩ := H
    refine jm_iastore jd_Mod_keepAside_24 jm_SH_109 hb3 ?_
    refine jm_aload_n jd_Mod_keepAside_25 rfl rfl ?_
    refine jm_gR jd_Mod_keepAside_26 jf_Mod_100 jm_SH_78 rfl ?_
    refine jm_bipush jd_Mod_keepAside_29 jb_6 ?_
    refine jm_iload_n jd_Mod_keepAside_31 rfl rfl ?_
    refine jm_imul jd_Mod_keepAside_32 ?_
    refine jm_iconst jd_Mod_keepAside_33 (jm_o32c rfl) ?_
    refine jm_iadd jd_Mod_keepAside_34 ?_
    refine jm_aload_n jd_Mod_keepAside_35 rfl rfl ?_
    refine jm_gR jd_Mod_keepAside_36 jf_Mod_73 jm_SH_78 rfl ?_
    refine jm_iload_n jd_Mod_keepAside_39 rfl rfl ?_
    obtain ⟨hb4, H⟩ := H
    refine jm_iaload jd_Mod_keepAside_40 jm_SH_100 hb4 ?_
    refine jm_topI (y := h 100 (Int.toNat x1)) rfl ?_
    obtain ⟨hb5, H⟩ := H
    refine jm_iastore jd_Mod_keepAside_41 jm_SH_109 hb5 ?_
    refine jm_aload_n jd_Mod_keepAside_42 rfl rfl ?_
    refine jm_gR jd_Mod_keepAside_43 jf_Mod_100 jm_SH_78 rfl ?_
    refine jm_bipush jd_Mod_keepAside_46 jb_6 ?_
    refine jm_iload_n jd_Mod_keepAside_48 rfl rfl ?_
    refine jm_imul jd_Mod_keepAside_49 ?_
    refine jm_iconst jd_Mod_keepAside_50 (jm_o32c rfl) ?_
    refine jm_iadd jd_Mod_keepAside_51 ?_
    refine jm_aload_n jd_Mod_keepAside_52 rfl rfl ?_
    refine jm_gR jd_Mod_keepAside_53 jf_Mod_76 jm_SH_78 rfl ?_
    refine jm_iload_n jd_Mod_keepAside_56 rfl rfl ?_
    obtain ⟨hb6, H⟩ := H
    refine jm_iaload jd_Mod_keepAside_57 jm_SH_101 hb6 ?_
    refine jm_topI (y := h 101 (Int.toNat x1)) rfl ?_
    obtain ⟨hb7, H⟩ := H
    refine jm_iastore jd_Mod_keepAside_58 jm_SH_109 hb7 ?_
    refine jm_aload_n jd_Mod_keepAside_59 rfl rfl ?_
    refine jm_gR jd_Mod_keepAside_60 jf_Mod_100 jm_SH_78 rfl ?_
    refine jm_bipush jd_Mod_keepAside_63 jb_6 ?_
    refine jm_iload_n jd_Mod_keepAside_65 rfl rfl ?_
    refine jm_imul jd_Mod_keepAside_66 ?_
    refine jm_iconst jd_Mod_keepAside_67 (jm_o32c rfl) ?_
    refine jm_iadd jd_Mod_keepAside_68 ?_
    refine jm_aload_n jd_Mod_keepAside_69 rfl rfl ?_
    refine jm_gR jd_Mod_keepAside_70 jf_Mod_79 jm_SH_78 rfl ?_
    refine jm_iload_n jd_Mod_keepAside_73 rfl rfl ?_
    obtain ⟨hb8, H⟩ := H
    refine jm_iaload jd_Mod_keepAside_74 jm_SH_102 hb8 ?_
    refine jm_topI (y := h 102 (Int.toNat x1)) rfl ?_
    obtain ⟨hb9, H⟩ := H
    refine jm_iastore jd_Mod_keepAside_75 jm_SH_109 hb9 ?_
    refine jm_aload_n jd_Mod_keepAside_76 rfl rfl ?_
    refine jm_gR jd_Mod_keepAside_77 jf_Mod_100 jm_SH_78 rfl ?_
    refine jm_bipush jd_Mod_keepAside_80 jb_6 ?_
    refine jm_iload_n jd_Mod_keepAside_82 rfl rfl ?_
    refine jm_imul jd_Mod_keepAside_83 ?_
    refine jm_iconst jd_Mod_keepAside_84 (jm_o32c rfl) ?_
    refine jm_iadd jd_Mod_keepAside_85 ?_
    refine jm_aload_n jd_Mod_keepAside_86 rfl rfl ?_
    refine jm_gR jd_Mod_keepAside_87 jf_Mod_82 jm_SH_78 rfl ?_
    refine jm_iload_n jd_Mod_keepAside_90 rfl rfl ?_
    obtain ⟨hb10, H⟩ := H
    refine jm_iaload jd_Mod_keepAside_91 jm_SH_103 hb10 ?_
    refine jm_topI (y := h 103 (Int.toNat x1)) rfl ?_
    obtain ⟨hb11, H⟩ := H
    refine jm_iastore jd_Mod_keepAside_92 jm_SH_109 hb11 ?_
    refine jm_aload_n jd_Mod_keepAside_93 rfl rfl ?_
    refine jm_gR jd_Mod_keepAside_94 jf_Mod_100 jm_SH_78 rfl ?_
    refine jm_bipush jd_Mod_keepAside_97 jb_6 ?_
    refine jm_iload_n jd_Mod_keepAside_99 rfl rfl ?_
    refine jm_imul jd_Mod_keepAside_100 ?_
    refine jm_iconst jd_Mod_keepAside_101 (jm_o32c rfl) ?_
    refine jm_iadd jd_Mod_keepAside_102 ?_
    refine jm_aload_n jd_Mod_keepAside_103 rfl rfl ?_
    refine jm_gR jd_Mod_keepAside_104 jf_Mod_85 jm_SH_78 rfl ?_
    refine jm_iload_n jd_Mod_keepAside_107 rfl rfl ?_
    obtain ⟨hb12, H⟩ := H
    refine jm_iaload jd_Mod_keepAside_108 jm_SH_104 hb12 ?_
    refine jm_topI (y := h 104 (Int.toNat x1)) rfl ?_
    obtain ⟨hb13, H⟩ := H
    refine jm_iastore jd_Mod_keepAside_109 jm_SH_109 hb13 ?_
    refine jm_iinc jd_Mod_keepAside_110 rfl (by decide) (ls2 := [some (jm_R 78), some (jm_I (jm_w32 (x1 + 1)))]) rfl ?_
    refine jm_goto (tgt := 2) jd_Mod_keepAside_113 rfl ?_
    exact H
set_option maxRecDepth 4000 in
theorem jb_Mod_sort {E : jm_Env} {h : jm_H} {K : Int → jm_H → Prop} (H : ((h 78 32 ≤ 10) → jm_CV E jm_SH jm_m_Mod_findBest 3 [jm_R 78] h (fun h2 => jm_CV E jm_SH jm_m_Mod_keepAside 0 [jm_R 78] h2 (fun h3 => jm_BI E jm_SH jm_m_Mod_sort 4 22 [some (jm_R 78), some (jm_I 0)] [] h3 K))) ∧ ((¬ h 78 32 ≤ 10) → K (-3) h)) : jm_CI E jm_SH jm_m_Mod_sort 4 [jm_R 78] h K := by
  refine jm_body (ls0 := [some (jm_R 78), none]) (by decide +kernel) rfl rfl (Nat.le_of_ble_eq_true rfl) ?_
  refine jm_aload_n jd_Mod_sort_0 rfl rfl ?_
  refine jm_gI jd_Mod_sort_1 jf_Mod_231 jm_SH_78 ?_
  refine jm_bipush jd_Mod_sort_4 jb_10 ?_
  refine jm_icmp_le (tgt := 12) jd_Mod_sort_6 rfl (fun hc1 => ?_) (fun hc1 => ?_)
  · replace H := H.1 hc1
    refine jm_aload_n jd_Mod_sort_12 rfl rfl ?_
    refine jm_cV (M' := jm_m_Mod_findBest) (d' := 3) (av := []) jd_Mod_sort_13 jk_Mod_findBest jw_1144 rfl (by omega) ⟨rfl, rfl⟩ (by decide) (Nat.le_of_ble_eq_true rfl) jm_SH_78 rfl rfl (jm_hqV (fun h2 H => ?_)) H
    refine jm_aload_n jd_Mod_sort_16 rfl rfl ?_
    refine jm_cV (M' := jm_m_Mod_keepAside) (d' := 0) (av := []) jd_Mod_sort_17 jk_Mod_keepAside jw_1160 rfl (by omega) ⟨rfl, rfl⟩ (by decide) (Nat.le_of_ble_eq_true rfl) jm_SH_78 rfl rfl (jm_hqV (fun h3 H => ?_)) H
    refine jm_iconst jd_Mod_sort_20 (jm_o32c rfl) ?_
    refine jm_istore_n (i := 1) jd_Mod_sort_21 rfl (by decide) (ls2 := [some (jm_R 78), some (jm_I 0)]) rfl ?_
    exact H
  · replace H := H.2 hc1
    refine jm_bipush jd_Mod_sort_9 jb_m3 ?_
    exact jm_ireturn jd_Mod_sort_11 rfl (by decide) ⟨rfl, _, rfl, H⟩
set_option maxRecDepth 4000 in
theorem jb_Mod_sort_22 {E : jm_Env} {x1 : Int} {h : jm_H} {K : Int → jm_H → Prop} (H : ((h 78 32 ≤ x1) → K (h 78 36) h) ∧ ((¬ h 78 32 ≤ x1) → (0 ≤ x1 ∧ x1 < 12) ∧ (jm_CV E jm_SH jm_m_Mod_lay 0 [jm_R 78, jm_I (h 107 (Int.toNat x1)), jm_I x1] h (fun h3 => jm_BI E jm_SH jm_m_Mod_sort 4 22 [some (jm_R 78), some (jm_I (jm_w32 (x1 + 1)))] [] h3 K)))) : jm_BI E jm_SH jm_m_Mod_sort 4 22 [some (jm_R 78), some (jm_I x1)] [] h K := by
  refine jm_iload_n jd_Mod_sort_22 rfl rfl ?_
  refine jm_aload_n jd_Mod_sort_23 rfl rfl ?_
  refine jm_gI jd_Mod_sort_24 jf_Mod_231 jm_SH_78 ?_
  refine jm_icmp_ge (tgt := 47) jd_Mod_sort_27 rfl (fun hc1 => ?_) (fun hc1 => ?_)
  · replace H := H.1 hc1
    refine jm_aload_n jd_Mod_sort_47 rfl rfl ?_
    refine jm_gI jd_Mod_sort_48 jf_Mod_251 jm_SH_78 ?_
    exact jm_ireturn jd_Mod_sort_51 rfl (by decide) ⟨rfl, _, rfl, H⟩
  · replace H := H.2 hc1
    refine jm_aload_n jd_Mod_sort_30 rfl rfl ?_
    refine jm_aload_n jd_Mod_sort_31 rfl rfl ?_
    refine jm_gR jd_Mod_sort_32 jf_Mod_94 jm_SH_78 rfl ?_
    refine jm_iload_n jd_Mod_sort_35 rfl rfl ?_
    obtain ⟨hb2, H⟩ := H
    refine jm_iaload jd_Mod_sort_36 jm_SH_107 hb2 ?_
    refine jm_iload_n jd_Mod_sort_37 rfl rfl ?_
    refine jm_cV (M' := jm_m_Mod_lay) (d' := 0) (av := [jm_I (h 107 (Int.toNat x1)), jm_I x1]) jd_Mod_sort_38 jk_Mod_lay jw_1164 rfl (by omega) ⟨rfl, rfl⟩ (by decide) (Nat.le_of_ble_eq_true rfl) jm_SH_78 rfl rfl (jm_hqV (fun h3 H => ?_)) H
    refine jm_iinc jd_Mod_sort_41 rfl (by decide) (ls2 := [some (jm_R 78), some (jm_I (jm_w32 (x1 + 1)))]) rfl ?_
    refine jm_goto (tgt := 22) jd_Mod_sort_44 rfl ?_
    exact H
set_option maxRecDepth 4000 in
theorem jb_Mod_keep {E : jm_Env} {x1 : Int} {h : jm_H} {K : Int → jm_H → Prop} (H : jm_CI E jm_SH jm_m_Mod_in 0 [jm_L x1, jm_L 0, jm_L 63] h (fun v1 h1 => ((¬ v1 = 0) → K (h1 78 39) (jm_up h1 78 39 x1)) ∧ ((v1 = 0) → K (-2) h1))) : jm_CI E jm_SH jm_m_Mod_keep 1 [jm_R 78, jm_I x1] h K := by
  refine jm_body (ls0 := [some (jm_R 78), some (jm_I x1), none]) (by decide +kernel) rfl rfl (Nat.le_of_ble_eq_true rfl) ?_
  refine jm_iload_n jd_Mod_keep_0 rfl rfl ?_
  refine jm_i2l jd_Mod_keep_1 ?_
  refine jm_lconst (x := 0) jd_Mod_keep_2 ⟨by decide, jm_o64c rfl⟩ ?_
  refine jm_ldc2 (x := 63) jd_Mod_keep_3 jc_1172 (jm_o64c rfl) ?_
  refine jm_cS (M' := jm_m_Mod_in) (d' := 0) (av := [jm_L x1, jm_L 0, jm_L 63]) jd_Mod_keep_6 jk_Mod_in jw_978 rfl (by omega) ⟨rfl, rfl⟩ (by decide) (Nat.le_of_ble_eq_true rfl) (jm_hqI (fun v1 h1 H => ?_)) H
  refine jm_if_ne (tgt := 15) jd_Mod_keep_9 rfl (fun hc2 => ?_) (fun hc2 => ?_)
  · replace H := H.1 hc2
    refine jm_aload_n jd_Mod_keep_15 rfl rfl ?_
    refine jm_gI jd_Mod_keep_16 jf_Mod_118 jm_SH_78 ?_
    refine jm_istore_n (i := 2) jd_Mod_keep_19 rfl (by decide) (ls2 := [some (jm_R 78), some (jm_I x1), some (jm_I (h1 78 39))]) rfl ?_
    refine jm_aload_n jd_Mod_keep_20 rfl rfl ?_
    refine jm_iload_n jd_Mod_keep_21 rfl rfl ?_
    refine jm_sI jd_Mod_keep_22 jp_Mod_118 jm_SH_78 ?_
    refine jm_iload_n jd_Mod_keep_25 rfl rfl ?_
    exact jm_ireturn jd_Mod_keep_26 rfl (by decide) ⟨rfl, _, rfl, H⟩
  · replace H := H.2 hc2
    refine jm_bipush jd_Mod_keep_12 jb_m2 ?_
    exact jm_ireturn jd_Mod_keep_14 rfl (by decide) ⟨rfl, _, rfl, H⟩
set_option maxRecDepth 4000 in
theorem jb_Mod_weigh {E : jm_Env} {x1 x2 : Int} {h : jm_H} {K : Int → jm_H → Prop} (H : jm_CI E jm_SH jm_m_Mod_isInstruction 1 [jm_R 78, jm_I x1] h (fun v1 h1 => ((¬ v1 = 0) → jm_CI E jm_SH jm_m_Mod_in 0 [jm_L x2, jm_L 1, jm_L 100] h1 (fun v3 h3 => ((¬ v3 = 0) → (0 ≤ x1 ∧ x1 < 12) ∧ ((0 ≤ x1 ∧ x1 < 12) ∧ (K (h3 104 (Int.toNat x1)) (jm_up h3 104 (Int.toNat x1) x2)))) ∧ ((v3 = 0) → K (-2) h3))) ∧ ((v1 = 0) → K (-1) h1))) : jm_CI E jm_SH jm_m_Mod_weigh 2 [jm_R 78, jm_I x1, jm_I x2] h K := by
  refine jm_body (ls0 := [some (jm_R 78), some (jm_I x1), some (jm_I x2), none]) (by decide +kernel) rfl rfl (Nat.le_of_ble_eq_true rfl) ?_
  refine jm_aload_n jd_Mod_weigh_0 rfl rfl ?_
  refine jm_iload_n jd_Mod_weigh_1 rfl rfl ?_
  refine jm_cV (M' := jm_m_Mod_isInstruction) (d' := 1) (av := [jm_I x1]) jd_Mod_weigh_2 jk_Mod_isInstruction jw_1112 rfl (by omega) ⟨rfl, rfl⟩ (by decide) (Nat.le_of_ble_eq_true rfl) jm_SH_78 rfl rfl (jm_hqI (fun v1 h1 H => ?_)) H
  refine jm_if_ne (tgt := 10) jd_Mod_weigh_5 rfl (fun hc2 => ?_) (fun hc2 => ?_)
  · replace H := H.1 hc2
    refine jm_iload_n jd_Mod_weigh_10 rfl rfl ?_
    refine jm_i2l jd_Mod_weigh_11 ?_
    refine jm_lconst (x := 1) jd_Mod_weigh_12 ⟨by decide, jm_o64c rfl⟩ ?_
    refine jm_ldc2 (x := 100) jd_Mod_weigh_13 jc_1177 (jm_o64c rfl) ?_
    refine jm_cS (M' := jm_m_Mod_in) (d' := 0) (av := [jm_L x2, jm_L 1, jm_L 100]) jd_Mod_weigh_16 jk_Mod_in jw_978 rfl (by omega) ⟨rfl, rfl⟩ (by decide) (Nat.le_of_ble_eq_true rfl) (jm_hqI (fun v3 h3 H => ?_)) H
    refine jm_if_ne (tgt := 25) jd_Mod_weigh_19 rfl (fun hc4 => ?_) (fun hc4 => ?_)
    · replace H := H.1 hc4
      refine jm_aload_n jd_Mod_weigh_25 rfl rfl ?_
      refine jm_gR jd_Mod_weigh_26 jf_Mod_85 jm_SH_78 rfl ?_
      refine jm_iload_n jd_Mod_weigh_29 rfl rfl ?_
      obtain ⟨hb5, H⟩ := H
      refine jm_iaload jd_Mod_weigh_30 jm_SH_104 hb5 ?_
      refine jm_istore_n (i := 3) jd_Mod_weigh_31 rfl (by decide) (ls2 := [some (jm_R 78), some (jm_I x1), some (jm_I x2), some (jm_I (h3 104 (Int.toNat x1)))]) rfl ?_
      refine jm_aload_n jd_Mod_weigh_32 rfl rfl ?_
      refine jm_gR jd_Mod_weigh_33 jf_Mod_85 jm_SH_78 rfl ?_
      refine jm_iload_n jd_Mod_weigh_36 rfl rfl ?_
      refine jm_iload_n jd_Mod_weigh_37 rfl rfl ?_
      obtain ⟨hb6, H⟩ := H
      refine jm_iastore jd_Mod_weigh_38 jm_SH_104 hb6 ?_
      refine jm_iload_n jd_Mod_weigh_39 rfl rfl ?_
      exact jm_ireturn jd_Mod_weigh_40 rfl (by decide) ⟨rfl, _, rfl, H⟩
    · replace H := H.2 hc4
      refine jm_bipush jd_Mod_weigh_22 jb_m2 ?_
      exact jm_ireturn jd_Mod_weigh_24 rfl (by decide) ⟨rfl, _, rfl, H⟩
  · replace H := H.2 hc2
    refine jm_iconst jd_Mod_weigh_8 (jm_o32c rfl) ?_
    exact jm_ireturn jd_Mod_weigh_9 rfl (by decide) ⟨rfl, _, rfl, H⟩
set_option maxRecDepth 4000 in
theorem jb_Mod_livesTo {E : jm_Env} {x1 : Int} {h : jm_H} {K : Int → jm_H → Prop} (H : jm_BI E jm_SH jm_m_Mod_livesTo 1 6 [some (jm_R 78), some (jm_I x1), some (jm_I x1), some (jm_I (jm_w32 (x1 + 1)))] [] h K) : jm_CI E jm_SH jm_m_Mod_livesTo 1 [jm_R 78, jm_I x1] h K := by
  refine jm_body (ls0 := [some (jm_R 78), some (jm_I x1), none, none]) (by decide +kernel) rfl rfl (Nat.le_of_ble_eq_true rfl) ?_
  refine jm_iload_n jd_Mod_livesTo_0 rfl rfl ?_
  refine jm_istore_n (i := 2) jd_Mod_livesTo_1 rfl (by decide) (ls2 := [some (jm_R 78), some (jm_I x1), some (jm_I x1), none]) rfl ?_
  refine jm_iload_n jd_Mod_livesTo_2 rfl rfl ?_
  refine jm_iconst jd_Mod_livesTo_3 (jm_o32c rfl) ?_
  refine jm_iadd jd_Mod_livesTo_4 ?_
  refine jm_istore_n (i := 3) jd_Mod_livesTo_5 rfl (by decide) (ls2 := [some (jm_R 78), some (jm_I x1), some (jm_I x1), some (jm_I (jm_w32 (x1 + 1)))]) rfl ?_
  exact H
set_option maxRecDepth 4000 in
theorem jb_Mod_livesTo_6 {E : jm_Env} {x1 x2 x3 : Int} {h : jm_H} {K : Int → jm_H → Prop} (H : ((h 78 32 ≤ x3) → (0 ≤ x1 ∧ x1 < 12) ∧ (((¬ jv_and (jv_shr (h 78 39) (h 100 (Int.toNat x1))) 1 = 1) → K x2 h) ∧ ((jv_and (jv_shr (h 78 39) (h 100 (Int.toNat x1))) 1 = 1) → K (h 78 32) h))) ∧ ((¬ h 78 32 ≤ x3) → (0 ≤ x1 ∧ x1 < 12) ∧ (jm_CI E jm_SH jm_m_Mod_uses 0 [jm_R 78, jm_I x3, jm_I (h 100 (Int.toNat x1))] h (fun v5 h5 => ((v5 = 0) → (0 ≤ x3 ∧ x3 < 12) ∧ ((0 ≤ x1 ∧ x1 < 12) ∧ (((¬ h5 100 (Int.toNat x3) = h5 100 (Int.toNat x1)) → jm_BI E jm_SH jm_m_Mod_livesTo 1 6 [some (jm_R 78), some (jm_I x1), some (jm_I x2), some (jm_I (jm_w32 (x3 + 1)))] [] h5 K) ∧ ((h5 100 (Int.toNat x3) = h5 100 (Int.toNat x1)) → K x2 h5)))) ∧ ((¬ v5 = 0) → (0 ≤ x3 ∧ x3 < 12) ∧ ((0 ≤ x1 ∧ x1 < 12) ∧ (((¬ h5 100 (Int.toNat x3) = h5 100 (Int.toNat x1)) → jm_BI E jm_SH jm_m_Mod_livesTo 1 6 [some (jm_R 78), some (jm_I x1), some (jm_I x3), some (jm_I (jm_w32 (x3 + 1)))] [] h5 K) ∧ ((h5 100 (Int.toNat x3) = h5 100 (Int.toNat x1)) → K x3 h5)))))))) : jm_BI E jm_SH jm_m_Mod_livesTo 1 6 [some (jm_R 78), some (jm_I x1), some (jm_I x2), some (jm_I x3)] [] h K := by
  refine jm_iload_n jd_Mod_livesTo_6 rfl rfl ?_
  refine jm_aload_n jd_Mod_livesTo_7 rfl rfl ?_
  refine jm_gI jd_Mod_livesTo_8 jf_Mod_231 jm_SH_78 ?_
  refine jm_icmp_ge (tgt := 57) jd_Mod_livesTo_11 rfl (fun hc1 => ?_) (fun hc1 => ?_)
  · replace H := H.1 hc1
    refine jm_aload_n jd_Mod_livesTo_57 rfl rfl ?_
    refine jm_gI jd_Mod_livesTo_58 jf_Mod_118 jm_SH_78 ?_
    refine jm_aload_n jd_Mod_livesTo_61 rfl rfl ?_
    refine jm_gR jd_Mod_livesTo_62 jf_Mod_73 jm_SH_78 rfl ?_
    refine jm_iload_n jd_Mod_livesTo_65 rfl rfl ?_
    obtain ⟨hb2, H⟩ := H
    refine jm_iaload jd_Mod_livesTo_66 jm_SH_100 hb2 ?_
    refine jm_ishr jd_Mod_livesTo_67 ?_
    refine jm_iconst jd_Mod_livesTo_68 (jm_o32c rfl) ?_
    refine jm_iand jd_Mod_livesTo_69 ?_
    refine jm_iconst jd_Mod_livesTo_70 (jm_o32c rfl) ?_
    refine jm_icmp_ne (tgt := 81) jd_Mod_livesTo_71 rfl (fun hc3 => ?_) (fun hc3 => ?_)
    · replace H := H.1 hc3
      refine jm_iload_n jd_Mod_livesTo_81 rfl rfl ?_
      exact jm_ireturn jd_Mod_livesTo_82 rfl (by decide) ⟨rfl, _, rfl, H⟩
    · replace H := H.2 hc3
      refine jm_aload_n jd_Mod_livesTo_74 rfl rfl ?_
      refine jm_gI jd_Mod_livesTo_75 jf_Mod_231 jm_SH_78 ?_
      refine jm_goto (tgt := 82) jd_Mod_livesTo_78 rfl ?_
      exact jm_ireturn jd_Mod_livesTo_82 rfl (by decide) ⟨rfl, _, rfl, H⟩
  · replace H := H.2 hc1
    refine jm_aload_n jd_Mod_livesTo_14 rfl rfl ?_
    refine jm_iload_n jd_Mod_livesTo_15 rfl rfl ?_
    refine jm_aload_n jd_Mod_livesTo_16 rfl rfl ?_
    refine jm_gR jd_Mod_livesTo_17 jf_Mod_73 jm_SH_78 rfl ?_
    refine jm_iload_n jd_Mod_livesTo_20 rfl rfl ?_
    obtain ⟨hb4, H⟩ := H
    refine jm_iaload jd_Mod_livesTo_21 jm_SH_100 hb4 ?_
    refine jm_cV (M' := jm_m_Mod_uses) (d' := 0) (av := [jm_I x3, jm_I (h 100 (Int.toNat x1))]) jd_Mod_livesTo_22 jk_Mod_uses jw_1124 rfl (by omega) ⟨rfl, rfl⟩ (by decide) (Nat.le_of_ble_eq_true rfl) jm_SH_78 rfl rfl (jm_hqI (fun v5 h5 H => ?_)) H
    refine jm_if_eq (tgt := 32) jd_Mod_livesTo_25 rfl (fun hc6 => ?_) (fun hc6 => ?_)
    · replace H := H.1 hc6
      refine jm_iload_n jd_Mod_livesTo_32 rfl rfl ?_
      refine jm_istore_n (i := 2) jd_Mod_livesTo_33 rfl (by decide) (ls2 := [some (jm_R 78), some (jm_I x1), some (jm_I x2), some (jm_I x3)]) rfl ?_
      refine jm_aload_n jd_Mod_livesTo_34 rfl rfl ?_
      refine jm_gR jd_Mod_livesTo_35 jf_Mod_73 jm_SH_78 rfl ?_
      refine jm_iload_n jd_Mod_livesTo_38 rfl rfl ?_
      obtain ⟨hb7, H⟩ := H
      refine jm_iaload jd_Mod_livesTo_39 jm_SH_100 hb7 ?_
      refine jm_aload_n jd_Mod_livesTo_40 rfl rfl ?_
      refine jm_gR jd_Mod_livesTo_41 jf_Mod_73 jm_SH_78 rfl ?_
      refine jm_iload_n jd_Mod_livesTo_44 rfl rfl ?_
      obtain ⟨hb8, H⟩ := H
      refine jm_iaload jd_Mod_livesTo_45 jm_SH_100 hb8 ?_
      refine jm_icmp_ne (tgt := 51) jd_Mod_livesTo_46 rfl (fun hc9 => ?_) (fun hc9 => ?_)
      · replace H := H.1 hc9
        refine jm_iinc jd_Mod_livesTo_51 rfl (by decide) (ls2 := [some (jm_R 78), some (jm_I x1), some (jm_I x2), some (jm_I (jm_w32 (x3 + 1)))]) rfl ?_
        refine jm_goto (tgt := 6) jd_Mod_livesTo_54 rfl ?_
        exact H
      · replace H := H.2 hc9
        refine jm_iload_n jd_Mod_livesTo_49 rfl rfl ?_
        exact jm_ireturn jd_Mod_livesTo_50 rfl (by decide) ⟨rfl, _, rfl, H⟩
    · replace H := H.2 hc6
      refine jm_iload_n jd_Mod_livesTo_28 rfl rfl ?_
      refine jm_goto (tgt := 33) jd_Mod_livesTo_29 rfl ?_
      refine jm_istore_n (i := 2) jd_Mod_livesTo_33 rfl (by decide) (ls2 := [some (jm_R 78), some (jm_I x1), some (jm_I x3), some (jm_I x3)]) rfl ?_
      refine jm_aload_n jd_Mod_livesTo_34 rfl rfl ?_
      refine jm_gR jd_Mod_livesTo_35 jf_Mod_73 jm_SH_78 rfl ?_
      refine jm_iload_n jd_Mod_livesTo_38 rfl rfl ?_
      obtain ⟨hb10, H⟩ := H
      refine jm_iaload jd_Mod_livesTo_39 jm_SH_100 hb10 ?_
      refine jm_aload_n jd_Mod_livesTo_40 rfl rfl ?_
      refine jm_gR jd_Mod_livesTo_41 jf_Mod_73 jm_SH_78 rfl ?_
      refine jm_iload_n jd_Mod_livesTo_44 rfl rfl ?_
      obtain ⟨hb11, H⟩ := H
      refine jm_iaload jd_Mod_livesTo_45 jm_SH_100 hb11 ?_
      refine jm_icmp_ne (tgt := 51) jd_Mod_livesTo_46 rfl (fun hc12 => ?_) (fun hc12 => ?_)
      · replace H := H.1 hc12
        refine jm_iinc jd_Mod_livesTo_51 rfl (by decide) (ls2 := [some (jm_R 78), some (jm_I x1), some (jm_I x3), some (jm_I (jm_w32 (x3 + 1)))]) rfl ?_
        refine jm_goto (tgt := 6) jd_Mod_livesTo_54 rfl ?_
        exact H
      · replace H := H.2 hc12
        refine jm_iload_n jd_Mod_livesTo_49 rfl rfl ?_
        exact jm_ireturn jd_Mod_livesTo_50 rfl (by decide) ⟨rfl, _, rfl, H⟩
set_option maxRecDepth 4000 in
theorem jb_Mod_lives {E : jm_Env} {x1 : Int} {h : jm_H} {K : Int → jm_H → Prop} (H : jm_CI E jm_SH jm_m_Mod_isInstruction 1 [jm_R 78, jm_I x1] h (fun v1 h1 => ((v1 = 0) → K (-1) h1) ∧ ((¬ v1 = 0) → jm_CI E jm_SH jm_m_Mod_livesTo 1 [jm_R 78, jm_I x1] h1 (fun v3 h3 => K (jm_w32 (v3 - x1)) h3)))) : jm_CI E jm_SH jm_m_Mod_lives 2 [jm_R 78, jm_I x1] h K := by
  refine jm_body (ls0 := [some (jm_R 78), some (jm_I x1)]) (by decide +kernel) rfl rfl (Nat.le_of_ble_eq_true rfl) ?_
  refine jm_aload_n jd_Mod_lives_0 rfl rfl ?_
  refine jm_iload_n jd_Mod_lives_1 rfl rfl ?_
  refine jm_cV (M' := jm_m_Mod_isInstruction) (d' := 1) (av := [jm_I x1]) jd_Mod_lives_2 jk_Mod_isInstruction jw_1112 rfl (by omega) ⟨rfl, rfl⟩ (by decide) (Nat.le_of_ble_eq_true rfl) jm_SH_78 rfl rfl (jm_hqI (fun v1 h1 H => ?_)) H
  refine jm_if_eq (tgt := 18) jd_Mod_lives_5 rfl (fun hc2 => ?_) (fun hc2 => ?_)
  · replace H := H.1 hc2
    refine jm_iconst jd_Mod_lives_18 (jm_o32c rfl) ?_
    exact jm_ireturn jd_Mod_lives_19 rfl (by decide) ⟨rfl, _, rfl, H⟩
  · replace H := H.2 hc2
    refine jm_aload_n jd_Mod_lives_8 rfl rfl ?_
    refine jm_iload_n jd_Mod_lives_9 rfl rfl ?_
    refine jm_cV (M' := jm_m_Mod_livesTo) (d' := 1) (av := [jm_I x1]) jd_Mod_lives_10 jk_Mod_livesTo jw_1182 rfl (by omega) ⟨rfl, rfl⟩ (by decide) (Nat.le_of_ble_eq_true rfl) jm_SH_78 rfl rfl (jm_hqI (fun v3 h3 H => ?_)) H
    refine jm_iload_n jd_Mod_lives_13 rfl rfl ?_
    refine jm_isub jd_Mod_lives_14 ?_
    refine jm_goto (tgt := 19) jd_Mod_lives_15 rfl ?_
    exact jm_ireturn jd_Mod_lives_19 rfl (by decide) ⟨rfl, _, rfl, H⟩
set_option maxRecDepth 4000 in
theorem jb_Mod_placeOf {E : jm_Env} {x1 : Int} {h : jm_H} {K : Int → jm_H → Prop} (H : jm_BI E jm_SH jm_m_Mod_placeOf 2 4 [some (jm_R 78), some (jm_I x1), some (jm_I 0), some (jm_I 0)] [] h K) : jm_CI E jm_SH jm_m_Mod_placeOf 2 [jm_R 78, jm_I x1] h K := by
  refine jm_body (ls0 := [some (jm_R 78), some (jm_I x1), none, none]) (by decide +kernel) rfl rfl (Nat.le_of_ble_eq_true rfl) ?_
  refine jm_iconst jd_Mod_placeOf_0 (jm_o32c rfl) ?_
  refine jm_istore_n (i := 2) jd_Mod_placeOf_1 rfl (by decide) (ls2 := [some (jm_R 78), some (jm_I x1), some (jm_I 0), none]) rfl ?_
  refine jm_iconst jd_Mod_placeOf_2 (jm_o32c rfl) ?_
  refine jm_istore_n (i := 3) jd_Mod_placeOf_3 rfl (by decide) (ls2 := [some (jm_R 78), some (jm_I x1), some (jm_I 0), some (jm_I 0)]) rfl ?_
  exact H
set_option maxRecDepth 4000 in
theorem jb_Mod_placeOf_4 {E : jm_Env} {x1 x2 x3 : Int} {h : jm_H} {K : Int → jm_H → Prop} (H : ((x1 < x3) → K x2 h) ∧ ((¬ x1 < x3) → jm_CI E jm_SH jm_m_Mod_livesTo 1 [jm_R 78, jm_I x3] h (fun v2 h2 => ((v2 ≤ x1) → jm_BI E jm_SH jm_m_Mod_placeOf 2 4 [some (jm_R 78), some (jm_I x1), some (jm_I (jv_or x2 0)), some (jm_I (jm_w32 (x3 + 1)))] [] h2 K) ∧ ((¬ v2 ≤ x1) → jm_BI E jm_SH jm_m_Mod_placeOf 2 4 [some (jm_R 78), some (jm_I x1), some (jm_I (jv_or x2 (jv_shl 1 x3))), some (jm_I (jm_w32 (x3 + 1)))] [] h2 K)))) : jm_BI E jm_SH jm_m_Mod_placeOf 2 4 [some (jm_R 78), some (jm_I x1), some (jm_I x2), some (jm_I x3)] [] h K := by
  refine jm_iload_n jd_Mod_placeOf_4 rfl rfl ?_
  refine jm_iload_n jd_Mod_placeOf_5 rfl rfl ?_
  refine jm_icmp_gt (tgt := 34) jd_Mod_placeOf_6 rfl (fun hc1 => ?_) (fun hc1 => ?_)
  · replace H := H.1 hc1
    refine jm_iload_n jd_Mod_placeOf_34 rfl rfl ?_
    exact jm_ireturn jd_Mod_placeOf_35 rfl (by decide) ⟨rfl, _, rfl, H⟩
  · replace H := H.2 hc1
    refine jm_iload_n jd_Mod_placeOf_9 rfl rfl ?_
    refine jm_aload_n jd_Mod_placeOf_10 rfl rfl ?_
    refine jm_iload_n jd_Mod_placeOf_11 rfl rfl ?_
    refine jm_cV (M' := jm_m_Mod_livesTo) (d' := 1) (av := [jm_I x3]) jd_Mod_placeOf_12 jk_Mod_livesTo jw_1182 rfl (by omega) ⟨rfl, rfl⟩ (by decide) (Nat.le_of_ble_eq_true rfl) jm_SH_78 rfl rfl (jm_hqI (fun v2 h2 H => ?_)) H
    refine jm_iload_n jd_Mod_placeOf_15 rfl rfl ?_
    refine jm_icmp_le (tgt := 25) jd_Mod_placeOf_16 rfl (fun hc3 => ?_) (fun hc3 => ?_)
    · replace H := H.1 hc3
      refine jm_iconst jd_Mod_placeOf_25 (jm_o32c rfl) ?_
      refine jm_ior jd_Mod_placeOf_26 ?_
      refine jm_istore_n (i := 2) jd_Mod_placeOf_27 rfl (by decide) (ls2 := [some (jm_R 78), some (jm_I x1), some (jm_I (jv_or x2 0)), some (jm_I x3)]) rfl ?_
      refine jm_iinc jd_Mod_placeOf_28 rfl (by decide) (ls2 := [some (jm_R 78), some (jm_I x1), some (jm_I (jv_or x2 0)), some (jm_I (jm_w32 (x3 + 1)))]) rfl ?_
      refine jm_goto (tgt := 4) jd_Mod_placeOf_31 rfl ?_
      exact H
    · replace H := H.2 hc3
      refine jm_iconst jd_Mod_placeOf_19 (jm_o32c rfl) ?_
      refine jm_iload_n jd_Mod_placeOf_20 rfl rfl ?_
      refine jm_ishl jd_Mod_placeOf_21 ?_
      refine jm_goto (tgt := 26) jd_Mod_placeOf_22 rfl ?_
      refine jm_ior jd_Mod_placeOf_26 ?_
      refine jm_istore_n (i := 2) jd_Mod_placeOf_27 rfl (by decide) (ls2 := [some (jm_R 78), some (jm_I x1), some (jm_I (jv_or x2 (jv_shl 1 x3))), some (jm_I x3)]) rfl ?_
      refine jm_iinc jd_Mod_placeOf_28 rfl (by decide) (ls2 := [some (jm_R 78), some (jm_I x1), some (jm_I (jv_or x2 (jv_shl 1 x3))), some (jm_I (jm_w32 (x3 + 1)))]) rfl ?_
      refine jm_goto (tgt := 4) jd_Mod_placeOf_31 rfl ?_
      exact H
set_option maxRecDepth 4000 in
theorem jb_Mod_place {E : jm_Env} {x1 : Int} {h : jm_H} {K : Int → jm_H → Prop} (H : jm_CI E jm_SH jm_m_Mod_isInstruction 1 [jm_R 78, jm_I x1] h (fun v1 h1 => ((v1 = 0) → K (-1) h1) ∧ ((¬ v1 = 0) → jm_CI E jm_SH jm_m_Mod_placeOf 2 [jm_R 78, jm_I x1] h1 (fun v3 h3 => K v3 h3)))) : jm_CI E jm_SH jm_m_Mod_place 3 [jm_R 78, jm_I x1] h K := by
  refine jm_body (ls0 := [some (jm_R 78), some (jm_I x1)]) (by decide +kernel) rfl rfl (Nat.le_of_ble_eq_true rfl) ?_
  refine jm_aload_n jd_Mod_place_0 rfl rfl ?_
  refine jm_iload_n jd_Mod_place_1 rfl rfl ?_
  refine jm_cV (M' := jm_m_Mod_isInstruction) (d' := 1) (av := [jm_I x1]) jd_Mod_place_2 jk_Mod_isInstruction jw_1112 rfl (by omega) ⟨rfl, rfl⟩ (by decide) (Nat.le_of_ble_eq_true rfl) jm_SH_78 rfl rfl (jm_hqI (fun v1 h1 H => ?_)) H
  refine jm_if_eq (tgt := 16) jd_Mod_place_5 rfl (fun hc2 => ?_) (fun hc2 => ?_)
  · replace H := H.1 hc2
    refine jm_iconst jd_Mod_place_16 (jm_o32c rfl) ?_
    exact jm_ireturn jd_Mod_place_17 rfl (by decide) ⟨rfl, _, rfl, H⟩
  · replace H := H.2 hc2
    refine jm_aload_n jd_Mod_place_8 rfl rfl ?_
    refine jm_iload_n jd_Mod_place_9 rfl rfl ?_
    refine jm_cV (M' := jm_m_Mod_placeOf) (d' := 2) (av := [jm_I x1]) jd_Mod_place_10 jk_Mod_placeOf jw_1190 rfl (by omega) ⟨rfl, rfl⟩ (by decide) (Nat.le_of_ble_eq_true rfl) jm_SH_78 rfl rfl (jm_hqI (fun v3 h3 H => ?_)) H
    refine jm_goto (tgt := 17) jd_Mod_place_13 rfl ?_
    exact jm_ireturn jd_Mod_place_17 rfl (by decide) ⟨rfl, _, rfl, H⟩
set_option maxRecDepth 4000 in
theorem jb_Mod_count {E : jm_Env} {x0 : Int} {h : jm_H} {K : Int → jm_H → Prop} (H : jm_BI E jm_SH jm_m_Mod_count 0 4 [some (jm_I x0), some (jm_I 0), some (jm_I 0)] [] h K) : jm_CI E jm_SH jm_m_Mod_count 0 [jm_I x0] h K := by
  refine jm_body (ls0 := [some (jm_I x0), none, none]) (by decide +kernel) rfl rfl (Nat.le_of_ble_eq_true rfl) ?_
  refine jm_iconst jd_Mod_count_0 (jm_o32c rfl) ?_
  refine jm_istore_n (i := 1) jd_Mod_count_1 rfl (by decide) (ls2 := [some (jm_I x0), some (jm_I 0), none]) rfl ?_
  refine jm_iconst jd_Mod_count_2 (jm_o32c rfl) ?_
  refine jm_istore_n (i := 2) jd_Mod_count_3 rfl (by decide) (ls2 := [some (jm_I x0), some (jm_I 0), some (jm_I 0)]) rfl ?_
  exact H
set_option maxRecDepth 4000 in
theorem jb_Mod_count_4 {E : jm_Env} {x0 x1 x2 : Int} {h : jm_H} {K : Int → jm_H → Prop} (H : ((12 ≤ x2) → K x1 h) ∧ ((¬ 12 ≤ x2) → jm_BI E jm_SH jm_m_Mod_count 0 4 [some (jm_I x0), some (jm_I (jm_w32 (x1 + (jv_and (jv_shr x0 x2) 1)))), some (jm_I (jm_w32 (x2 + 1)))] [] h K)) : jm_BI E jm_SH jm_m_Mod_count 0 4 [some (jm_I x0), some (jm_I x1), some (jm_I x2)] [] h K := by
  refine jm_iload_n jd_Mod_count_4 rfl rfl ?_
  refine jm_bipush jd_Mod_count_5 jb_12 ?_
  refine jm_icmp_ge (tgt := 24) jd_Mod_count_7 rfl (fun hc1 => ?_) (fun hc1 => ?_)
  · replace H := H.1 hc1
    refine jm_iload_n jd_Mod_count_24 rfl rfl ?_
    exact jm_ireturn jd_Mod_count_25 rfl (by decide) ⟨rfl, _, rfl, H⟩
  · replace H := H.2 hc1
    refine jm_iload_n jd_Mod_count_10 rfl rfl ?_
    refine jm_iload_n jd_Mod_count_11 rfl rfl ?_
    refine jm_iload_n jd_Mod_count_12 rfl rfl ?_
    refine jm_ishr jd_Mod_count_13 ?_
    refine jm_iconst jd_Mod_count_14 (jm_o32c rfl) ?_
    refine jm_iand jd_Mod_count_15 ?_
    refine jm_iadd jd_Mod_count_16 ?_
    refine jm_istore_n (i := 1) jd_Mod_count_17 rfl (by decide) (ls2 := [some (jm_I x0), some (jm_I (jm_w32 (x1 + (jv_and (jv_shr x0 x2) 1)))), some (jm_I x2)]) rfl ?_
    refine jm_iinc jd_Mod_count_18 rfl (by decide) (ls2 := [some (jm_I x0), some (jm_I (jm_w32 (x1 + (jv_and (jv_shr x0 x2) 1)))), some (jm_I (jm_w32 (x2 + 1)))]) rfl ?_
    refine jm_goto (tgt := 4) jd_Mod_count_21 rfl ?_
    exact H
set_option maxRecDepth 4000 in
theorem jb_Mod_crowd {E : jm_Env} {h : jm_H} {K : Int → jm_H → Prop} (H : jm_BI E jm_SH jm_m_Mod_crowd 3 4 [some (jm_R 78), some (jm_I 0), some (jm_I 0), none] [] h K) : jm_CI E jm_SH jm_m_Mod_crowd 3 [jm_R 78] h K := by
  refine jm_body (ls0 := [some (jm_R 78), none, none, none]) (by decide +kernel) rfl rfl (Nat.le_of_ble_eq_true rfl) ?_
  refine jm_iconst jd_Mod_crowd_0 (jm_o32c rfl) ?_
  refine jm_istore_n (i := 1) jd_Mod_crowd_1 rfl (by decide) (ls2 := [some (jm_R 78), some (jm_I 0), none, none]) rfl ?_
  refine jm_iconst jd_Mod_crowd_2 (jm_o32c rfl) ?_
  refine jm_istore_n (i := 2) jd_Mod_crowd_3 rfl (by decide) (ls2 := [some (jm_R 78), some (jm_I 0), some (jm_I 0), none]) rfl ?_
  exact H
set_option maxRecDepth 4000 in
theorem jb_Mod_crowd_4 {E : jm_Env} {x1 x2 : Int} {h : jm_H} {K : Int → jm_H → Prop} (H : ((h 78 32 ≤ x2) → K x1 h) ∧ ((¬ h 78 32 ≤ x2) → jm_CI E jm_SH jm_m_Mod_placeOf 2 [jm_R 78, jm_I x2] h (fun v2 h2 => jm_CI E jm_SH jm_m_Mod_count 0 [jm_I v2] h2 (fun v3 h3 => ((v3 ≤ x1) → jm_BI E jm_SH jm_m_Mod_crowd 3 4 [some (jm_R 78), some (jm_I x1), some (jm_I (jm_w32 (x2 + 1))), none] [] h3 K) ∧ ((¬ v3 ≤ x1) → jm_BI E jm_SH jm_m_Mod_crowd 3 4 [some (jm_R 78), some (jm_I v3), some (jm_I (jm_w32 (x2 + 1))), none] [] h3 K))))) : jm_BI E jm_SH jm_m_Mod_crowd 3 4 [some (jm_R 78), some (jm_I x1), some (jm_I x2), none] [] h K := by
  refine jm_iload_n jd_Mod_crowd_4 rfl rfl ?_
  refine jm_aload_n jd_Mod_crowd_5 rfl rfl ?_
  refine jm_gI jd_Mod_crowd_6 jf_Mod_231 jm_SH_78 ?_
  refine jm_icmp_ge (tgt := 38) jd_Mod_crowd_9 rfl (fun hc1 => ?_) (fun hc1 => ?_)
  · replace H := H.1 hc1
    refine jm_iload_n jd_Mod_crowd_38 rfl rfl ?_
    exact jm_ireturn jd_Mod_crowd_39 rfl (by decide) ⟨rfl, _, rfl, H⟩
  · replace H := H.2 hc1
    refine jm_aload_n jd_Mod_crowd_12 rfl rfl ?_
    refine jm_iload_n jd_Mod_crowd_13 rfl rfl ?_
    refine jm_cV (M' := jm_m_Mod_placeOf) (d' := 2) (av := [jm_I x2]) jd_Mod_crowd_14 jk_Mod_placeOf jw_1190 rfl (by omega) ⟨rfl, rfl⟩ (by decide) (Nat.le_of_ble_eq_true rfl) jm_SH_78 rfl rfl (jm_hqI (fun v2 h2 H => ?_)) H
    refine jm_cS (M' := jm_m_Mod_count) (d' := 0) (av := [jm_I v2]) jd_Mod_crowd_17 jk_Mod_count jw_1198 rfl (by omega) ⟨rfl, rfl⟩ (by decide) (Nat.le_of_ble_eq_true rfl) (jm_hqI (fun v3 h3 H => ?_)) H
    refine jm_istore_n (i := 3) jd_Mod_crowd_20 rfl (by decide) (ls2 := [some (jm_R 78), some (jm_I x1), some (jm_I x2), some (jm_I v3)]) rfl ?_
    refine jm_iload_n jd_Mod_crowd_21 rfl rfl ?_
    refine jm_iload_n jd_Mod_crowd_22 rfl rfl ?_
    refine jm_icmp_le (tgt := 30) jd_Mod_crowd_23 rfl (fun hc4 => ?_) (fun hc4 => ?_)
    · replace H := H.1 hc4
      refine jm_iload_n jd_Mod_crowd_30 rfl rfl ?_
      refine jm_istore_n (i := 1) jd_Mod_crowd_31 rfl (by decide) (ls2 := [some (jm_R 78), some (jm_I x1), some (jm_I x2), some (jm_I v3)]) rfl ?_
      refine jm_iinc jd_Mod_crowd_32 rfl (by decide) (ls2 := [some (jm_R 78), some (jm_I x1), some (jm_I (jm_w32 (x2 + 1))), some (jm_I v3)]) rfl ?_
      refine jm_goto (tgt := 4) jd_Mod_crowd_35 rfl ?_
      refine jm_keepG [true, true, true, false] (ls2 := [some (jm_R 78), some (jm_I x1), some (jm_I (jm_w32 (x2 + 1))), none]) (by rfl) (by rfl) ?_
      exact H
    · replace H := H.2 hc4
      refine jm_iload_n jd_Mod_crowd_26 rfl rfl ?_
      refine jm_goto (tgt := 31) jd_Mod_crowd_27 rfl ?_
      refine jm_istore_n (i := 1) jd_Mod_crowd_31 rfl (by decide) (ls2 := [some (jm_R 78), some (jm_I v3), some (jm_I x2), some (jm_I v3)]) rfl ?_
      refine jm_iinc jd_Mod_crowd_32 rfl (by decide) (ls2 := [some (jm_R 78), some (jm_I v3), some (jm_I (jm_w32 (x2 + 1))), some (jm_I v3)]) rfl ?_
      refine jm_goto (tgt := 4) jd_Mod_crowd_35 rfl ?_
      refine jm_keepG [true, true, true, false] (ls2 := [some (jm_R 78), some (jm_I v3), some (jm_I (jm_w32 (x2 + 1))), none]) (by rfl) (by rfl) ?_
      exact H
set_option maxRecDepth 4000 in
theorem jb_Mod_weightOf {E : jm_Env} {x1 : Int} {h : jm_H} {K : Int → jm_H → Prop} (H : jm_BI E jm_SH jm_m_Mod_weightOf 0 4 [some (jm_R 78), some (jm_I x1), some (jm_I 0), some (jm_I 0)] [] h K) : jm_CI E jm_SH jm_m_Mod_weightOf 0 [jm_R 78, jm_I x1] h K := by
  refine jm_body (ls0 := [some (jm_R 78), some (jm_I x1), none, none]) (by decide +kernel) rfl rfl (Nat.le_of_ble_eq_true rfl) ?_
  refine jm_iconst jd_Mod_weightOf_0 (jm_o32c rfl) ?_
  refine jm_istore_n (i := 2) jd_Mod_weightOf_1 rfl (by decide) (ls2 := [some (jm_R 78), some (jm_I x1), some (jm_I 0), none]) rfl ?_
  refine jm_iconst jd_Mod_weightOf_2 (jm_o32c rfl) ?_
  refine jm_istore_n (i := 3) jd_Mod_weightOf_3 rfl (by decide) (ls2 := [some (jm_R 78), some (jm_I x1), some (jm_I 0), some (jm_I 0)]) rfl ?_
  exact H
set_option maxRecDepth 4000 in
theorem jb_Mod_weightOf_4 {E : jm_Env} {x1 x2 x3 : Int} {h : jm_H} {K : Int → jm_H → Prop} (H : ((h 78 32 ≤ x3) → K x2 h) ∧ ((¬ h 78 32 ≤ x3) → ((¬ jv_and (jv_shr x1 x3) 1 = 1) → jm_BI E jm_SH jm_m_Mod_weightOf 0 4 [some (jm_R 78), some (jm_I x1), some (jm_I (jm_w32 (x2 + 0))), some (jm_I (jm_w32 (x3 + 1)))] [] h K) ∧ ((jv_and (jv_shr x1 x3) 1 = 1) → (0 ≤ x3 ∧ x3 < 12) ∧ (jm_BI E jm_SH jm_m_Mod_weightOf 0 4 [some (jm_R 78), some (jm_I x1), some (jm_I (jm_w32 (x2 + (h 104 (Int.toNat x3))))), some (jm_I (jm_w32 (x3 + 1)))] [] h K)))) : jm_BI E jm_SH jm_m_Mod_weightOf 0 4 [some (jm_R 78), some (jm_I x1), some (jm_I x2), some (jm_I x3)] [] h K := by
  refine jm_iload_n jd_Mod_weightOf_4 rfl rfl ?_
  refine jm_aload_n jd_Mod_weightOf_5 rfl rfl ?_
  refine jm_gI jd_Mod_weightOf_6 jf_Mod_231 jm_SH_78 ?_
  refine jm_icmp_ge (tgt := 40) jd_Mod_weightOf_9 rfl (fun hc1 => ?_) (fun hc1 => ?_)
  · replace H := H.1 hc1
    refine jm_iload_n jd_Mod_weightOf_40 rfl rfl ?_
    exact jm_ireturn jd_Mod_weightOf_41 rfl (by decide) ⟨rfl, _, rfl, H⟩
  · replace H := H.2 hc1
    refine jm_iload_n jd_Mod_weightOf_12 rfl rfl ?_
    refine jm_iload_n jd_Mod_weightOf_13 rfl rfl ?_
    refine jm_iload_n jd_Mod_weightOf_14 rfl rfl ?_
    refine jm_ishr jd_Mod_weightOf_15 ?_
    refine jm_iconst jd_Mod_weightOf_16 (jm_o32c rfl) ?_
    refine jm_iand jd_Mod_weightOf_17 ?_
    refine jm_iconst jd_Mod_weightOf_18 (jm_o32c rfl) ?_
    refine jm_icmp_ne (tgt := 31) jd_Mod_weightOf_19 rfl (fun hc2 => ?_) (fun hc2 => ?_)
    · replace H := H.1 hc2
      refine jm_iconst jd_Mod_weightOf_31 (jm_o32c rfl) ?_
      refine jm_iadd jd_Mod_weightOf_32 ?_
      refine jm_istore_n (i := 2) jd_Mod_weightOf_33 rfl (by decide) (ls2 := [some (jm_R 78), some (jm_I x1), some (jm_I (jm_w32 (x2 + 0))), some (jm_I x3)]) rfl ?_
      refine jm_iinc jd_Mod_weightOf_34 rfl (by decide) (ls2 := [some (jm_R 78), some (jm_I x1), some (jm_I (jm_w32 (x2 + 0))), some (jm_I (jm_w32 (x3 + 1)))]) rfl ?_
      refine jm_goto (tgt := 4) jd_Mod_weightOf_37 rfl ?_
      exact H
    · replace H := H.2 hc2
      refine jm_aload_n jd_Mod_weightOf_22 rfl rfl ?_
      refine jm_gR jd_Mod_weightOf_23 jf_Mod_85 jm_SH_78 rfl ?_
      refine jm_iload_n jd_Mod_weightOf_26 rfl rfl ?_
      obtain ⟨hb3, H⟩ := H
      refine jm_iaload jd_Mod_weightOf_27 jm_SH_104 hb3 ?_
      refine jm_goto (tgt := 32) jd_Mod_weightOf_28 rfl ?_
      refine jm_iadd jd_Mod_weightOf_32 ?_
      refine jm_istore_n (i := 2) jd_Mod_weightOf_33 rfl (by decide) (ls2 := [some (jm_R 78), some (jm_I x1), some (jm_I (jm_w32 (x2 + (h 104 (Int.toNat x3))))), some (jm_I x3)]) rfl ?_
      refine jm_iinc jd_Mod_weightOf_34 rfl (by decide) (ls2 := [some (jm_R 78), some (jm_I x1), some (jm_I (jm_w32 (x2 + (h 104 (Int.toNat x3))))), some (jm_I (jm_w32 (x3 + 1)))]) rfl ?_
      refine jm_goto (tgt := 4) jd_Mod_weightOf_37 rfl ?_
      exact H
set_option maxRecDepth 4000 in
theorem jb_Mod_isEnough {E : jm_Env} {x1 x2 : Int} {h : jm_H} {K : Int → jm_H → Prop} (H : jm_BI E jm_SH jm_m_Mod_isEnough 1 5 [some (jm_R 78), some (jm_I x1), some (jm_I x2), some (jm_I 1), some (jm_I 0)] [] h K) : jm_CI E jm_SH jm_m_Mod_isEnough 1 [jm_R 78, jm_I x1, jm_I x2] h K := by
  refine jm_body (ls0 := [some (jm_R 78), some (jm_I x1), some (jm_I x2), none, none]) (by decide +kernel) rfl rfl (Nat.le_of_ble_eq_true rfl) ?_
  refine jm_iconst jd_Mod_isEnough_0 (jm_o32c rfl) ?_
  refine jm_istore_n (i := 3) jd_Mod_isEnough_1 rfl (by decide) (ls2 := [some (jm_R 78), some (jm_I x1), some (jm_I x2), some (jm_I 1), none]) rfl ?_
  refine jm_iconst jd_Mod_isEnough_2 (jm_o32c rfl) ?_
  refine jm_istore (i := 4) jd_Mod_isEnough_3 (by decide) (ls2 := [some (jm_R 78), some (jm_I x1), some (jm_I x2), some (jm_I 1), some (jm_I 0)]) rfl ?_
  exact H
set_option maxRecDepth 4000 in
theorem jb_Mod_isEnough_5 {E : jm_Env} {x1 x2 x3 x4 : Int} {h : jm_H} {K : Int → jm_H → Prop} (H : ((h 78 32 ≤ x4) → (x3 = 0 ∨ x3 = 1) ∧ K x3 h) ∧ ((¬ h 78 32 ≤ x4) → ((x3 = 0) → jm_BI E jm_SH jm_m_Mod_isEnough 1 5 [some (jm_R 78), some (jm_I x1), some (jm_I x2), some (jm_I 0), some (jm_I (jm_w32 (x4 + 1)))] [] h K) ∧ ((¬ x3 = 0) → (0 ≤ x4 ∧ x4 < 12) ∧ (jm_CI E jm_SH jm_m_Mod_count 0 [jm_I (jv_and (h 110 (Int.toNat x4)) (jv_xor x1 (-1)))] h (fun v4 h4 => ((x2 < v4) → jm_BI E jm_SH jm_m_Mod_isEnough 1 5 [some (jm_R 78), some (jm_I x1), some (jm_I x2), some (jm_I 0), some (jm_I (jm_w32 (x4 + 1)))] [] h4 K) ∧ ((¬ x2 < v4) → jm_BI E jm_SH jm_m_Mod_isEnough 1 5 [some (jm_R 78), some (jm_I x1), some (jm_I x2), some (jm_I 1), some (jm_I (jm_w32 (x4 + 1)))] [] h4 K)))))) : jm_BI E jm_SH jm_m_Mod_isEnough 1 5 [some (jm_R 78), some (jm_I x1), some (jm_I x2), some (jm_I x3), some (jm_I x4)] [] h K := by
  refine jm_iload jd_Mod_isEnough_5 rfl ?_
  refine jm_aload_n jd_Mod_isEnough_7 rfl rfl ?_
  refine jm_gI jd_Mod_isEnough_8 jf_Mod_231 jm_SH_78 ?_
  refine jm_icmp_ge (tgt := 48) jd_Mod_isEnough_11 rfl (fun hc1 => ?_) (fun hc1 => ?_)
  · replace H := H.1 hc1
    refine jm_iload_n jd_Mod_isEnough_48 rfl rfl ?_
    exact jm_zreturn jd_Mod_isEnough_49 rfl H.1 (by decide) ⟨rfl, _, rfl, H.2⟩
  · replace H := H.2 hc1
    refine jm_iload_n jd_Mod_isEnough_14 rfl rfl ?_
    refine jm_if_eq (tgt := 40) jd_Mod_isEnough_15 rfl (fun hc2 => ?_) (fun hc2 => ?_)
    · replace H := H.1 hc2
      refine jm_iconst jd_Mod_isEnough_40 (jm_o32c rfl) ?_
      refine jm_istore_n (i := 3) jd_Mod_isEnough_41 rfl (by decide) (ls2 := [some (jm_R 78), some (jm_I x1), some (jm_I x2), some (jm_I 0), some (jm_I x4)]) rfl ?_
      refine jm_iinc jd_Mod_isEnough_42 rfl (by decide) (ls2 := [some (jm_R 78), some (jm_I x1), some (jm_I x2), some (jm_I 0), some (jm_I (jm_w32 (x4 + 1)))]) rfl ?_
      refine jm_goto (tgt := 5) jd_Mod_isEnough_45 rfl ?_
      exact H
    · replace H := H.2 hc2
      refine jm_aload_n jd_Mod_isEnough_18 rfl rfl ?_
      refine jm_gR jd_Mod_isEnough_19 jf_Mod_103 jm_SH_78 rfl ?_
      refine jm_iload jd_Mod_isEnough_22 rfl ?_
      obtain ⟨hb3, H⟩ := H
      refine jm_iaload jd_Mod_isEnough_24 jm_SH_110 hb3 ?_
      refine jm_iload_n jd_Mod_isEnough_25 rfl rfl ?_
      refine jm_iconst jd_Mod_isEnough_26 (jm_o32c rfl) ?_
      refine jm_ixor jd_Mod_isEnough_27 ?_
      refine jm_iand jd_Mod_isEnough_28 ?_
      refine jm_cS (M' := jm_m_Mod_count) (d' := 0) (av := [jm_I (jv_and (h 110 (Int.toNat x4)) (jv_xor x1 (-1)))]) jd_Mod_isEnough_29 jk_Mod_count jw_1198 rfl (by omega) ⟨rfl, rfl⟩ (by decide) (Nat.le_of_ble_eq_true rfl) (jm_hqI (fun v4 h4 H => ?_)) H
      refine jm_iload_n jd_Mod_isEnough_32 rfl rfl ?_
      refine jm_icmp_gt (tgt := 40) jd_Mod_isEnough_33 rfl (fun hc5 => ?_) (fun hc5 => ?_)
      · replace H := H.1 hc5
        refine jm_iconst jd_Mod_isEnough_40 (jm_o32c rfl) ?_
        refine jm_istore_n (i := 3) jd_Mod_isEnough_41 rfl (by decide) (ls2 := [some (jm_R 78), some (jm_I x1), some (jm_I x2), some (jm_I 0), some (jm_I x4)]) rfl ?_
        refine jm_iinc jd_Mod_isEnough_42 rfl (by decide) (ls2 := [some (jm_R 78), some (jm_I x1), some (jm_I x2), some (jm_I 0), some (jm_I (jm_w32 (x4 + 1)))]) rfl ?_
        refine jm_goto (tgt := 5) jd_Mod_isEnough_45 rfl ?_
        exact H
      · replace H := H.2 hc5
        refine jm_iconst jd_Mod_isEnough_36 (jm_o32c rfl) ?_
        refine jm_goto (tgt := 41) jd_Mod_isEnough_37 rfl ?_
        refine jm_istore_n (i := 3) jd_Mod_isEnough_41 rfl (by decide) (ls2 := [some (jm_R 78), some (jm_I x1), some (jm_I x2), some (jm_I 1), some (jm_I x4)]) rfl ?_
        refine jm_iinc jd_Mod_isEnough_42 rfl (by decide) (ls2 := [some (jm_R 78), some (jm_I x1), some (jm_I x2), some (jm_I 1), some (jm_I (jm_w32 (x4 + 1)))]) rfl ?_
        refine jm_goto (tgt := 5) jd_Mod_isEnough_45 rfl ?_
        exact H
set_option maxRecDepth 4000 in
theorem jb_Mod_spilled {E : jm_Env} {x1 x2 : Int} {h : jm_H} {K : Int → jm_H → Prop} (H : jm_CI E jm_SH jm_m_Mod_in 0 [jm_L x1, jm_L 0, jm_L 12] h (fun v1 h1 => ((v1 = 0) → K (-2) h1) ∧ ((¬ v1 = 0) → jm_CI E jm_SH jm_m_Mod_in 0 [jm_L x2, jm_L 0, jm_L 1] h1 (fun v3 h3 => ((¬ v3 = 0) → jm_BI E jm_SH jm_m_Mod_spilled 3 27 [some (jm_R 78), some (jm_I x1), some (jm_I x2), some (jm_I 0), none, none] [] h3 K) ∧ ((v3 = 0) → K (-2) h3))))) : jm_CI E jm_SH jm_m_Mod_spilled 3 [jm_R 78, jm_I x1, jm_I x2] h K := by
  refine jm_body (ls0 := [some (jm_R 78), some (jm_I x1), some (jm_I x2), none, none, none]) (by decide +kernel) rfl rfl (Nat.le_of_ble_eq_true rfl) ?_
  refine jm_iload_n jd_Mod_spilled_0 rfl rfl ?_
  refine jm_i2l jd_Mod_spilled_1 ?_
  refine jm_lconst (x := 0) jd_Mod_spilled_2 ⟨by decide, jm_o64c rfl⟩ ?_
  refine jm_ldc2 (x := 12) jd_Mod_spilled_3 jc_1205 (jm_o64c rfl) ?_
  refine jm_cS (M' := jm_m_Mod_in) (d' := 0) (av := [jm_L x1, jm_L 0, jm_L 12]) jd_Mod_spilled_6 jk_Mod_in jw_978 rfl (by omega) ⟨rfl, rfl⟩ (by decide) (Nat.le_of_ble_eq_true rfl) (jm_hqI (fun v1 h1 H => ?_)) H
  refine jm_if_eq (tgt := 22) jd_Mod_spilled_9 rfl (fun hc2 => ?_) (fun hc2 => ?_)
  · replace H := H.1 hc2
    refine jm_bipush jd_Mod_spilled_22 jb_m2 ?_
    exact jm_ireturn jd_Mod_spilled_24 rfl (by decide) ⟨rfl, _, rfl, H⟩
  · replace H := H.2 hc2
    refine jm_iload_n jd_Mod_spilled_12 rfl rfl ?_
    refine jm_i2l jd_Mod_spilled_13 ?_
    refine jm_lconst (x := 0) jd_Mod_spilled_14 ⟨by decide, jm_o64c rfl⟩ ?_
    refine jm_lconst (x := 1) jd_Mod_spilled_15 ⟨by decide, jm_o64c rfl⟩ ?_
    refine jm_cS (M' := jm_m_Mod_in) (d' := 0) (av := [jm_L x2, jm_L 0, jm_L 1]) jd_Mod_spilled_16 jk_Mod_in jw_978 rfl (by omega) ⟨rfl, rfl⟩ (by decide) (Nat.le_of_ble_eq_true rfl) (jm_hqI (fun v3 h3 H => ?_)) H
    refine jm_if_ne (tgt := 25) jd_Mod_spilled_19 rfl (fun hc4 => ?_) (fun hc4 => ?_)
    · replace H := H.1 hc4
      refine jm_iconst jd_Mod_spilled_25 (jm_o32c rfl) ?_
      refine jm_istore_n (i := 3) jd_Mod_spilled_26 rfl (by decide) (ls2 := [some (jm_R 78), some (jm_I x1), some (jm_I x2), some (jm_I 0), none, none]) rfl ?_
      exact H
    · replace H := H.2 hc4
      refine jm_bipush jd_Mod_spilled_22 jb_m2 ?_
      exact jm_ireturn jd_Mod_spilled_24 rfl (by decide) ⟨rfl, _, rfl, H⟩
set_option maxRecDepth 4000 in
theorem jb_Mod_spilled_27 {E : jm_Env} {x1 x2 x3 : Int} {h : jm_H} {K : Int → jm_H → Prop} (H : ((h 78 32 ≤ x3) → jm_BI E jm_SH jm_m_Mod_spilled 3 58 [some (jm_R 78), some (jm_I x1), some (jm_I x2), some (jm_I (-6)), some (jm_I 0), none] [] h K) ∧ ((¬ h 78 32 ≤ x3) → jm_CI E jm_SH jm_m_Mod_placeOf 2 [jm_R 78, jm_I x3] h (fun v2 h2 => (0 ≤ x3 ∧ x3 < 12) ∧ (jm_BI E jm_SH jm_m_Mod_spilled 3 27 [some (jm_R 78), some (jm_I x1), some (jm_I x2), some (jm_I (jm_w32 (x3 + 1))), none, none] [] (jm_up h2 110 (Int.toNat x3) v2) K)))) : jm_BI E jm_SH jm_m_Mod_spilled 3 27 [some (jm_R 78), some (jm_I x1), some (jm_I x2), some (jm_I x3), none, none] [] h K := by
  refine jm_iload_n jd_Mod_spilled_27 rfl rfl ?_
  refine jm_aload_n jd_Mod_spilled_28 rfl rfl ?_
  refine jm_gI jd_Mod_spilled_29 jf_Mod_231 jm_SH_78 ?_
  refine jm_icmp_ge (tgt := 52) jd_Mod_spilled_32 rfl (fun hc1 => ?_) (fun hc1 => ?_)
  · replace H := H.1 hc1
    refine jm_bipush jd_Mod_spilled_52 jb_m6 ?_
    refine jm_istore_n (i := 3) jd_Mod_spilled_54 rfl (by decide) (ls2 := [some (jm_R 78), some (jm_I x1), some (jm_I x2), some (jm_I (-6)), none, none]) rfl ?_
    refine jm_iconst jd_Mod_spilled_55 (jm_o32c rfl) ?_
    refine jm_istore (i := 4) jd_Mod_spilled_56 (by decide) (ls2 := [some (jm_R 78), some (jm_I x1), some (jm_I x2), some (jm_I (-6)), some (jm_I 0), none]) rfl ?_
    exact H
  · replace H := H.2 hc1
    refine jm_aload_n jd_Mod_spilled_35 rfl rfl ?_
    refine jm_gR jd_Mod_spilled_36 jf_Mod_103 jm_SH_78 rfl ?_
    refine jm_iload_n jd_Mod_spilled_39 rfl rfl ?_
    refine jm_aload_n jd_Mod_spilled_40 rfl rfl ?_
    refine jm_iload_n jd_Mod_spilled_41 rfl rfl ?_
    refine jm_cV (M' := jm_m_Mod_placeOf) (d' := 2) (av := [jm_I x3]) jd_Mod_spilled_42 jk_Mod_placeOf jw_1190 rfl (by omega) ⟨rfl, rfl⟩ (by decide) (Nat.le_of_ble_eq_true rfl) jm_SH_78 rfl rfl (jm_hqI (fun v2 h2 H => ?_)) H
    obtain ⟨hb3, H⟩ := H
    refine jm_iastore jd_Mod_spilled_45 jm_SH_110 hb3 ?_
    refine jm_iinc jd_Mod_spilled_46 rfl (by decide) (ls2 := [some (jm_R 78), some (jm_I x1), some (jm_I x2), some (jm_I (jm_w32 (x3 + 1))), none, none]) rfl ?_
    refine jm_goto (tgt := 27) jd_Mod_spilled_49 rfl ?_
    exact H
set_option maxRecDepth 4000 in
theorem jb_Mod_spilled_58 {E : jm_Env} {x1 x2 x3 x4 : Int} {h : jm_H} {K : Int → jm_H → Prop} (H : ((jv_shl 1 (h 78 32) ≤ x4) → ((¬ x2 = 0) → jm_CI E jm_SH jm_m_Mod_weightOf 0 [jm_R 78, jm_I x3] h (fun v3 h3 => K v3 h3)) ∧ ((x2 = 0) → K x3 h)) ∧ ((¬ jv_shl 1 (h 78 32) ≤ x4) → ((x3 < 0) → jm_BI E jm_SH jm_m_Mod_spilled 3 87 [some (jm_R 78), some (jm_I x1), some (jm_I x2), some (jm_I x3), some (jm_I x4), none] [] h K) ∧ ((¬ x3 < 0) → jm_CI E jm_SH jm_m_Mod_weightOf 0 [jm_R 78, jm_I x4] h (fun v5 h5 => jm_CI E jm_SH jm_m_Mod_weightOf 0 [jm_R 78, jm_I x3] h5 (fun v6 h6 => ((v6 ≤ v5) → jm_BI E jm_SH jm_m_Mod_spilled 3 58 [some (jm_R 78), some (jm_I x1), some (jm_I x2), some (jm_I x3), some (jm_I (jm_w32 (x4 + 1))), none] [] h6 K) ∧ ((¬ v6 ≤ v5) → jm_BI E jm_SH jm_m_Mod_spilled 3 87 [some (jm_R 78), some (jm_I x1), some (jm_I x2), some (jm_I x3), some (jm_I x4), none] [] h6 K)))))) : jm_BI E jm_SH jm_m_Mod_spilled 3 58 [some (jm_R 78), some (jm_I x1), some (jm_I x2), some (jm_I x3), some (jm_I x4), none] [] h K := by
  refine jm_iload jd_Mod_spilled_58 rfl ?_
  refine jm_iconst jd_Mod_spilled_60 (jm_o32c rfl) ?_
  refine jm_aload_n jd_Mod_spilled_61 rfl rfl ?_
  refine jm_gI jd_Mod_spilled_62 jf_Mod_231 jm_SH_78 ?_
  refine jm_ishl jd_Mod_spilled_65 ?_
  refine jm_icmp_ge (tgt := 122) jd_Mod_spilled_66 rfl (fun hc1 => ?_) (fun hc1 => ?_)
  · replace H := H.1 hc1
    refine jm_iload_n jd_Mod_spilled_122 rfl rfl ?_
    refine jm_if_ne (tgt := 130) jd_Mod_spilled_123 rfl (fun hc2 => ?_) (fun hc2 => ?_)
    · replace H := H.1 hc2
      refine jm_aload_n jd_Mod_spilled_130 rfl rfl ?_
      refine jm_iload_n jd_Mod_spilled_131 rfl rfl ?_
      refine jm_cV (M' := jm_m_Mod_weightOf) (d' := 0) (av := [jm_I x3]) jd_Mod_spilled_132 jk_Mod_weightOf jw_1206 rfl (by omega) ⟨rfl, rfl⟩ (by decide) (Nat.le_of_ble_eq_true rfl) jm_SH_78 rfl rfl (jm_hqI (fun v3 h3 H => ?_)) H
      exact jm_ireturn jd_Mod_spilled_135 rfl (by decide) ⟨rfl, _, rfl, H⟩
    · replace H := H.2 hc2
      refine jm_iload_n jd_Mod_spilled_126 rfl rfl ?_
      refine jm_goto (tgt := 135) jd_Mod_spilled_127 rfl ?_
      exact jm_ireturn jd_Mod_spilled_135 rfl (by decide) ⟨rfl, _, rfl, H⟩
  · replace H := H.2 hc1
    refine jm_iload_n jd_Mod_spilled_69 rfl rfl ?_
    refine jm_if_lt (tgt := 87) jd_Mod_spilled_70 rfl (fun hc4 => ?_) (fun hc4 => ?_)
    · replace H := H.1 hc4
      exact H
    · replace H := H.2 hc4
      refine jm_aload_n jd_Mod_spilled_73 rfl rfl ?_
      refine jm_iload jd_Mod_spilled_74 rfl ?_
      refine jm_cV (M' := jm_m_Mod_weightOf) (d' := 0) (av := [jm_I x4]) jd_Mod_spilled_76 jk_Mod_weightOf jw_1206 rfl (by omega) ⟨rfl, rfl⟩ (by decide) (Nat.le_of_ble_eq_true rfl) jm_SH_78 rfl rfl (jm_hqI (fun v5 h5 H => ?_)) H
      refine jm_aload_n jd_Mod_spilled_79 rfl rfl ?_
      refine jm_iload_n jd_Mod_spilled_80 rfl rfl ?_
      refine jm_cV (M' := jm_m_Mod_weightOf) (d' := 0) (av := [jm_I x3]) jd_Mod_spilled_81 jk_Mod_weightOf jw_1206 rfl (by omega) ⟨rfl, rfl⟩ (by decide) (Nat.le_of_ble_eq_true rfl) jm_SH_78 rfl rfl (jm_hqI (fun v6 h6 H => ?_)) H
      refine jm_icmp_ge (tgt := 91) jd_Mod_spilled_84 rfl (fun hc7 => ?_) (fun hc7 => ?_)
      · replace H := H.1 hc7
        refine jm_iconst jd_Mod_spilled_91 (jm_o32c rfl) ?_
        refine jm_istore (i := 5) jd_Mod_spilled_92 (by decide) (ls2 := [some (jm_R 78), some (jm_I x1), some (jm_I x2), some (jm_I x3), some (jm_I x4), some (jm_I 0)]) rfl ?_
        refine jm_iload jd_Mod_spilled_94 rfl ?_
        refine jm_if_eq (tgt := 114) jd_Mod_spilled_96 rfl (fun hc8 => ?_) (fun hc8 => ?_)
        · refine jm_iload_n jd_Mod_spilled_114 rfl rfl ?_
          refine jm_istore_n (i := 3) jd_Mod_spilled_115 rfl (by decide) (ls2 := [some (jm_R 78), some (jm_I x1), some (jm_I x2), some (jm_I x3), some (jm_I x4), some (jm_I 0)]) rfl ?_
          refine jm_iinc jd_Mod_spilled_116 rfl (by decide) (ls2 := [some (jm_R 78), some (jm_I x1), some (jm_I x2), some (jm_I x3), some (jm_I (jm_w32 (x4 + 1))), some (jm_I 0)]) rfl ?_
          refine jm_goto (tgt := 58) jd_Mod_spilled_119 rfl ?_
          refine jm_keepG [true, true, true, true, true, false] (ls2 := [some (jm_R 78), some (jm_I x1), some (jm_I x2), some (jm_I x3), some (jm_I (jm_w32 (x4 + 1))), none]) (by rfl) (by rfl) ?_
          exact H
        · exact absurd hc8 (by decide)
      · replace H := H.2 hc7
        exact H
set_option maxRecDepth 4000 in
theorem jb_Mod_spilled_87 {E : jm_Env} {x1 x2 x3 x4 : Int} {h : jm_H} {K : Int → jm_H → Prop} (H : jm_CI E jm_SH jm_m_Mod_isEnough 1 [jm_R 78, jm_I x4, jm_I x1] h (fun v2 h2 => ((v2 = 0) → jm_BI E jm_SH jm_m_Mod_spilled 3 58 [some (jm_R 78), some (jm_I x1), some (jm_I x2), some (jm_I x3), some (jm_I (jm_w32 (x4 + 1))), none] [] h2 K) ∧ ((¬ v2 = 0) → jm_BI E jm_SH jm_m_Mod_spilled 3 58 [some (jm_R 78), some (jm_I x1), some (jm_I x2), some (jm_I x4), some (jm_I (jm_w32 (x4 + 1))), none] [] h2 K))) : jm_BI E jm_SH jm_m_Mod_spilled 3 87 [some (jm_R 78), some (jm_I x1), some (jm_I x2), some (jm_I x3), some (jm_I x4), none] [] h K := by
  refine jm_iconst jd_Mod_spilled_87 (jm_o32c rfl) ?_
  refine jm_goto (tgt := 92) jd_Mod_spilled_88 rfl ?_
  refine jm_istore (i := 5) jd_Mod_spilled_92 (by decide) (ls2 := [some (jm_R 78), some (jm_I x1), some (jm_I x2), some (jm_I x3), some (jm_I x4), some (jm_I 1)]) rfl ?_
  refine jm_iload jd_Mod_spilled_94 rfl ?_
  refine jm_if_eq (tgt := 114) jd_Mod_spilled_96 rfl (fun hc1 => ?_) (fun hc1 => ?_)
  · exact absurd hc1 (by decide)
  · refine jm_aload_n jd_Mod_spilled_99 rfl rfl ?_
    refine jm_iload jd_Mod_spilled_100 rfl ?_
    refine jm_iload_n jd_Mod_spilled_102 rfl rfl ?_
    refine jm_cV (M' := jm_m_Mod_isEnough) (d' := 1) (av := [jm_I x4, jm_I x1]) jd_Mod_spilled_103 jk_Mod_isEnough jw_1210 rfl (by omega) ⟨rfl, rfl⟩ (by decide) (Nat.le_of_ble_eq_true rfl) jm_SH_78 rfl rfl (jm_hqI (fun v2 h2 H => ?_)) H
    refine jm_if_eq (tgt := 114) jd_Mod_spilled_106 rfl (fun hc3 => ?_) (fun hc3 => ?_)
    · replace H := H.1 hc3
      refine jm_iload_n jd_Mod_spilled_114 rfl rfl ?_
      refine jm_istore_n (i := 3) jd_Mod_spilled_115 rfl (by decide) (ls2 := [some (jm_R 78), some (jm_I x1), some (jm_I x2), some (jm_I x3), some (jm_I x4), some (jm_I 1)]) rfl ?_
      refine jm_iinc jd_Mod_spilled_116 rfl (by decide) (ls2 := [some (jm_R 78), some (jm_I x1), some (jm_I x2), some (jm_I x3), some (jm_I (jm_w32 (x4 + 1))), some (jm_I 1)]) rfl ?_
      refine jm_goto (tgt := 58) jd_Mod_spilled_119 rfl ?_
      refine jm_keepG [true, true, true, true, true, false] (ls2 := [some (jm_R 78), some (jm_I x1), some (jm_I x2), some (jm_I x3), some (jm_I (jm_w32 (x4 + 1))), none]) (by rfl) (by rfl) ?_
      exact H
    · replace H := H.2 hc3
      refine jm_iload jd_Mod_spilled_109 rfl ?_
      refine jm_goto (tgt := 115) jd_Mod_spilled_111 rfl ?_
      refine jm_istore_n (i := 3) jd_Mod_spilled_115 rfl (by decide) (ls2 := [some (jm_R 78), some (jm_I x1), some (jm_I x2), some (jm_I x4), some (jm_I x4), some (jm_I 1)]) rfl ?_
      refine jm_iinc jd_Mod_spilled_116 rfl (by decide) (ls2 := [some (jm_R 78), some (jm_I x1), some (jm_I x2), some (jm_I x4), some (jm_I (jm_w32 (x4 + 1))), some (jm_I 1)]) rfl ?_
      refine jm_goto (tgt := 58) jd_Mod_spilled_119 rfl ?_
      refine jm_keepG [true, true, true, true, true, false] (ls2 := [some (jm_R 78), some (jm_I x1), some (jm_I x2), some (jm_I x4), some (jm_I (jm_w32 (x4 + 1))), none]) (by rfl) (by rfl) ?_
      exact H
