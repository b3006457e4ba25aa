set_option maxRecDepth 4000 in
theorem jb_Search_doesAll {E : jm_Env} {x1 : Int} {h : jm_H} {K : Int → jm_H → Prop} (H : jm_BI E jm_SH jm_m_Search_doesAll 2 2 [some (jm_R 61), some (jm_I x1), some (jm_I 0), none] [] h K) : jm_CI E jm_SH jm_m_Search_doesAll 2 [jm_R 61, jm_I x1] h K := by
  refine jm_body (ls0 := [some (jm_R 61), some (jm_I x1), none, none]) (by decide +kernel) rfl rfl (Nat.le_of_ble_eq_true rfl) ?_
  refine jm_iconst jd_Search_doesAll_0 (jm_o32c rfl) ?_
  refine jm_istore_n (i := 2) jd_Search_doesAll_1 rfl (by decide) (ls2 := [some (jm_R 61), some (jm_I x1), some (jm_I 0), none]) rfl ?_
  exact H
set_option maxRecDepth 4000 in
theorem jb_Search_doesAll_2 {E : jm_Env} {x1 x2 : Int} {h : jm_H} {K : Int → jm_H → Prop} (H : ((16 ≤ x2) → K 1 h) ∧ ((¬ 16 ≤ x2) → jm_CV E jm_SH jm_m_Search_begin 1 [jm_R 73, jm_I x2] h (fun h2 => jm_BI E jm_SH jm_m_Search_doesAll 2 18 [some (jm_R 61), some (jm_I x1), some (jm_I x2), some (jm_I 0)] [] h2 K))) : jm_BI E jm_SH jm_m_Search_doesAll 2 2 [some (jm_R 61), some (jm_I x1), some (jm_I x2), none] [] h K := by
  refine jm_iload_n jd_Search_doesAll_2 rfl rfl ?_
  refine jm_bipush jd_Search_doesAll_3 jb_16 ?_
  refine jm_icmp_ge (tgt := 95) jd_Search_doesAll_5 rfl (fun hc1 => ?_) (fun hc1 => ?_)
  · replace H := H.1 hc1
    refine jm_iconst jd_Search_doesAll_95 (jm_o32c rfl) ?_
    exact jm_zreturn jd_Search_doesAll_96 rfl (Or.inr rfl) (by decide) ⟨rfl, _, rfl, H⟩
  · replace H := H.2 hc1
    refine jm_aload_n jd_Search_doesAll_8 rfl rfl ?_
    refine jm_gR jd_Search_doesAll_9 jf_Search_25 jm_SH_61 rfl ?_
    refine jm_iload_n jd_Search_doesAll_12 rfl rfl ?_
    refine jm_cS (M' := jm_m_Search_begin) (d' := 1) (av := [jm_R 73, jm_I x2]) jd_Search_doesAll_13 jk_Search_begin jw_782 rfl (by omega) ⟨rfl, rfl⟩ (by decide) (Nat.le_of_ble_eq_true rfl) (jm_hqV (fun h2 H => ?_)) H
    refine jm_iconst jd_Search_doesAll_16 (jm_o32c rfl) ?_
    refine jm_istore_n (i := 3) jd_Search_doesAll_17 rfl (by decide) (ls2 := [some (jm_R 61), some (jm_I x1), some (jm_I x2), some (jm_I 0)]) rfl ?_
    exact H
set_option maxRecDepth 4000 in
theorem jb_Search_doesAll_18 {E : jm_Env} {x1 x2 x3 : Int} {h : jm_H} {K : Int → jm_H → Prop} (H : ((x1 ≤ x3) → (0 ≤ x2 ∧ x2 < 16) ∧ (((jv_lcmp (h 73 0) (h 68 (Int.toNat x2)) = 0) → jm_BI E jm_SH jm_m_Search_doesAll 2 2 [some (jm_R 61), some (jm_I x1), some (jm_I (jm_w32 (x2 + 1))), none] [] h K) ∧ ((¬ jv_lcmp (h 73 0) (h 68 (Int.toNat x2)) = 0) → K 0 h))) ∧ ((¬ x1 ≤ x3) → (0 ≤ x3 ∧ x3 < 3) ∧ ((0 ≤ x3 ∧ x3 < 3) ∧ ((0 ≤ x3 ∧ x3 < 3) ∧ ((0 ≤ h 76 (Int.toNat x3) ∧ h 76 (Int.toNat x3) < 3) ∧ ((0 ≤ x3 ∧ x3 < 3) ∧ ((0 ≤ h 77 (Int.toNat x3) ∧ h 77 (Int.toNat x3) < 3) ∧ (jm_CL E jm_SH jm_m_Machine_result 0 [jm_I (h 74 (Int.toNat x3)), jm_L (h 73 (Int.toNat (h 76 (Int.toNat x3)))), jm_L (h 73 (Int.toNat (h 77 (Int.toNat x3))))] h (fun v10 h10 => (0 ≤ h 75 (Int.toNat x3) ∧ h 75 (Int.toNat x3) < 3) ∧ (jm_BI E jm_SH jm_m_Search_doesAll 2 18 [some (jm_R 61), some (jm_I x1), some (jm_I x2), some (jm_I (jm_w32 (x3 + 1)))] [] (jm_up h10 73 (Int.toNat (h 75 (Int.toNat x3))) v10) K)))))))))) : jm_BI E jm_SH jm_m_Search_doesAll 2 18 [some (jm_R 61), some (jm_I x1), some (jm_I x2), some (jm_I x3)] [] h K := by
  refine jm_iload_n jd_Search_doesAll_18 rfl rfl ?_
  refine jm_iload_n jd_Search_doesAll_19 rfl rfl ?_
  refine jm_icmp_ge (tgt := 71) jd_Search_doesAll_20 rfl (fun hc1 => ?_) (fun hc1 => ?_)
  · replace H := H.1 hc1
    refine jm_aload_n jd_Search_doesAll_71 rfl rfl ?_
    refine jm_gR jd_Search_doesAll_72 jf_Search_25 jm_SH_61 rfl ?_
    refine jm_iconst jd_Search_doesAll_75 (jm_o32c rfl) ?_
    refine jm_laload jd_Search_doesAll_76 jm_SH_73 (by decide) ?_
    refine jm_topL (y := h 73 0) rfl ?_
    refine jm_aload_n jd_Search_doesAll_77 rfl rfl ?_
    refine jm_gR jd_Search_doesAll_78 jf_Search_16 jm_SH_61 rfl ?_
    refine jm_iload_n jd_Search_doesAll_81 rfl rfl ?_
    obtain ⟨hb2, H⟩ := H
    refine jm_laload jd_Search_doesAll_82 jm_SH_68 hb2 ?_
    refine jm_lcmp jd_Search_doesAll_83 ?_
    refine jm_if_eq (tgt := 89) jd_Search_doesAll_84 rfl (fun hc3 => ?_) (fun hc3 => ?_)
    · replace H := H.1 hc3
      refine jm_iinc jd_Search_doesAll_89 rfl (by decide) (ls2 := [some (jm_R 61), some (jm_I x1), some (jm_I (jm_w32 (x2 + 1))), some (jm_I x3)]) rfl ?_
      refine jm_goto (tgt := 2) jd_Search_doesAll_92 rfl ?_
      refine jm_keepG [true, true, true, false] (ls2 := [some (jm_R 61), some (jm_I x1), some (jm_I (jm_w32 (x2 + 1))), none]) (by rfl) (by rfl) ?_
      exact H
    · replace H := H.2 hc3
      refine jm_iconst jd_Search_doesAll_87 (jm_o32c rfl) ?_
      exact jm_zreturn jd_Search_doesAll_88 rfl (Or.inl rfl) (by decide) ⟨rfl, _, rfl, H⟩
  · replace H := H.2 hc1
    refine jm_aload_n jd_Search_doesAll_23 rfl rfl ?_
    refine jm_gR jd_Search_doesAll_24 jf_Search_25 jm_SH_61 rfl ?_
    refine jm_aload_n jd_Search_doesAll_27 rfl rfl ?_
    refine jm_gR jd_Search_doesAll_28 jf_Search_32 jm_SH_61 rfl ?_
    refine jm_iload_n jd_Search_doesAll_31 rfl rfl ?_
    obtain ⟨hb4, H⟩ := H
    refine jm_iaload jd_Search_doesAll_32 jm_SH_75 hb4 ?_
    refine jm_aload_n jd_Search_doesAll_33 rfl rfl ?_
    refine jm_gR jd_Search_doesAll_34 jf_Search_28 jm_SH_61 rfl ?_
    refine jm_iload_n jd_Search_doesAll_37 rfl rfl ?_
    obtain ⟨hb5, H⟩ := H
    refine jm_iaload jd_Search_doesAll_38 jm_SH_74 hb5 ?_
    refine jm_aload_n jd_Search_doesAll_39 rfl rfl ?_
    refine jm_gR jd_Search_doesAll_40 jf_Search_25 jm_SH_61 rfl ?_
    refine jm_aload_n jd_Search_doesAll_43 rfl rfl ?_
    refine jm_gR jd_Search_doesAll_44 jf_Search_35 jm_SH_61 rfl ?_
    refine jm_iload_n jd_Search_doesAll_47 rfl rfl ?_
    obtain ⟨hb6, H⟩ := H
    refine jm_iaload jd_Search_doesAll_48 jm_SH_76 hb6 ?_
    obtain ⟨hb7, H⟩ := H
    refine jm_laload jd_Search_doesAll_49 jm_SH_73 hb7 ?_
    refine jm_aload_n jd_Search_doesAll_50 rfl rfl ?_
    refine jm_gR jd_Search_doesAll_51 jf_Search_25 jm_SH_61 rfl ?_
    refine jm_aload_n jd_Search_doesAll_54 rfl rfl ?_
    refine jm_gR jd_Search_doesAll_55 jf_Search_38 jm_SH_61 rfl ?_
    refine jm_iload_n jd_Search_doesAll_58 rfl rfl ?_
    obtain ⟨hb8, H⟩ := H
    refine jm_iaload jd_Search_doesAll_59 jm_SH_77 hb8 ?_
    obtain ⟨hb9, H⟩ := H
    refine jm_laload jd_Search_doesAll_60 jm_SH_73 hb9 ?_
    refine jm_cS (M' := jm_m_Machine_result) (d' := 0) (av := [jm_I (h 74 (Int.toNat x3)), jm_L (h 73 (Int.toNat (h 76 (Int.toNat x3)))), jm_L (h 73 (Int.toNat (h 77 (Int.toNat x3))))]) jd_Search_doesAll_61 jk_Machine_result jw_796 rfl (by omega) ⟨rfl, rfl⟩ (by decide) (Nat.le_of_ble_eq_true rfl) (jm_hqL (fun v10 h10 H => ?_)) H
    obtain ⟨hb11, H⟩ := H
    refine jm_lastore jd_Search_doesAll_64 jm_SH_73 hb11 ?_
    refine jm_iinc jd_Search_doesAll_65 rfl (by decide) (ls2 := [some (jm_R 61), some (jm_I x1), some (jm_I x2), some (jm_I (jm_w32 (x3 + 1)))]) rfl ?_
    refine jm_goto (tgt := 18) jd_Search_doesAll_68 rfl ?_
    exact H
