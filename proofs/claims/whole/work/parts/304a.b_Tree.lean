set_option maxRecDepth 4000 in
theorem jb_Tree_has {E : jm_Env} {x1 : Int} {h : jm_H} {K : Int → jm_H → Prop} (H : ((x1 < 0) → K 0 h) ∧ ((¬ x1 < 0) → ((h 4 4 ≤ x1) → K 0 h) ∧ ((¬ h 4 4 ≤ x1) → K 1 h))) : jm_CI E jm_SH jm_m_Tree_has 0 [jm_R 4, jm_I x1] h K := by
  refine jm_body (ls0 := [some (jm_R 4), some (jm_I x1)]) (by decide +kernel) rfl rfl (Nat.le_of_ble_eq_true rfl) ?_
  refine jm_iload_n jd_Tree_has_0 rfl rfl ?_
  refine jm_if_lt (tgt := 16) jd_Tree_has_1 rfl (fun hc1 => ?_) (fun hc1 => ?_)
  · replace H := H.1 hc1
    refine jm_iconst jd_Tree_has_16 (jm_o32c rfl) ?_
    exact jm_zreturn jd_Tree_has_17 rfl (Or.inl rfl) (by decide) ⟨rfl, _, rfl, H⟩
  · replace H := H.2 hc1
    refine jm_iload_n jd_Tree_has_4 rfl rfl ?_
    refine jm_aload_n jd_Tree_has_5 rfl rfl ?_
    refine jm_gI jd_Tree_has_6 jf_Tree_22 jm_SH_4 ?_
    refine jm_icmp_ge (tgt := 16) jd_Tree_has_9 rfl (fun hc2 => ?_) (fun hc2 => ?_)
    · replace H := H.1 hc2
      refine jm_iconst jd_Tree_has_16 (jm_o32c rfl) ?_
      exact jm_zreturn jd_Tree_has_17 rfl (Or.inl rfl) (by decide) ⟨rfl, _, rfl, H⟩
    · replace H := H.2 hc2
      refine jm_iconst jd_Tree_has_12 (jm_o32c rfl) ?_
      refine jm_goto (tgt := 17) jd_Tree_has_13 rfl ?_
      exact jm_zreturn jd_Tree_has_17 rfl (Or.inr rfl) (by decide) ⟨rfl, _, rfl, H⟩
set_option maxRecDepth 4000 in
theorem jb_Tree_take {E : jm_Env} {h : jm_H} {K : jm_H → Prop} (H : jm_BV E jm_SH jm_m_Tree_take 3 15 [some (jm_R 4), some (jm_R 1), some (jm_I 0)] [] (jm_up h 4 4 (min (h 1 2) 30)) K) : jm_CV E jm_SH jm_m_Tree_take 3 [jm_R 4, jm_R 1] h K := by
  refine jm_body (ls0 := [some (jm_R 4), some (jm_R 1), none]) (by decide +kernel) rfl rfl (Nat.le_of_ble_eq_true rfl) ?_
  refine jm_aload_n jd_Tree_take_0 rfl rfl ?_
  refine jm_aload_n jd_Tree_take_1 rfl rfl ?_
  refine jm_gI jd_Tree_take_2 jf_Tree_26 jm_SH_1 ?_
  refine jm_bipush jd_Tree_take_5 jb_30 ?_
  refine jm_min jd_Tree_take_7 jw_447 jw_448 jw_13 jw_449 (by omega) (by decide) (Nat.le_of_ble_eq_true rfl) ?_
  refine jm_sI jd_Tree_take_10 jp_Tree_22 jm_SH_4 ?_
  refine jm_iconst jd_Tree_take_13 (jm_o32c rfl) ?_
  refine jm_istore_n (i := 2) jd_Tree_take_14 rfl (by decide) (ls2 := [some (jm_R 4), some (jm_R 1), some (jm_I 0)]) rfl ?_
  exact H
set_option maxRecDepth 4000 in
theorem jb_Tree_take_15 {E : jm_Env} {x2 : Int} {h : jm_H} {K : jm_H → Prop} (H : ((h 4 4 ≤ x2) → jm_BV E jm_SH jm_m_Tree_take 3 55 [some (jm_R 4), none, some (jm_I (jm_w32 ((h 4 4) - 1)))] [] h K) ∧ ((¬ h 4 4 ≤ x2) → (0 ≤ x2 ∧ x2 < 60) ∧ ((0 ≤ x2 ∧ x2 < 30) ∧ ((0 ≤ x2 ∧ x2 < 30) ∧ (jm_BV E jm_SH jm_m_Tree_take 3 15 [some (jm_R 4), some (jm_R 1), some (jm_I (jm_w32 (x2 + 1)))] [] (jm_up (jm_up h 5 (Int.toNat x2) (h 2 (Int.toNat x2))) 6 (Int.toNat x2) (-1)) K))))) : jm_BV E jm_SH jm_m_Tree_take 3 15 [some (jm_R 4), some (jm_R 1), some (jm_I x2)] [] h K := by
  refine jm_iload_n jd_Tree_take_15 rfl rfl ?_
  refine jm_aload_n jd_Tree_take_16 rfl rfl ?_
  refine jm_gI jd_Tree_take_17 jf_Tree_22 jm_SH_4 ?_
  refine jm_icmp_ge (tgt := 48) jd_Tree_take_20 rfl (fun hc1 => ?_) (fun hc1 => ?_)
  · replace H := H.1 hc1
    refine jm_aload_n jd_Tree_take_48 rfl rfl ?_
    refine jm_gI jd_Tree_take_49 jf_Tree_22 jm_SH_4 ?_
    refine jm_iconst jd_Tree_take_52 (jm_o32c rfl) ?_
    refine jm_isub jd_Tree_take_53 ?_
    refine jm_istore_n (i := 2) jd_Tree_take_54 rfl (by decide) (ls2 := [some (jm_R 4), some (jm_R 1), some (jm_I (jm_w32 ((h 4 4) - 1)))]) rfl ?_
    refine jm_keepG [true, false, true] (ls2 := [some (jm_R 4), none, some (jm_I (jm_w32 ((h 4 4) - 1)))]) (by rfl) (by rfl) ?_
    exact H
  · replace H := H.2 hc1
    refine jm_aload_n jd_Tree_take_23 rfl rfl ?_
    refine jm_gR jd_Tree_take_24 jf_Tree_9 jm_SH_4 rfl ?_
    refine jm_iload_n jd_Tree_take_27 rfl rfl ?_
    refine jm_aload_n jd_Tree_take_28 rfl rfl ?_
    refine jm_gR jd_Tree_take_29 jf_Tree_35 jm_SH_1 rfl ?_
    refine jm_iload_n jd_Tree_take_32 rfl rfl ?_
    obtain ⟨hb2, H⟩ := H
    refine jm_iaload jd_Tree_take_33 jm_SH_2 hb2 ?_
    obtain ⟨hb3, H⟩ := H
    refine jm_iastore jd_Tree_take_34 jm_SH_5 hb3 ?_
    refine jm_aload_n jd_Tree_take_35 rfl rfl ?_
    refine jm_gR jd_Tree_take_36 jf_Tree_13 jm_SH_4 rfl ?_
    refine jm_iload_n jd_Tree_take_39 rfl rfl ?_
    refine jm_iconst jd_Tree_take_40 (jm_o32c rfl) ?_
    obtain ⟨hb4, H⟩ := H
    refine jm_iastore jd_Tree_take_41 jm_SH_6 hb4 ?_
    refine jm_iinc jd_Tree_take_42 rfl (by decide) (ls2 := [some (jm_R 4), some (jm_R 1), some (jm_I (jm_w32 (x2 + 1)))]) rfl ?_
    refine jm_goto (tgt := 15) jd_Tree_take_45 rfl ?_
    exact H
set_option maxRecDepth 4000 in
theorem jb_Tree_take_55 {E : jm_Env} {x2 : Int} {h : jm_H} {K : jm_H → Prop} (H : ((x2 < 0) → K h) ∧ ((¬ x2 < 0) → jm_CV E jm_SH jm_m_Tree_measure 2 [jm_R 4, jm_I x2] h (fun h2 => jm_BV E jm_SH jm_m_Tree_take 3 55 [some (jm_R 4), none, some (jm_I (jm_w32 (x2 + (-1))))] [] h2 K))) : jm_BV E jm_SH jm_m_Tree_take 3 55 [some (jm_R 4), none, some (jm_I x2)] [] h K := by
  refine jm_iload_n jd_Tree_take_55 rfl rfl ?_
  refine jm_if_lt (tgt := 70) jd_Tree_take_56 rfl (fun hc1 => ?_) (fun hc1 => ?_)
  · replace H := H.1 hc1
    exact jm_vreturn jd_Tree_take_70 rfl (by decide) ⟨rfl, rfl, H⟩
  · replace H := H.2 hc1
    refine jm_aload_n jd_Tree_take_59 rfl rfl ?_
    refine jm_iload_n jd_Tree_take_60 rfl rfl ?_
    refine jm_cV (M' := jm_m_Tree_measure) (d' := 2) (av := [jm_I x2]) jd_Tree_take_61 jk_Tree_measure jw_450 rfl (by omega) ⟨rfl, rfl⟩ (by decide) (Nat.le_of_ble_eq_true rfl) jm_SH_4 rfl rfl (jm_hqV (fun h2 H => ?_)) H
    refine jm_iinc jd_Tree_take_64 rfl (by decide) (ls2 := [some (jm_R 4), none, some (jm_I (jm_w32 (x2 + (-1))))]) rfl ?_
    refine jm_goto (tgt := 55) jd_Tree_take_67 rfl ?_
    exact H
set_option maxRecDepth 4000 in
theorem jb_Tree_measure {E : jm_Env} {x1 : Int} {h : jm_H} {K : jm_H → Prop} (H : (0 ≤ x1 ∧ x1 < 30) ∧ ((0 ≤ x1 ∧ x1 < 30) ∧ (jm_CI E jm_SH jm_m_Tree_firstPart 1 [jm_R 4, jm_I x1] (jm_up (jm_up h 7 (Int.toNat x1) 1) 8 (Int.toNat x1) 1) (fun v3 h3 => ((0 ≤ v3) → (0 ≤ v3 ∧ v3 < 30) ∧ ((0 ≤ x1 ∧ x1 < 30) ∧ ((0 ≤ v3 ∧ v3 < 30) ∧ ((0 ≤ x1 ∧ x1 < 30) ∧ ((0 ≤ v3 ∧ v3 < 30) ∧ ((0 ≤ x1 ∧ x1 < 30) ∧ (jm_CI E jm_SH jm_m_Tree_secondPart 1 [jm_R 4, jm_I x1] (jm_up (jm_up (jm_up h3 6 (Int.toNat v3) x1) 7 (Int.toNat x1) (jm_w32 ((h3 7 (Int.toNat x1)) + (h3 7 (Int.toNat v3))))) 8 (Int.toNat x1) (h3 8 (Int.toNat v3))) (fun v11 h11 => ((0 ≤ v11) → (0 ≤ v11 ∧ v11 < 30) ∧ ((0 ≤ x1 ∧ x1 < 30) ∧ ((0 ≤ v11 ∧ v11 < 30) ∧ ((0 ≤ x1 ∧ x1 < 30) ∧ ((0 ≤ v3 ∧ v3 < 30) ∧ ((0 ≤ v11 ∧ v11 < 30) ∧ (((¬ h11 8 (Int.toNat v3) = h11 8 (Int.toNat v11)) → (0 ≤ v3 ∧ v3 < 30) ∧ ((0 ≤ v11 ∧ v11 < 30) ∧ ((0 ≤ x1 ∧ x1 < 30) ∧ (K (jm_up (jm_up (jm_up h11 6 (Int.toNat v11) x1) 7 (Int.toNat x1) (jm_w32 ((h11 7 (Int.toNat x1)) + (h11 7 (Int.toNat v11))))) 8 (Int.toNat x1) (max (h11 8 (Int.toNat v3)) (h11 8 (Int.toNat v11)))))))) ∧ ((h11 8 (Int.toNat v3) = h11 8 (Int.toNat v11)) → (0 ≤ v3 ∧ v3 < 30) ∧ ((0 ≤ x1 ∧ x1 < 30) ∧ (K (jm_up (jm_up (jm_up h11 6 (Int.toNat v11) x1) 7 (Int.toNat x1) (jm_w32 ((h11 7 (Int.toNat x1)) + (h11 7 (Int.toNat v11))))) 8 (Int.toNat x1) (jm_w32 ((h11 8 (Int.toNat v3)) + 1))))))))))))) ∧ ((¬ 0 ≤ v11) → K h11))))))))) ∧ ((¬ 0 ≤ v3) → K h3))))) : jm_CV E jm_SH jm_m_Tree_measure 2 [jm_R 4, jm_I x1] h K := by
  refine jm_body (ls0 := [some (jm_R 4), some (jm_I x1), none, none]) (by decide +kernel) rfl rfl (Nat.le_of_ble_eq_true rfl) ?_
  refine jm_aload_n jd_Tree_measure_0 rfl rfl ?_
  refine jm_gR jd_Tree_measure_1 jf_Tree_16 jm_SH_4 rfl ?_
  refine jm_iload_n jd_Tree_measure_4 rfl rfl ?_
  refine jm_iconst jd_Tree_measure_5 (jm_o32c rfl) ?_
  obtain ⟨hb1, H⟩ := H
  refine jm_iastore jd_Tree_measure_6 jm_SH_7 hb1 ?_
  refine jm_aload_n jd_Tree_measure_7 rfl rfl ?_
  refine jm_gR jd_Tree_measure_8 jf_Tree_19 jm_SH_4 rfl ?_
  refine jm_iload_n jd_Tree_measure_11 rfl rfl ?_
  refine jm_iconst jd_Tree_measure_12 (jm_o32c rfl) ?_
  obtain ⟨hb2, H⟩ := H
  refine jm_iastore jd_Tree_measure_13 jm_SH_8 hb2 ?_
  refine jm_aload_n jd_Tree_measure_14 rfl rfl ?_
  refine jm_iload_n jd_Tree_measure_15 rfl rfl ?_
  refine jm_cV (M' := jm_m_Tree_firstPart) (d' := 1) (av := [jm_I x1]) jd_Tree_measure_16 jk_Tree_firstPart jw_454 rfl (by omega) ⟨rfl, rfl⟩ (by decide) (Nat.le_of_ble_eq_true rfl) jm_SH_4 rfl rfl (jm_hqI (fun v3 h3 H => ?_)) H
  refine jm_istore_n (i := 2) jd_Tree_measure_19 rfl (by decide) (ls2 := [some (jm_R 4), some (jm_I x1), some (jm_I v3), none]) rfl ?_
  refine jm_iload_n jd_Tree_measure_20 rfl rfl ?_
  refine jm_if_ge (tgt := 25) jd_Tree_measure_21 rfl (fun hc4 => ?_) (fun hc4 => ?_)
  · replace H := H.1 hc4
    refine jm_aload_n jd_Tree_measure_25 rfl rfl ?_
    refine jm_gR jd_Tree_measure_26 jf_Tree_13 jm_SH_4 rfl ?_
    refine jm_iload_n jd_Tree_measure_29 rfl rfl ?_
    refine jm_iload_n jd_Tree_measure_30 rfl rfl ?_
    obtain ⟨hb5, H⟩ := H
    refine jm_iastore jd_Tree_measure_31 jm_SH_6 hb5 ?_
    refine jm_aload_n jd_Tree_measure_32 rfl rfl ?_
    refine jm_gR jd_Tree_measure_33 jf_Tree_16 jm_SH_4 rfl ?_
    refine jm_iload_n jd_Tree_measure_36 rfl rfl ?_
    refine jm_dup2 jd_Tree_measure_37 rfl rfl ?_
    obtain ⟨hb6, H⟩ := H
    refine jm_iaload jd_Tree_measure_38 jm_SH_7 hb6 ?_
    refine jm_topI (y := h3 7 (Int.toNat x1)) rfl ?_
    refine jm_aload_n jd_Tree_measure_39 rfl rfl ?_
    refine jm_gR jd_Tree_measure_40 jf_Tree_16 jm_SH_4 rfl ?_
    refine jm_iload_n jd_Tree_measure_43 rfl rfl ?_
    obtain ⟨hb7, H⟩ := H
    refine jm_iaload jd_Tree_measure_44 jm_SH_7 hb7 ?_
    refine jm_topI (y := h3 7 (Int.toNat v3)) rfl ?_
    refine jm_iadd jd_Tree_measure_45 ?_
    obtain ⟨hb8, H⟩ := H
    refine jm_iastore jd_Tree_measure_46 jm_SH_7 hb8 ?_
    refine jm_aload_n jd_Tree_measure_47 rfl rfl ?_
    refine jm_gR jd_Tree_measure_48 jf_Tree_19 jm_SH_4 rfl ?_
    refine jm_iload_n jd_Tree_measure_51 rfl rfl ?_
    refine jm_aload_n jd_Tree_measure_52 rfl rfl ?_
    refine jm_gR jd_Tree_measure_53 jf_Tree_19 jm_SH_4 rfl ?_
    refine jm_iload_n jd_Tree_measure_56 rfl rfl ?_
    obtain ⟨hb9, H⟩ := H
    refine jm_iaload jd_Tree_measure_57 jm_SH_8 hb9 ?_
    refine jm_topI (y := h3 8 (Int.toNat v3)) rfl ?_
    obtain ⟨hb10, H⟩ := H
    refine jm_iastore jd_Tree_measure_58 jm_SH_8 hb10 ?_
    refine jm_aload_n jd_Tree_measure_59 rfl rfl ?_
    refine jm_iload_n jd_Tree_measure_60 rfl rfl ?_
    refine jm_cV (M' := jm_m_Tree_secondPart) (d' := 1) (av := [jm_I x1]) jd_Tree_measure_61 jk_Tree_secondPart jw_459 rfl (by omega) ⟨rfl, rfl⟩ (by decide) (Nat.le_of_ble_eq_true rfl) jm_SH_4 rfl rfl (jm_hqI (fun v11 h11 H => ?_)) H
    refine jm_istore_n (i := 3) jd_Tree_measure_64 rfl (by decide) (ls2 := [some (jm_R 4), some (jm_I x1), some (jm_I v3), some (jm_I v11)]) rfl ?_
    refine jm_iload_n jd_Tree_measure_65 rfl rfl ?_
    refine jm_if_ge (tgt := 70) jd_Tree_measure_66 rfl (fun hc12 => ?_) (fun hc12 => ?_)
    · replace H := H.1 hc12
      refine jm_aload_n jd_Tree_measure_70 rfl rfl ?_
      refine jm_gR jd_Tree_measure_71 jf_Tree_13 jm_SH_4 rfl ?_
      refine jm_iload_n jd_Tree_measure_74 rfl rfl ?_
      refine jm_iload_n jd_Tree_measure_75 rfl rfl ?_
      obtain ⟨hb13, H⟩ := H
      refine jm_iastore jd_Tree_measure_76 jm_SH_6 hb13 ?_
      refine jm_aload_n jd_Tree_measure_77 rfl rfl ?_
      refine jm_gR jd_Tree_measure_78 jf_Tree_16 jm_SH_4 rfl ?_
      refine jm_iload_n jd_Tree_measure_81 rfl rfl ?_
      refine jm_dup2 jd_Tree_measure_82 rfl rfl ?_
      obtain ⟨hb14, H⟩ := H
      refine jm_iaload jd_Tree_measure_83 jm_SH_7 hb14 ?_
      refine jm_topI (y := h11 7 (Int.toNat x1)) rfl ?_
      refine jm_aload_n jd_Tree_measure_84 rfl rfl ?_
      refine jm_gR jd_Tree_measure_85 jf_Tree_16 jm_SH_4 rfl ?_
      refine jm_iload_n jd_Tree_measure_88 rfl rfl ?_
      obtain ⟨hb15, H⟩ := H
      refine jm_iaload jd_Tree_measure_89 jm_SH_7 hb15 ?_
      refine jm_topI (y := h11 7 (Int.toNat v11)) rfl ?_
      refine jm_iadd jd_Tree_measure_90 ?_
      obtain ⟨hb16, H⟩ := H
      refine jm_iastore jd_Tree_measure_91 jm_SH_7 hb16 ?_
      refine jm_aload_n jd_Tree_measure_92 rfl rfl ?_
      refine jm_gR jd_Tree_measure_93 jf_Tree_19 jm_SH_4 rfl ?_
      refine jm_iload_n jd_Tree_measure_96 rfl rfl ?_
      refine jm_aload_n jd_Tree_measure_97 rfl rfl ?_
      refine jm_gR jd_Tree_measure_98 jf_Tree_19 jm_SH_4 rfl ?_
      refine jm_iload_n jd_Tree_measure_101 rfl rfl ?_
      obtain ⟨hb17, H⟩ := H
      refine jm_iaload jd_Tree_measure_102 jm_SH_8 hb17 ?_
      refine jm_topI (y := h11 8 (Int.toNat v3)) rfl ?_
      refine jm_aload_n jd_Tree_measure_103 rfl rfl ?_
      refine jm_gR jd_Tree_measure_104 jf_Tree_19 jm_SH_4 rfl ?_
      refine jm_iload_n jd_Tree_measure_107 rfl rfl ?_
      obtain ⟨hb18, H⟩ := H
      refine jm_iaload jd_Tree_measure_108 jm_SH_8 hb18 ?_
      refine jm_topI (y := h11 8 (Int.toNat v11)) rfl ?_
      refine jm_icmp_ne (tgt := 123) jd_Tree_measure_109 rfl (fun hc19 => ?_) (fun hc19 => ?_)
      · replace H := H.1 hc19
        refine jm_aload_n jd_Tree_measure_123 rfl rfl ?_
        refine jm_gR jd_Tree_measure_124 jf_Tree_19 jm_SH_4 rfl ?_
        refine jm_iload_n jd_Tree_measure_127 rfl rfl ?_
        obtain ⟨hb20, H⟩ := H
        refine jm_iaload jd_Tree_measure_128 jm_SH_8 hb20 ?_
        refine jm_topI (y := h11 8 (Int.toNat v3)) rfl ?_
        refine jm_aload_n jd_Tree_measure_129 rfl rfl ?_
        refine jm_gR jd_Tree_measure_130 jf_Tree_19 jm_SH_4 rfl ?_
        refine jm_iload_n jd_Tree_measure_133 rfl rfl ?_
        obtain ⟨hb21, H⟩ := H
        refine jm_iaload jd_Tree_measure_134 jm_SH_8 hb21 ?_
        refine jm_topI (y := h11 8 (Int.toNat v11)) rfl ?_
        refine jm_max jd_Tree_measure_135 jw_463 jw_464 jw_13 jw_465 (by omega) (by decide) (Nat.le_of_ble_eq_true rfl) ?_
        obtain ⟨hb22, H⟩ := H
        refine jm_iastore jd_Tree_measure_138 jm_SH_8 hb22 ?_
        exact jm_vreturn jd_Tree_measure_139 rfl (by decide) ⟨rfl, rfl, H⟩
      · replace H := H.2 hc19
        refine jm_aload_n jd_Tree_measure_112 rfl rfl ?_
        refine jm_gR jd_Tree_measure_113 jf_Tree_19 jm_SH_4 rfl ?_
        refine jm_iload_n jd_Tree_measure_116 rfl rfl ?_
        obtain ⟨hb23, H⟩ := H
        refine jm_iaload jd_Tree_measure_117 jm_SH_8 hb23 ?_
        refine jm_topI (y := h11 8 (Int.toNat v3)) rfl ?_
        refine jm_iconst jd_Tree_measure_118 (jm_o32c rfl) ?_
        refine jm_iadd jd_Tree_measure_119 ?_
        refine jm_goto (tgt := 138) jd_Tree_measure_120 rfl ?_
        obtain ⟨hb24, H⟩ := H
        refine jm_iastore jd_Tree_measure_138 jm_SH_8 hb24 ?_
        exact jm_vreturn jd_Tree_measure_139 rfl (by decide) ⟨rfl, rfl, H⟩
    · replace H := H.2 hc12
      exact jm_vreturn jd_Tree_measure_69 rfl (by decide) ⟨rfl, rfl, H⟩
  · replace H := H.2 hc4
    exact jm_vreturn jd_Tree_measure_24 rfl (by decide) ⟨rfl, rfl, H⟩
set_option maxRecDepth 4000 in
theorem jb_Tree_firstPart {E : jm_Env} {x1 : Int} {h : jm_H} {K : Int → jm_H → Prop} (H : (0 ≤ x1 ∧ x1 < 30) ∧ (jm_CI E jm_SH jm_m_Pad_partsOf 0 [jm_I (h 5 (Int.toNat x1))] h (fun v2 h2 => ((v2 < 1) → K (-1) h2) ∧ ((¬ v2 < 1) → ((h2 4 4 ≤ jm_w32 (x1 + 1)) → K (-1) h2) ∧ ((¬ h2 4 4 ≤ jm_w32 (x1 + 1)) → K (jm_w32 (x1 + 1)) h2))))) : jm_CI E jm_SH jm_m_Tree_firstPart 1 [jm_R 4, jm_I x1] h K := by
  refine jm_body (ls0 := [some (jm_R 4), some (jm_I x1)]) (by decide +kernel) rfl rfl (Nat.le_of_ble_eq_true rfl) ?_
  refine jm_aload_n jd_Tree_firstPart_0 rfl rfl ?_
  refine jm_gR jd_Tree_firstPart_1 jf_Tree_9 jm_SH_4 rfl ?_
  refine jm_iload_n jd_Tree_firstPart_4 rfl rfl ?_
  obtain ⟨hb1, H⟩ := H
  refine jm_iaload jd_Tree_firstPart_5 jm_SH_5 hb1 ?_
  refine jm_cS (M' := jm_m_Pad_partsOf) (d' := 0) (av := [jm_I (h 5 (Int.toNat x1))]) jd_Tree_firstPart_6 jk_Pad_partsOf jw_458 rfl (by omega) ⟨rfl, rfl⟩ (by decide) (Nat.le_of_ble_eq_true rfl) (jm_hqI (fun v2 h2 H => ?_)) H
  refine jm_iconst jd_Tree_firstPart_9 (jm_o32c rfl) ?_
  refine jm_icmp_lt (tgt := 29) jd_Tree_firstPart_10 rfl (fun hc3 => ?_) (fun hc3 => ?_)
  · replace H := H.1 hc3
    refine jm_iconst jd_Tree_firstPart_29 (jm_o32c rfl) ?_
    exact jm_ireturn jd_Tree_firstPart_30 rfl (by decide) ⟨rfl, _, rfl, H⟩
  · replace H := H.2 hc3
    refine jm_iload_n jd_Tree_firstPart_13 rfl rfl ?_
    refine jm_iconst jd_Tree_firstPart_14 (jm_o32c rfl) ?_
    refine jm_iadd jd_Tree_firstPart_15 ?_
    refine jm_aload_n jd_Tree_firstPart_16 rfl rfl ?_
    refine jm_gI jd_Tree_firstPart_17 jf_Tree_22 jm_SH_4 ?_
    refine jm_icmp_ge (tgt := 29) jd_Tree_firstPart_20 rfl (fun hc4 => ?_) (fun hc4 => ?_)
    · replace H := H.1 hc4
      refine jm_iconst jd_Tree_firstPart_29 (jm_o32c rfl) ?_
      exact jm_ireturn jd_Tree_firstPart_30 rfl (by decide) ⟨rfl, _, rfl, H⟩
    · replace H := H.2 hc4
      refine jm_iload_n jd_Tree_firstPart_23 rfl rfl ?_
      refine jm_iconst jd_Tree_firstPart_24 (jm_o32c rfl) ?_
      refine jm_iadd jd_Tree_firstPart_25 ?_
      refine jm_goto (tgt := 30) jd_Tree_firstPart_26 rfl ?_
      exact jm_ireturn jd_Tree_firstPart_30 rfl (by decide) ⟨rfl, _, rfl, H⟩
set_option maxRecDepth 4000 in
theorem jb_Tree_secondPart {E : jm_Env} {x1 : Int} {h : jm_H} {K : Int → jm_H → Prop} (H : (0 ≤ x1 ∧ x1 < 30) ∧ (jm_CI E jm_SH jm_m_Pad_partsOf 0 [jm_I (h 5 (Int.toNat x1))] h (fun v2 h2 => ((v2 < 2) → K (-1) h2) ∧ ((¬ v2 < 2) → ((jm_w32 (x1 + 1) < h2 4 4) → (0 ≤ jm_w32 (x1 + 1) ∧ jm_w32 (x1 + 1) < 30) ∧ (((h2 4 4 ≤ jm_w32 ((jm_w32 (x1 + 1)) + (h2 7 (Int.toNat (jm_w32 (x1 + 1)))))) → K (-1) h2) ∧ ((¬ h2 4 4 ≤ jm_w32 ((jm_w32 (x1 + 1)) + (h2 7 (Int.toNat (jm_w32 (x1 + 1)))))) → K (jm_w32 ((jm_w32 (x1 + 1)) + (h2 7 (Int.toNat (jm_w32 (x1 + 1)))))) h2))) ∧ ((¬ jm_w32 (x1 + 1) < h2 4 4) → K (-1) h2))))) : jm_CI E jm_SH jm_m_Tree_secondPart 1 [jm_R 4, jm_I x1] h K := by
  refine jm_body (ls0 := [some (jm_R 4), some (jm_I x1), none]) (by decide +kernel) rfl rfl (Nat.le_of_ble_eq_true rfl) ?_
  refine jm_aload_n jd_Tree_secondPart_0 rfl rfl ?_
  refine jm_gR jd_Tree_secondPart_1 jf_Tree_9 jm_SH_4 rfl ?_
  refine jm_iload_n jd_Tree_secondPart_4 rfl rfl ?_
  obtain ⟨hb1, H⟩ := H
  refine jm_iaload jd_Tree_secondPart_5 jm_SH_5 hb1 ?_
  refine jm_cS (M' := jm_m_Pad_partsOf) (d' := 0) (av := [jm_I (h 5 (Int.toNat x1))]) jd_Tree_secondPart_6 jk_Pad_partsOf jw_458 rfl (by omega) ⟨rfl, rfl⟩ (by decide) (Nat.le_of_ble_eq_true rfl) (jm_hqI (fun v2 h2 H => ?_)) H
  refine jm_iconst jd_Tree_secondPart_9 (jm_o32c rfl) ?_
  refine jm_icmp_lt (tgt := 23) jd_Tree_secondPart_10 rfl (fun hc3 => ?_) (fun hc3 => ?_)
  · replace H := H.1 hc3
    refine jm_iconst jd_Tree_secondPart_23 (jm_o32c rfl) ?_
    exact jm_ireturn jd_Tree_secondPart_24 rfl (by decide) ⟨rfl, _, rfl, H⟩
  · replace H := H.2 hc3
    refine jm_iload_n jd_Tree_secondPart_13 rfl rfl ?_
    refine jm_iconst jd_Tree_secondPart_14 (jm_o32c rfl) ?_
    refine jm_iadd jd_Tree_secondPart_15 ?_
    refine jm_aload_n jd_Tree_secondPart_16 rfl rfl ?_
    refine jm_gI jd_Tree_secondPart_17 jf_Tree_22 jm_SH_4 ?_
    refine jm_icmp_lt (tgt := 25) jd_Tree_secondPart_20 rfl (fun hc4 => ?_) (fun hc4 => ?_)
    · replace H := H.1 hc4
      refine jm_iload_n jd_Tree_secondPart_25 rfl rfl ?_
      refine jm_iconst jd_Tree_secondPart_26 (jm_o32c rfl) ?_
      refine jm_iadd jd_Tree_secondPart_27 ?_
      refine jm_aload_n jd_Tree_secondPart_28 rfl rfl ?_
      refine jm_gR jd_Tree_secondPart_29 jf_Tree_16 jm_SH_4 rfl ?_
      refine jm_iload_n jd_Tree_secondPart_32 rfl rfl ?_
      refine jm_iconst jd_Tree_secondPart_33 (jm_o32c rfl) ?_
      refine jm_iadd jd_Tree_secondPart_34 ?_
      obtain ⟨hb5, H⟩ := H
      refine jm_iaload jd_Tree_secondPart_35 jm_SH_7 hb5 ?_
      refine jm_iadd jd_Tree_secondPart_36 ?_
      refine jm_istore_n (i := 2) jd_Tree_secondPart_37 rfl (by decide) (ls2 := [some (jm_R 4), some (jm_I x1), some (jm_I (jm_w32 ((jm_w32 (x1 + 1)) + (h2 7 (Int.toNat (jm_w32 (x1 + 1)))))))]) rfl ?_
      refine jm_iload_n jd_Tree_secondPart_38 rfl rfl ?_
      refine jm_aload_n jd_Tree_secondPart_39 rfl rfl ?_
      refine jm_gI jd_Tree_secondPart_40 jf_Tree_22 jm_SH_4 ?_
      refine jm_icmp_ge (tgt := 50) jd_Tree_secondPart_43 rfl (fun hc6 => ?_) (fun hc6 => ?_)
      · replace H := H.1 hc6
        refine jm_iconst jd_Tree_secondPart_50 (jm_o32c rfl) ?_
        exact jm_ireturn jd_Tree_secondPart_51 rfl (by decide) ⟨rfl, _, rfl, H⟩
      · replace H := H.2 hc6
        refine jm_iload_n jd_Tree_secondPart_46 rfl rfl ?_
        refine jm_goto (tgt := 51) jd_Tree_secondPart_47 rfl ?_
        exact jm_ireturn jd_Tree_secondPart_51 rfl (by decide) ⟨rfl, _, rfl, H⟩
    · replace H := H.2 hc4
      refine jm_iconst jd_Tree_secondPart_23 (jm_o32c rfl) ?_
      exact jm_ireturn jd_Tree_secondPart_24 rfl (by decide) ⟨rfl, _, rfl, H⟩
set_option maxRecDepth 4000 in
theorem jb_Tree_storesWith {E : jm_Env} {x1 : Int} {h : jm_H} {K : Int → jm_H → Prop} (H : jm_BI E jm_SH jm_m_Tree_storesWith 2 4 [some (jm_R 4), some (jm_I x1), some (jm_I 0), some (jm_I 0), none, none] [] h K) : jm_CI E jm_SH jm_m_Tree_storesWith 2 [jm_R 4, jm_I x1] h K := by
  refine jm_body (ls0 := [some (jm_R 4), some (jm_I x1), none, none, none, none]) (by decide +kernel) rfl rfl (Nat.le_of_ble_eq_true rfl) ?_
  refine jm_iconst jd_Tree_storesWith_0 (jm_o32c rfl) ?_
  refine jm_istore_n (i := 2) jd_Tree_storesWith_1 rfl (by decide) (ls2 := [some (jm_R 4), some (jm_I x1), some (jm_I 0), none, none, none]) rfl ?_
  refine jm_iconst jd_Tree_storesWith_2 (jm_o32c rfl) ?_
  refine jm_istore_n (i := 3) jd_Tree_storesWith_3 rfl (by decide) (ls2 := [some (jm_R 4), some (jm_I x1), some (jm_I 0), some (jm_I 0), none, none]) rfl ?_
  exact H
set_option maxRecDepth 4000 in
theorem jb_Tree_storesWith_4 {E : jm_Env} {x1 x2 x3 : Int} {h : jm_H} {K : Int → jm_H → Prop} (H : ((h 4 4 ≤ x3) → K x2 h) ∧ ((¬ h 4 4 ≤ x3) → jm_CI E jm_SH jm_m_Tree_firstPart 1 [jm_R 4, jm_I x3] h (fun v2 h2 => jm_CI E jm_SH jm_m_Tree_secondPart 1 [jm_R 4, jm_I x3] h2 (fun v3 h3 => ((v2 < 0) → jm_BI E jm_SH jm_m_Tree_storesWith 2 4 [some (jm_R 4), some (jm_I x1), some (jm_I x2), some (jm_I (jm_w32 (x3 + 1))), none, none] [] h3 K) ∧ ((¬ v2 < 0) → ((v3 < 0) → jm_BI E jm_SH jm_m_Tree_storesWith 2 4 [some (jm_R 4), some (jm_I x1), some (jm_I x2), some (jm_I (jm_w32 (x3 + 1))), none, none] [] h3 K) ∧ ((¬ v3 < 0) → (0 ≤ v2 ∧ v2 < 30) ∧ (((h3 8 (Int.toNat v2) < x1) → jm_BI E jm_SH jm_m_Tree_storesWith 2 4 [some (jm_R 4), some (jm_I x1), some (jm_I x2), some (jm_I (jm_w32 (x3 + 1))), none, none] [] h3 K) ∧ ((¬ h3 8 (Int.toNat v2) < x1) → (0 ≤ v3 ∧ v3 < 30) ∧ (((h3 8 (Int.toNat v3) < x1) → jm_BI E jm_SH jm_m_Tree_storesWith 2 4 [some (jm_R 4), some (jm_I x1), some (jm_I x2), some (jm_I (jm_w32 (x3 + 1))), none, none] [] h3 K) ∧ ((¬ h3 8 (Int.toNat v3) < x1) → jm_BI E jm_SH jm_m_Tree_storesWith 2 4 [some (jm_R 4), some (jm_I x1), some (jm_I (jm_w32 (x2 + 1))), some (jm_I (jm_w32 (x3 + 1))), none, none] [] h3 K)))))))))) : jm_BI E jm_SH jm_m_Tree_storesWith 2 4 [some (jm_R 4), some (jm_I x1), some (jm_I x2), some (jm_I x3), none, none] [] h K := by
  refine jm_iload_n jd_Tree_storesWith_4 rfl rfl ?_
  refine jm_aload_n jd_Tree_storesWith_5 rfl rfl ?_
  refine jm_gI jd_Tree_storesWith_6 jf_Tree_22 jm_SH_4 ?_
  refine jm_icmp_ge (tgt := 67) jd_Tree_storesWith_9 rfl (fun hc1 => ?_) (fun hc1 => ?_)
  · replace H := H.1 hc1
    refine jm_iload_n jd_Tree_storesWith_67 rfl rfl ?_
    exact jm_ireturn jd_Tree_storesWith_68 rfl (by decide) ⟨rfl, _, rfl, H⟩
  · replace H := H.2 hc1
    refine jm_aload_n jd_Tree_storesWith_12 rfl rfl ?_
    refine jm_iload_n jd_Tree_storesWith_13 rfl rfl ?_
    refine jm_cV (M' := jm_m_Tree_firstPart) (d' := 1) (av := [jm_I x3]) jd_Tree_storesWith_14 jk_Tree_firstPart jw_454 rfl (by omega) ⟨rfl, rfl⟩ (by decide) (Nat.le_of_ble_eq_true rfl) jm_SH_4 rfl rfl (jm_hqI (fun v2 h2 H => ?_)) H
    refine jm_istore (i := 4) jd_Tree_storesWith_17 (by decide) (ls2 := [some (jm_R 4), some (jm_I x1), some (jm_I x2), some (jm_I x3), some (jm_I v2), none]) rfl ?_
    refine jm_aload_n jd_Tree_storesWith_19 rfl rfl ?_
    refine jm_iload_n jd_Tree_storesWith_20 rfl rfl ?_
    refine jm_cV (M' := jm_m_Tree_secondPart) (d' := 1) (av := [jm_I x3]) jd_Tree_storesWith_21 jk_Tree_secondPart jw_459 rfl (by omega) ⟨rfl, rfl⟩ (by decide) (Nat.le_of_ble_eq_true rfl) jm_SH_4 rfl rfl (jm_hqI (fun v3 h3 H => ?_)) H
    refine jm_istore (i := 5) jd_Tree_storesWith_24 (by decide) (ls2 := [some (jm_R 4), some (jm_I x1), some (jm_I x2), some (jm_I x3), some (jm_I v2), some (jm_I v3)]) rfl ?_
    refine jm_iload jd_Tree_storesWith_26 rfl ?_
    refine jm_if_lt (tgt := 61) jd_Tree_storesWith_28 rfl (fun hc4 => ?_) (fun hc4 => ?_)
    · replace H := H.1 hc4
      refine jm_iinc jd_Tree_storesWith_61 rfl (by decide) (ls2 := [some (jm_R 4), some (jm_I x1), some (jm_I x2), some (jm_I (jm_w32 (x3 + 1))), some (jm_I v2), some (jm_I v3)]) rfl ?_
      refine jm_goto (tgt := 4) jd_Tree_storesWith_64 rfl ?_
      refine jm_keepG [true, true, true, true, false, false] (ls2 := [some (jm_R 4), some (jm_I x1), some (jm_I x2), some (jm_I (jm_w32 (x3 + 1))), none, none]) (by rfl) (by rfl) ?_
      exact H
    · replace H := H.2 hc4
      refine jm_iload jd_Tree_storesWith_31 rfl ?_
      refine jm_if_lt (tgt := 61) jd_Tree_storesWith_33 rfl (fun hc5 => ?_) (fun hc5 => ?_)
      · replace H := H.1 hc5
        refine jm_iinc jd_Tree_storesWith_61 rfl (by decide) (ls2 := [some (jm_R 4), some (jm_I x1), some (jm_I x2), some (jm_I (jm_w32 (x3 + 1))), some (jm_I v2), some (jm_I v3)]) rfl ?_
        refine jm_goto (tgt := 4) jd_Tree_storesWith_64 rfl ?_
        refine jm_keepG [true, true, true, true, false, false] (ls2 := [some (jm_R 4), some (jm_I x1), some (jm_I x2), some (jm_I (jm_w32 (x3 + 1))), none, none]) (by rfl) (by rfl) ?_
        exact H
      · replace H := H.2 hc5
        refine jm_aload_n jd_Tree_storesWith_36 rfl rfl ?_
        refine jm_gR jd_Tree_storesWith_37 jf_Tree_19 jm_SH_4 rfl ?_
        refine jm_iload jd_Tree_storesWith_40 rfl ?_
        obtain ⟨hb6, H⟩ := H
        refine jm_iaload jd_Tree_storesWith_42 jm_SH_8 hb6 ?_
        refine jm_iload_n jd_Tree_storesWith_43 rfl rfl ?_
        refine jm_icmp_lt (tgt := 61) jd_Tree_storesWith_44 rfl (fun hc7 => ?_) (fun hc7 => ?_)
        · replace H := H.1 hc7
          refine jm_iinc jd_Tree_storesWith_61 rfl (by decide) (ls2 := [some (jm_R 4), some (jm_I x1), some (jm_I x2), some (jm_I (jm_w32 (x3 + 1))), some (jm_I v2), some (jm_I v3)]) rfl ?_
          refine jm_goto (tgt := 4) jd_Tree_storesWith_64 rfl ?_
          refine jm_keepG [true, true, true, true, false, false] (ls2 := [some (jm_R 4), some (jm_I x1), some (jm_I x2), some (jm_I (jm_w32 (x3 + 1))), none, none]) (by rfl) (by rfl) ?_
          exact H
        · replace H := H.2 hc7
          refine jm_aload_n jd_Tree_storesWith_47 rfl rfl ?_
          refine jm_gR jd_Tree_storesWith_48 jf_Tree_19 jm_SH_4 rfl ?_
          refine jm_iload jd_Tree_storesWith_51 rfl ?_
          obtain ⟨hb8, H⟩ := H
          refine jm_iaload jd_Tree_storesWith_53 jm_SH_8 hb8 ?_
          refine jm_iload_n jd_Tree_storesWith_54 rfl rfl ?_
          refine jm_icmp_lt (tgt := 61) jd_Tree_storesWith_55 rfl (fun hc9 => ?_) (fun hc9 => ?_)
          · replace H := H.1 hc9
            refine jm_iinc jd_Tree_storesWith_61 rfl (by decide) (ls2 := [some (jm_R 4), some (jm_I x1), some (jm_I x2), some (jm_I (jm_w32 (x3 + 1))), some (jm_I v2), some (jm_I v3)]) rfl ?_
            refine jm_goto (tgt := 4) jd_Tree_storesWith_64 rfl ?_
            refine jm_keepG [true, true, true, true, false, false] (ls2 := [some (jm_R 4), some (jm_I x1), some (jm_I x2), some (jm_I (jm_w32 (x3 + 1))), none, none]) (by rfl) (by rfl) ?_
            exact H
          · replace H := H.2 hc9
            refine jm_iinc jd_Tree_storesWith_58 rfl (by decide) (ls2 := [some (jm_R 4), some (jm_I x1), some (jm_I (jm_w32 (x2 + 1))), some (jm_I x3), some (jm_I v2), some (jm_I v3)]) rfl ?_
            refine jm_iinc jd_Tree_storesWith_61 rfl (by decide) (ls2 := [some (jm_R 4), some (jm_I x1), some (jm_I (jm_w32 (x2 + 1))), some (jm_I (jm_w32 (x3 + 1))), some (jm_I v2), some (jm_I v3)]) rfl ?_
            refine jm_goto (tgt := 4) jd_Tree_storesWith_64 rfl ?_
            refine jm_keepG [true, true, true, true, false, false] (ls2 := [some (jm_R 4), some (jm_I x1), some (jm_I (jm_w32 (x2 + 1))), some (jm_I (jm_w32 (x3 + 1))), none, none]) (by rfl) (by rfl) ?_
            exact H
