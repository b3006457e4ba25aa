set_option maxRecDepth 4000 in
theorem jb_Order_refresh {E : jm_Env} {h : jm_H} {K : jm_H → Prop} (H : ((h 47 11 = h 37 4) → K h) ∧ ((¬ h 47 11 = h 37 4) → ((h 37 3 ≤ 10) → jm_BV E jm_SH jm_m_Order_refresh 20 56 [some (jm_R 47), some (jm_I (jm_w32 ((h 37 3) - 1)))] [] (jm_up (jm_up h 47 11 (h 37 4)) 47 10 (h 37 3)) K) ∧ ((¬ h 37 3 ≤ 10) → K h))) : jm_CV E jm_SH jm_m_Order_refresh 20 [jm_R 47] h K := by
  refine jm_body (ls0 := [some (jm_R 47), none]) (by decide +kernel) rfl rfl (Nat.le_of_ble_eq_true rfl) ?_
  refine jm_aload_n jd_Order_refresh_0 rfl rfl ?_
  refine jm_gI jd_Order_refresh_1 jf_Order_38 jm_SH_47 ?_
  refine jm_aload_n jd_Order_refresh_4 rfl rfl ?_
  refine jm_gR jd_Order_refresh_5 jf_Order_34 jm_SH_47 rfl ?_
  refine jm_gI jd_Order_refresh_8 jf_Order_42 jm_SH_37 ?_
  refine jm_icmp_eq (tgt := 26) jd_Order_refresh_11 rfl (fun hc1 => ?_) (fun hc1 => ?_)
  · replace H := H.1 hc1
    exact jm_vreturn jd_Order_refresh_26 rfl (by decide) ⟨rfl, rfl, H⟩
  · replace H := H.2 hc1
    refine jm_aload_n jd_Order_refresh_14 rfl rfl ?_
    refine jm_gR jd_Order_refresh_15 jf_Order_34 jm_SH_47 rfl ?_
    refine jm_gI jd_Order_refresh_18 jf_Order_45 jm_SH_37 ?_
    refine jm_bipush jd_Order_refresh_21 jb_10 ?_
    refine jm_icmp_le (tgt := 27) jd_Order_refresh_23 rfl (fun hc2 => ?_) (fun hc2 => ?_)
    · replace H := H.1 hc2
      refine jm_aload_n jd_Order_refresh_27 rfl rfl ?_
      refine jm_aload_n jd_Order_refresh_28 rfl rfl ?_
      refine jm_gR jd_Order_refresh_29 jf_Order_34 jm_SH_47 rfl ?_
      refine jm_gI jd_Order_refresh_32 jf_Order_42 jm_SH_37 ?_
      refine jm_sI jd_Order_refresh_35 jp_Order_38 jm_SH_47 ?_
      refine jm_aload_n jd_Order_refresh_38 rfl rfl ?_
      refine jm_aload_n jd_Order_refresh_39 rfl rfl ?_
      refine jm_gR jd_Order_refresh_40 jf_Order_34 jm_SH_47 rfl ?_
      refine jm_gI jd_Order_refresh_43 jf_Order_45 jm_SH_37 ?_
      refine jm_topI (y := h 37 3) rfl ?_
      refine jm_sI jd_Order_refresh_46 jp_Order_48 jm_SH_47 ?_
      refine jm_aload_n jd_Order_refresh_49 rfl rfl ?_
      refine jm_gI jd_Order_refresh_50 jf_Order_48 jm_SH_47 ?_
      refine jm_topI (y := h 37 3) rfl ?_
      refine jm_iconst jd_Order_refresh_53 (jm_o32c rfl) ?_
      refine jm_isub jd_Order_refresh_54 ?_
      refine jm_istore_n (i := 1) jd_Order_refresh_55 rfl (by decide) (ls2 := [some (jm_R 47), some (jm_I (jm_w32 ((h 37 3) - 1)))]) rfl ?_
      exact H
    · replace H := H.2 hc2
      exact jm_vreturn jd_Order_refresh_26 rfl (by decide) ⟨rfl, rfl, H⟩
set_option maxRecDepth 4000 in
theorem jb_Order_refresh_56 {E : jm_Env} {x1 : Int} {h : jm_H} {K : jm_H → Prop} (H : ((x1 < 0) → jm_BV E jm_SH jm_m_Order_refresh 20 73 [some (jm_R 47), some (jm_I 0)] [] h K) ∧ ((¬ x1 < 0) → jm_CV E jm_SH jm_m_Order_prepare 3 [jm_R 47, jm_I x1] h (fun h2 => jm_BV E jm_SH jm_m_Order_refresh 20 56 [some (jm_R 47), some (jm_I (jm_w32 (x1 + (-1))))] [] h2 K))) : jm_BV E jm_SH jm_m_Order_refresh 20 56 [some (jm_R 47), some (jm_I x1)] [] h K := by
  refine jm_iload_n jd_Order_refresh_56 rfl rfl ?_
  refine jm_if_lt (tgt := 71) jd_Order_refresh_57 rfl (fun hc1 => ?_) (fun hc1 => ?_)
  · replace H := H.1 hc1
    refine jm_iconst jd_Order_refresh_71 (jm_o32c rfl) ?_
    refine jm_istore_n (i := 1) jd_Order_refresh_72 rfl (by decide) (ls2 := [some (jm_R 47), some (jm_I 0)]) rfl ?_
    exact H
  · replace H := H.2 hc1
    refine jm_aload_n jd_Order_refresh_60 rfl rfl ?_
    refine jm_iload_n jd_Order_refresh_61 rfl rfl ?_
    refine jm_cV (M' := jm_m_Order_prepare) (d' := 3) (av := [jm_I x1]) jd_Order_refresh_62 jk_Order_prepare jw_655 rfl (by omega) ⟨rfl, rfl⟩ (by decide) (Nat.le_of_ble_eq_true rfl) jm_SH_47 rfl rfl (jm_hqV (fun h2 H => ?_)) H
    refine jm_iinc jd_Order_refresh_65 rfl (by decide) (ls2 := [some (jm_R 47), some (jm_I (jm_w32 (x1 + (-1))))]) rfl ?_
    refine jm_goto (tgt := 56) jd_Order_refresh_68 rfl ?_
    exact H
set_option maxRecDepth 4000 in
theorem jb_Order_refresh_73 {E : jm_Env} {x1 : Int} {h : jm_H} {K : jm_H → Prop} (H : ((h 47 10 ≤ x1) → jm_CV E jm_SH jm_m_Order_extend 19 [jm_R 47, jm_I 0, jm_I 0, jm_I (-1)] (jm_up h 47 9 1000000) (fun h2 => K h2)) ∧ ((¬ h 47 10 ≤ x1) → jm_CV E jm_SH jm_m_Order_rankByTail 0 [jm_R 47, jm_I x1] h (fun h3 => jm_BV E jm_SH jm_m_Order_refresh 20 73 [some (jm_R 47), some (jm_I (jm_w32 (x1 + 1)))] [] h3 K))) : jm_BV E jm_SH jm_m_Order_refresh 20 73 [some (jm_R 47), some (jm_I x1)] [] h K := by
  refine jm_iload_n jd_Order_refresh_73 rfl rfl ?_
  refine jm_aload_n jd_Order_refresh_74 rfl rfl ?_
  refine jm_gI jd_Order_refresh_75 jf_Order_48 jm_SH_47 ?_
  refine jm_icmp_ge (tgt := 92) jd_Order_refresh_78 rfl (fun hc1 => ?_) (fun hc1 => ?_)
  · replace H := H.1 hc1
    refine jm_aload_n jd_Order_refresh_92 rfl rfl ?_
    refine jm_ldc (x := 1000000) jd_Order_refresh_93 jc_667 (jm_o32c rfl) ?_
    refine jm_sI jd_Order_refresh_95 jp_Order_57 jm_SH_47 ?_
    refine jm_aload_n jd_Order_refresh_98 rfl rfl ?_
    refine jm_iconst jd_Order_refresh_99 (jm_o32c rfl) ?_
    refine jm_iconst jd_Order_refresh_100 (jm_o32c rfl) ?_
    refine jm_iconst jd_Order_refresh_101 (jm_o32c rfl) ?_
    refine jm_cV (M' := jm_m_Order_extend) (d' := 19) (av := [jm_I 0, jm_I 0, jm_I (-1)]) jd_Order_refresh_102 jk_Order_extend jw_668 rfl (by omega) ⟨rfl, rfl⟩ (by decide) (Nat.le_of_ble_eq_true rfl) jm_SH_47 rfl rfl (jm_hqV (fun h2 H => ?_)) H
    exact jm_vreturn jd_Order_refresh_105 rfl (by decide) ⟨rfl, rfl, H⟩
  · replace H := H.2 hc1
    refine jm_aload_n jd_Order_refresh_81 rfl rfl ?_
    refine jm_iload_n jd_Order_refresh_82 rfl rfl ?_
    refine jm_cV (M' := jm_m_Order_rankByTail) (d' := 0) (av := [jm_I x1]) jd_Order_refresh_83 jk_Order_rankByTail jw_663 rfl (by omega) ⟨rfl, rfl⟩ (by decide) (Nat.le_of_ble_eq_true rfl) jm_SH_47 rfl rfl (jm_hqV (fun h3 H => ?_)) H
    refine jm_iinc jd_Order_refresh_86 rfl (by decide) (ls2 := [some (jm_R 47), some (jm_I (jm_w32 (x1 + 1)))]) rfl ?_
    refine jm_goto (tgt := 73) jd_Order_refresh_89 rfl ?_
    exact H
set_option maxRecDepth 4000 in
theorem jb_Order_prepare {E : jm_Env} {x1 : Int} {h : jm_H} {K : jm_H → Prop} (H : jm_CI E jm_SH jm_m_Row_firstSetter 1 [jm_R 37, jm_I x1] h (fun v1 h1 => (0 ≤ x1 ∧ x1 < 10) ∧ (jm_CI E jm_SH jm_m_Row_secondSetter 1 [jm_R 37, jm_I x1] (jm_up h1 49 (Int.toNat x1) v1) (fun v3 h3 => (0 ≤ x1 ∧ x1 < 10) ∧ ((0 ≤ x1 ∧ x1 < 10) ∧ (jm_BV E jm_SH jm_m_Order_prepare 3 37 [some (jm_R 47), some (jm_I x1), some (jm_I 0), none, none] [] (jm_up (jm_up h3 50 (Int.toNat x1) v3) 48 (Int.toNat x1) 0) K)))))) : jm_CV E jm_SH jm_m_Order_prepare 3 [jm_R 47, jm_I x1] h K := by
  refine jm_body (ls0 := [some (jm_R 47), some (jm_I x1), none, none, none]) (by decide +kernel) rfl rfl (Nat.le_of_ble_eq_true rfl) ?_
  refine jm_aload_n jd_Order_prepare_0 rfl rfl ?_
  refine jm_gR jd_Order_prepare_1 jf_Order_13 jm_SH_47 rfl ?_
  refine jm_iload_n jd_Order_prepare_4 rfl rfl ?_
  refine jm_aload_n jd_Order_prepare_5 rfl rfl ?_
  refine jm_gR jd_Order_prepare_6 jf_Order_34 jm_SH_47 rfl ?_
  refine jm_iload_n jd_Order_prepare_9 rfl rfl ?_
  refine jm_cV (M' := jm_m_Row_firstSetter) (d' := 1) (av := [jm_I x1]) jd_Order_prepare_10 jk_Row_firstSetter jw_659 rfl (by omega) ⟨rfl, rfl⟩ (by decide) (Nat.le_of_ble_eq_true rfl) jm_SH_37 rfl rfl (jm_hqI (fun v1 h1 H => ?_)) H
  obtain ⟨hb2, H⟩ := H
  refine jm_iastore jd_Order_prepare_13 jm_SH_49 hb2 ?_
  refine jm_aload_n jd_Order_prepare_14 rfl rfl ?_
  refine jm_gR jd_Order_prepare_15 jf_Order_16 jm_SH_47 rfl ?_
  refine jm_iload_n jd_Order_prepare_18 rfl rfl ?_
  refine jm_aload_n jd_Order_prepare_19 rfl rfl ?_
  refine jm_gR jd_Order_prepare_20 jf_Order_34 jm_SH_47 rfl ?_
  refine jm_iload_n jd_Order_prepare_23 rfl rfl ?_
  refine jm_cV (M' := jm_m_Row_secondSetter) (d' := 1) (av := [jm_I x1]) jd_Order_prepare_24 jk_Row_secondSetter jw_660 rfl (by omega) ⟨rfl, rfl⟩ (by decide) (Nat.le_of_ble_eq_true rfl) jm_SH_37 rfl rfl (jm_hqI (fun v3 h3 H => ?_)) H
  obtain ⟨hb4, H⟩ := H
  refine jm_iastore jd_Order_prepare_27 jm_SH_50 hb4 ?_
  refine jm_aload_n jd_Order_prepare_28 rfl rfl ?_
  refine jm_gR jd_Order_prepare_29 jf_Order_9 jm_SH_47 rfl ?_
  refine jm_iload_n jd_Order_prepare_32 rfl rfl ?_
  refine jm_iconst jd_Order_prepare_33 (jm_o32c rfl) ?_
  obtain ⟨hb5, H⟩ := H
  refine jm_iastore jd_Order_prepare_34 jm_SH_48 hb5 ?_
  refine jm_iconst jd_Order_prepare_35 (jm_o32c rfl) ?_
  refine jm_istore_n (i := 2) jd_Order_prepare_36 rfl (by decide) (ls2 := [some (jm_R 47), some (jm_I x1), some (jm_I 0), none, none]) rfl ?_
  exact H
set_option maxRecDepth 4000 in
theorem jb_Order_prepare_37 {E : jm_Env} {x1 x2 : Int} {h : jm_H} {K : jm_H → Prop} (H : ((x1 ≤ x2) → (0 ≤ x1 ∧ x1 < 12) ∧ ((0 ≤ x1 ∧ x1 < 10) ∧ (jm_BV E jm_SH jm_m_Order_prepare 3 99 [some (jm_R 47), some (jm_I x1), some (jm_I (h 43 (Int.toNat x1))), some (jm_I (jm_w32 (x1 + 1))), none] [] (jm_up h 51 (Int.toNat x1) (h 43 (Int.toNat x1))) K))) ∧ ((¬ x1 ≤ x2) → (0 ≤ x1 ∧ x1 < 10) ∧ (jm_CI E jm_SH jm_m_Row_clash 2 [jm_R 37, jm_I x2, jm_I x1] h (fun v5 h5 => ((v5 = 0) → (0 ≤ x1 ∧ x1 < 10) ∧ (jm_BV E jm_SH jm_m_Order_prepare 3 37 [some (jm_R 47), some (jm_I x1), some (jm_I (jm_w32 (x2 + 1))), none, none] [] (jm_up h5 48 (Int.toNat x1) (jv_or (h 48 (Int.toNat x1)) 0)) K)) ∧ ((¬ v5 = 0) → (0 ≤ x1 ∧ x1 < 10) ∧ (jm_BV E jm_SH jm_m_Order_prepare 3 37 [some (jm_R 47), some (jm_I x1), some (jm_I (jm_w32 (x2 + 1))), none, none] [] (jm_up h5 48 (Int.toNat x1) (jv_or (h 48 (Int.toNat x1)) (jv_shl 1 x2))) K)))))) : jm_BV E jm_SH jm_m_Order_prepare 3 37 [some (jm_R 47), some (jm_I x1), some (jm_I x2), none, none] [] h K := by
  refine jm_iload_n jd_Order_prepare_37 rfl rfl ?_
  refine jm_iload_n jd_Order_prepare_38 rfl rfl ?_
  refine jm_icmp_ge (tgt := 76) jd_Order_prepare_39 rfl (fun hc1 => ?_) (fun hc1 => ?_)
  · replace H := H.1 hc1
    refine jm_aload_n jd_Order_prepare_76 rfl rfl ?_
    refine jm_gR jd_Order_prepare_77 jf_Order_34 jm_SH_47 rfl ?_
    refine jm_gR jd_Order_prepare_80 jf_Order_73 jm_SH_37 rfl ?_
    refine jm_iconst jd_Order_prepare_83 (jm_o32c rfl) ?_
    refine jm_aaload jd_Order_prepare_84 jm_SH_38 (by decide) (by decide) rfl ?_
    refine jm_iload_n jd_Order_prepare_85 rfl rfl ?_
    obtain ⟨hb2, H⟩ := H
    refine jm_iaload jd_Order_prepare_86 jm_SH_43 hb2 ?_
    refine jm_istore_n (i := 2) jd_Order_prepare_87 rfl (by decide) (ls2 := [some (jm_R 47), some (jm_I x1), some (jm_I (h 43 (Int.toNat x1))), none, none]) rfl ?_
    refine jm_aload_n jd_Order_prepare_88 rfl rfl ?_
    refine jm_gR jd_Order_prepare_89 jf_Order_19 jm_SH_47 rfl ?_
    refine jm_iload_n jd_Order_prepare_92 rfl rfl ?_
    refine jm_iload_n jd_Order_prepare_93 rfl rfl ?_
    obtain ⟨hb3, H⟩ := H
    refine jm_iastore jd_Order_prepare_94 jm_SH_51 hb3 ?_
    refine jm_iload_n jd_Order_prepare_95 rfl rfl ?_
    refine jm_iconst jd_Order_prepare_96 (jm_o32c rfl) ?_
    refine jm_iadd jd_Order_prepare_97 ?_
    refine jm_istore_n (i := 3) jd_Order_prepare_98 rfl (by decide) (ls2 := [some (jm_R 47), some (jm_I x1), some (jm_I (h 43 (Int.toNat x1))), some (jm_I (jm_w32 (x1 + 1))), none]) rfl ?_
    exact H
  · replace H := H.2 hc1
    refine jm_aload_n jd_Order_prepare_42 rfl rfl ?_
    refine jm_gR jd_Order_prepare_43 jf_Order_9 jm_SH_47 rfl ?_
    refine jm_iload_n jd_Order_prepare_46 rfl rfl ?_
    refine jm_dup2 jd_Order_prepare_47 rfl rfl ?_
    obtain ⟨hb4, H⟩ := H
    refine jm_iaload jd_Order_prepare_48 jm_SH_48 hb4 ?_
    refine jm_aload_n jd_Order_prepare_49 rfl rfl ?_
    refine jm_gR jd_Order_prepare_50 jf_Order_34 jm_SH_47 rfl ?_
    refine jm_iload_n jd_Order_prepare_53 rfl rfl ?_
    refine jm_iload_n jd_Order_prepare_54 rfl rfl ?_
    refine jm_cV (M' := jm_m_Row_clash) (d' := 2) (av := [jm_I x2, jm_I x1]) jd_Order_prepare_55 jk_Row_clash jw_661 rfl (by omega) ⟨rfl, rfl⟩ (by decide) (Nat.le_of_ble_eq_true rfl) jm_SH_37 rfl rfl (jm_hqI (fun v5 h5 H => ?_)) H
    refine jm_if_eq (tgt := 67) jd_Order_prepare_58 rfl (fun hc6 => ?_) (fun hc6 => ?_)
    · replace H := H.1 hc6
      refine jm_iconst jd_Order_prepare_67 (jm_o32c rfl) ?_
      refine jm_ior jd_Order_prepare_68 ?_
      obtain ⟨hb7, H⟩ := H
      refine jm_iastore jd_Order_prepare_69 jm_SH_48 hb7 ?_
      refine jm_iinc jd_Order_prepare_70 rfl (by decide) (ls2 := [some (jm_R 47), some (jm_I x1), some (jm_I (jm_w32 (x2 + 1))), none, none]) rfl ?_
      refine jm_goto (tgt := 37) jd_Order_prepare_73 rfl ?_
      exact H
    · replace H := H.2 hc6
      refine jm_iconst jd_Order_prepare_61 (jm_o32c rfl) ?_
      refine jm_iload_n jd_Order_prepare_62 rfl rfl ?_
      refine jm_ishl jd_Order_prepare_63 ?_
      refine jm_goto (tgt := 68) jd_Order_prepare_64 rfl ?_
      refine jm_ior jd_Order_prepare_68 ?_
      obtain ⟨hb8, H⟩ := H
      refine jm_iastore jd_Order_prepare_69 jm_SH_48 hb8 ?_
      refine jm_iinc jd_Order_prepare_70 rfl (by decide) (ls2 := [some (jm_R 47), some (jm_I x1), some (jm_I (jm_w32 (x2 + 1))), none, none]) rfl ?_
      refine jm_goto (tgt := 37) jd_Order_prepare_73 rfl ?_
      exact H
set_option maxRecDepth 4000 in
theorem jb_Order_prepare_99 {E : jm_Env} {x1 x2 x3 : Int} {h : jm_H} {K : jm_H → Prop} (H : ((h 47 10 ≤ x3) → K h) ∧ ((¬ h 47 10 ≤ x3) → (0 ≤ x3 ∧ x3 < 10) ∧ (((jv_and (jv_shr (h 48 (Int.toNat x3)) x1) 1 = 0) → jm_BV E jm_SH jm_m_Order_prepare 3 99 [some (jm_R 47), some (jm_I x1), some (jm_I x2), some (jm_I (jm_w32 (x3 + 1))), none] [] h K) ∧ ((¬ jv_and (jv_shr (h 48 (Int.toNat x3)) x1) 1 = 0) → (0 ≤ x3 ∧ x3 < 10) ∧ (((h 49 (Int.toNat x3) = x1) → jm_BV E jm_SH jm_m_Order_prepare 3 140 [some (jm_R 47), some (jm_I x1), some (jm_I x2), some (jm_I x3), none] [] h K) ∧ ((¬ h 49 (Int.toNat x3) = x1) → (0 ≤ x3 ∧ x3 < 10) ∧ (((¬ h 50 (Int.toNat x3) = x1) → (0 ≤ x1 ∧ x1 < 10) ∧ ((0 ≤ x3 ∧ x3 < 10) ∧ ((0 ≤ x1 ∧ x1 < 10) ∧ (jm_BV E jm_SH jm_m_Order_prepare 3 99 [some (jm_R 47), some (jm_I x1), some (jm_I x2), some (jm_I (jm_w32 (x3 + 1))), none] [] (jm_up h 51 (Int.toNat x1) (max (h 51 (Int.toNat x1)) (jm_w32 ((h 51 (Int.toNat x3)) + 1)))) K)))) ∧ ((h 50 (Int.toNat x3) = x1) → jm_BV E jm_SH jm_m_Order_prepare 3 140 [some (jm_R 47), some (jm_I x1), some (jm_I x2), some (jm_I x3), none] [] h K)))))))) : jm_BV E jm_SH jm_m_Order_prepare 3 99 [some (jm_R 47), some (jm_I x1), some (jm_I x2), some (jm_I x3), none] [] h K := by
  refine jm_iload_n jd_Order_prepare_99 rfl rfl ?_
  refine jm_aload_n jd_Order_prepare_100 rfl rfl ?_
  refine jm_gI jd_Order_prepare_101 jf_Order_48 jm_SH_47 ?_
  refine jm_icmp_ge (tgt := 185) jd_Order_prepare_104 rfl (fun hc1 => ?_) (fun hc1 => ?_)
  · replace H := H.1 hc1
    exact jm_vreturn jd_Order_prepare_185 rfl (by decide) ⟨rfl, rfl, H⟩
  · replace H := H.2 hc1
    refine jm_aload_n jd_Order_prepare_107 rfl rfl ?_
    refine jm_gR jd_Order_prepare_108 jf_Order_9 jm_SH_47 rfl ?_
    refine jm_iload_n jd_Order_prepare_111 rfl rfl ?_
    obtain ⟨hb2, H⟩ := H
    refine jm_iaload jd_Order_prepare_112 jm_SH_48 hb2 ?_
    refine jm_iload_n jd_Order_prepare_113 rfl rfl ?_
    refine jm_ishr jd_Order_prepare_114 ?_
    refine jm_iconst jd_Order_prepare_115 (jm_o32c rfl) ?_
    refine jm_iand jd_Order_prepare_116 ?_
    refine jm_if_eq (tgt := 179) jd_Order_prepare_117 rfl (fun hc3 => ?_) (fun hc3 => ?_)
    · replace H := H.1 hc3
      refine jm_iinc jd_Order_prepare_179 rfl (by decide) (ls2 := [some (jm_R 47), some (jm_I x1), some (jm_I x2), some (jm_I (jm_w32 (x3 + 1))), none]) rfl ?_
      refine jm_goto (tgt := 99) jd_Order_prepare_182 rfl ?_
      exact H
    · replace H := H.2 hc3
      refine jm_aload_n jd_Order_prepare_120 rfl rfl ?_
      refine jm_gR jd_Order_prepare_121 jf_Order_13 jm_SH_47 rfl ?_
      refine jm_iload_n jd_Order_prepare_124 rfl rfl ?_
      obtain ⟨hb4, H⟩ := H
      refine jm_iaload jd_Order_prepare_125 jm_SH_49 hb4 ?_
      refine jm_iload_n jd_Order_prepare_126 rfl rfl ?_
      refine jm_icmp_eq (tgt := 140) jd_Order_prepare_127 rfl (fun hc5 => ?_) (fun hc5 => ?_)
      · replace H := H.1 hc5
        exact H
      · replace H := H.2 hc5
        refine jm_aload_n jd_Order_prepare_130 rfl rfl ?_
        refine jm_gR jd_Order_prepare_131 jf_Order_16 jm_SH_47 rfl ?_
        refine jm_iload_n jd_Order_prepare_134 rfl rfl ?_
        obtain ⟨hb6, H⟩ := H
        refine jm_iaload jd_Order_prepare_135 jm_SH_50 hb6 ?_
        refine jm_iload_n jd_Order_prepare_136 rfl rfl ?_
        refine jm_icmp_ne (tgt := 144) jd_Order_prepare_137 rfl (fun hc7 => ?_) (fun hc7 => ?_)
        · replace H := H.1 hc7
          refine jm_iconst jd_Order_prepare_144 (jm_o32c rfl) ?_
          refine jm_istore (i := 4) jd_Order_prepare_145 (by decide) (ls2 := [some (jm_R 47), some (jm_I x1), some (jm_I x2), some (jm_I x3), some (jm_I 0)]) rfl ?_
          refine jm_aload_n jd_Order_prepare_147 rfl rfl ?_
          refine jm_gR jd_Order_prepare_148 jf_Order_19 jm_SH_47 rfl ?_
          refine jm_iload_n jd_Order_prepare_151 rfl rfl ?_
          refine jm_aload_n jd_Order_prepare_152 rfl rfl ?_
          refine jm_gR jd_Order_prepare_153 jf_Order_19 jm_SH_47 rfl ?_
          refine jm_iload_n jd_Order_prepare_156 rfl rfl ?_
          obtain ⟨hb8, H⟩ := H
          refine jm_iaload jd_Order_prepare_157 jm_SH_51 hb8 ?_
          refine jm_aload_n jd_Order_prepare_158 rfl rfl ?_
          refine jm_gR jd_Order_prepare_159 jf_Order_19 jm_SH_47 rfl ?_
          refine jm_iload_n jd_Order_prepare_162 rfl rfl ?_
          obtain ⟨hb9, H⟩ := H
          refine jm_iaload jd_Order_prepare_163 jm_SH_51 hb9 ?_
          refine jm_iload jd_Order_prepare_164 rfl ?_
          refine jm_if_eq (tgt := 173) jd_Order_prepare_166 rfl (fun hc10 => ?_) (fun hc10 => ?_)
          · refine jm_iconst jd_Order_prepare_173 (jm_o32c rfl) ?_
            refine jm_iadd jd_Order_prepare_174 ?_
            refine jm_max jd_Order_prepare_175 jw_662 jw_464 jw_13 jw_465 (by omega) (by decide) (Nat.le_of_ble_eq_true rfl) ?_
            obtain ⟨hb11, H⟩ := H
            refine jm_iastore jd_Order_prepare_178 jm_SH_51 hb11 ?_
            refine jm_iinc jd_Order_prepare_179 rfl (by decide) (ls2 := [some (jm_R 47), some (jm_I x1), some (jm_I x2), some (jm_I (jm_w32 (x3 + 1))), some (jm_I 0)]) rfl ?_
            refine jm_goto (tgt := 99) jd_Order_prepare_182 rfl ?_
            refine jm_keepG [true, true, true, true, false] (ls2 := [some (jm_R 47), some (jm_I x1), some (jm_I x2), some (jm_I (jm_w32 (x3 + 1))), none]) (by rfl) (by rfl) ?_
            exact H
          · exact absurd hc10 (by decide)
        · replace H := H.2 hc7
          exact H
set_option maxRecDepth 4000 in
theorem jb_Order_prepare_140 {E : jm_Env} {x1 x2 x3 : Int} {h : jm_H} {K : jm_H → Prop} (H : (0 ≤ x1 ∧ x1 < 10) ∧ ((0 ≤ x3 ∧ x3 < 10) ∧ ((0 ≤ x1 ∧ x1 < 10) ∧ (jm_BV E jm_SH jm_m_Order_prepare 3 99 [some (jm_R 47), some (jm_I x1), some (jm_I x2), some (jm_I (jm_w32 (x3 + 1))), none] [] (jm_up h 51 (Int.toNat x1) (max (h 51 (Int.toNat x1)) (jm_w32 ((h 51 (Int.toNat x3)) + x2)))) K)))) : jm_BV E jm_SH jm_m_Order_prepare 3 140 [some (jm_R 47), some (jm_I x1), some (jm_I x2), some (jm_I x3), none] [] h K := by
  refine jm_iconst jd_Order_prepare_140 (jm_o32c rfl) ?_
  refine jm_goto (tgt := 145) jd_Order_prepare_141 rfl ?_
  refine jm_istore (i := 4) jd_Order_prepare_145 (by decide) (ls2 := [some (jm_R 47), some (jm_I x1), some (jm_I x2), some (jm_I x3), some (jm_I 1)]) rfl ?_
  refine jm_aload_n jd_Order_prepare_147 rfl rfl ?_
  refine jm_gR jd_Order_prepare_148 jf_Order_19 jm_SH_47 rfl ?_
  refine jm_iload_n jd_Order_prepare_151 rfl rfl ?_
  refine jm_aload_n jd_Order_prepare_152 rfl rfl ?_
  refine jm_gR jd_Order_prepare_153 jf_Order_19 jm_SH_47 rfl ?_
  refine jm_iload_n jd_Order_prepare_156 rfl rfl ?_
  obtain ⟨hb1, H⟩ := H
  refine jm_iaload jd_Order_prepare_157 jm_SH_51 hb1 ?_
  refine jm_aload_n jd_Order_prepare_158 rfl rfl ?_
  refine jm_gR jd_Order_prepare_159 jf_Order_19 jm_SH_47 rfl ?_
  refine jm_iload_n jd_Order_prepare_162 rfl rfl ?_
  obtain ⟨hb2, H⟩ := H
  refine jm_iaload jd_Order_prepare_163 jm_SH_51 hb2 ?_
  refine jm_iload jd_Order_prepare_164 rfl ?_
  refine jm_if_eq (tgt := 173) jd_Order_prepare_166 rfl (fun hc3 => ?_) (fun hc3 => ?_)
  · exact absurd hc3 (by decide)
  · refine jm_iload_n jd_Order_prepare_169 rfl rfl ?_
    refine jm_goto (tgt := 174) jd_Order_prepare_170 rfl ?_
    refine jm_iadd jd_Order_prepare_174 ?_
    refine jm_max jd_Order_prepare_175 jw_662 jw_464 jw_13 jw_465 (by omega) (by decide) (Nat.le_of_ble_eq_true rfl) ?_
    obtain ⟨hb4, H⟩ := H
    refine jm_iastore jd_Order_prepare_178 jm_SH_51 hb4 ?_
    refine jm_iinc jd_Order_prepare_179 rfl (by decide) (ls2 := [some (jm_R 47), some (jm_I x1), some (jm_I x2), some (jm_I (jm_w32 (x3 + 1))), some (jm_I 1)]) rfl ?_
    refine jm_goto (tgt := 99) jd_Order_prepare_182 rfl ?_
    refine jm_keepG [true, true, true, true, false] (ls2 := [some (jm_R 47), some (jm_I x1), some (jm_I x2), some (jm_I (jm_w32 (x3 + 1))), none]) (by rfl) (by rfl) ?_
    exact H
set_option maxRecDepth 4000 in
theorem jb_Order_rankByTail {E : jm_Env} {x1 : Int} {h : jm_H} {K : jm_H → Prop} (H : jm_BV E jm_SH jm_m_Order_rankByTail 0 4 [some (jm_R 47), some (jm_I x1), some (jm_I x1), some (jm_I x1)] [] h K) : jm_CV E jm_SH jm_m_Order_rankByTail 0 [jm_R 47, jm_I x1] h K := by
  refine jm_body (ls0 := [some (jm_R 47), some (jm_I x1), none, none]) (by decide +kernel) rfl rfl (Nat.le_of_ble_eq_true rfl) ?_
  refine jm_iload_n jd_Order_rankByTail_0 rfl rfl ?_
  refine jm_istore_n (i := 2) jd_Order_rankByTail_1 rfl (by decide) (ls2 := [some (jm_R 47), some (jm_I x1), some (jm_I x1), none]) rfl ?_
  refine jm_iload_n jd_Order_rankByTail_2 rfl rfl ?_
  refine jm_istore_n (i := 3) jd_Order_rankByTail_3 rfl (by decide) (ls2 := [some (jm_R 47), some (jm_I x1), some (jm_I x1), some (jm_I x1)]) rfl ?_
  exact H
set_option maxRecDepth 4000 in
theorem jb_Order_rankByTail_4 {E : jm_Env} {x1 x2 x3 : Int} {h : jm_H} {K : jm_H → Prop} (H : ((x3 ≤ 0) → (0 ≤ x2 ∧ x2 < 10) ∧ (K (jm_up h 52 (Int.toNat x2) x1))) ∧ ((¬ x3 ≤ 0) → (0 ≤ jm_w32 (x3 - 1) ∧ jm_w32 (x3 - 1) < 10) ∧ ((0 ≤ h 52 (Int.toNat (jm_w32 (x3 - 1))) ∧ h 52 (Int.toNat (jm_w32 (x3 - 1))) < 10) ∧ ((0 ≤ x1 ∧ x1 < 10) ∧ (((h 51 (Int.toNat x1) ≤ h 51 (Int.toNat (h 52 (Int.toNat (jm_w32 (x3 - 1)))))) → (0 ≤ x2 ∧ x2 < 10) ∧ (K (jm_up h 52 (Int.toNat x2) x1))) ∧ ((¬ h 51 (Int.toNat x1) ≤ h 51 (Int.toNat (h 52 (Int.toNat (jm_w32 (x3 - 1)))))) → (0 ≤ jm_w32 (x3 - 1) ∧ jm_w32 (x3 - 1) < 10) ∧ ((0 ≤ x3 ∧ x3 < 10) ∧ (jm_BV E jm_SH jm_m_Order_rankByTail 0 4 [some (jm_R 47), some (jm_I x1), some (jm_I (jm_w32 (x3 - 1))), some (jm_I (jm_w32 (x3 + (-1))))] [] (jm_up h 52 (Int.toNat x3) (h 52 (Int.toNat (jm_w32 (x3 - 1))))) K)))))))) : jm_BV E jm_SH jm_m_Order_rankByTail 0 4 [some (jm_R 47), some (jm_I x1), some (jm_I x2), some (jm_I x3)] [] h K := by
  refine jm_iload_n jd_Order_rankByTail_4 rfl rfl ?_
  refine jm_if_le (tgt := 54) jd_Order_rankByTail_5 rfl (fun hc1 => ?_) (fun hc1 => ?_)
  · replace H := H.1 hc1
    refine jm_aload_n jd_Order_rankByTail_54 rfl rfl ?_
    refine jm_gR jd_Order_rankByTail_55 jf_Order_22 jm_SH_47 rfl ?_
    refine jm_iload_n jd_Order_rankByTail_58 rfl rfl ?_
    refine jm_iload_n jd_Order_rankByTail_59 rfl rfl ?_
    obtain ⟨hb2, H⟩ := H
    refine jm_iastore jd_Order_rankByTail_60 jm_SH_52 hb2 ?_
    exact jm_vreturn jd_Order_rankByTail_61 rfl (by decide) ⟨rfl, rfl, H⟩
  · replace H := H.2 hc1
    refine jm_aload_n jd_Order_rankByTail_8 rfl rfl ?_
    refine jm_gR jd_Order_rankByTail_9 jf_Order_19 jm_SH_47 rfl ?_
    refine jm_aload_n jd_Order_rankByTail_12 rfl rfl ?_
    refine jm_gR jd_Order_rankByTail_13 jf_Order_22 jm_SH_47 rfl ?_
    refine jm_iload_n jd_Order_rankByTail_16 rfl rfl ?_
    refine jm_iconst jd_Order_rankByTail_17 (jm_o32c rfl) ?_
    refine jm_isub jd_Order_rankByTail_18 ?_
    obtain ⟨hb3, H⟩ := H
    refine jm_iaload jd_Order_rankByTail_19 jm_SH_52 hb3 ?_
    obtain ⟨hb4, H⟩ := H
    refine jm_iaload jd_Order_rankByTail_20 jm_SH_51 hb4 ?_
    refine jm_aload_n jd_Order_rankByTail_21 rfl rfl ?_
    refine jm_gR jd_Order_rankByTail_22 jf_Order_19 jm_SH_47 rfl ?_
    refine jm_iload_n jd_Order_rankByTail_25 rfl rfl ?_
    obtain ⟨hb5, H⟩ := H
    refine jm_iaload jd_Order_rankByTail_26 jm_SH_51 hb5 ?_
    refine jm_icmp_ge (tgt := 54) jd_Order_rankByTail_27 rfl (fun hc6 => ?_) (fun hc6 => ?_)
    · replace H := H.1 hc6
      refine jm_aload_n jd_Order_rankByTail_54 rfl rfl ?_
      refine jm_gR jd_Order_rankByTail_55 jf_Order_22 jm_SH_47 rfl ?_
      refine jm_iload_n jd_Order_rankByTail_58 rfl rfl ?_
      refine jm_iload_n jd_Order_rankByTail_59 rfl rfl ?_
      obtain ⟨hb7, H⟩ := H
      refine jm_iastore jd_Order_rankByTail_60 jm_SH_52 hb7 ?_
      exact jm_vreturn jd_Order_rankByTail_61 rfl (by decide) ⟨rfl, rfl, H⟩
    · replace H := H.2 hc6
      refine jm_aload_n jd_Order_rankByTail_30 rfl rfl ?_
      refine jm_gR jd_Order_rankByTail_31 jf_Order_22 jm_SH_47 rfl ?_
      refine jm_iload_n jd_Order_rankByTail_34 rfl rfl ?_
      refine jm_aload_n jd_Order_rankByTail_35 rfl rfl ?_
      refine jm_gR jd_Order_rankByTail_36 jf_Order_22 jm_SH_47 rfl ?_
      refine jm_iload_n jd_Order_rankByTail_39 rfl rfl ?_
      refine jm_iconst jd_Order_rankByTail_40 (jm_o32c rfl) ?_
      refine jm_isub jd_Order_rankByTail_41 ?_
      obtain ⟨hb8, H⟩ := H
      refine jm_iaload jd_Order_rankByTail_42 jm_SH_52 hb8 ?_
      obtain ⟨hb9, H⟩ := H
      refine jm_iastore jd_Order_rankByTail_43 jm_SH_52 hb9 ?_
      refine jm_iload_n jd_Order_rankByTail_44 rfl rfl ?_
      refine jm_iconst jd_Order_rankByTail_45 (jm_o32c rfl) ?_
      refine jm_isub jd_Order_rankByTail_46 ?_
      refine jm_istore_n (i := 2) jd_Order_rankByTail_47 rfl (by decide) (ls2 := [some (jm_R 47), some (jm_I x1), some (jm_I (jm_w32 (x3 - 1))), some (jm_I x3)]) rfl ?_
      refine jm_iinc jd_Order_rankByTail_48 rfl (by decide) (ls2 := [some (jm_R 47), some (jm_I x1), some (jm_I (jm_w32 (x3 - 1))), some (jm_I (jm_w32 (x3 + (-1))))]) rfl ?_
      refine jm_goto (tgt := 4) jd_Order_rankByTail_51 rfl ?_
      exact H
set_option maxRecDepth 4000 in
theorem jb_Order_extend {E : jm_Env} {d : Nat} {dr : Nat} (hdr : dr + 1 ≤ d) (hdc : 3 ≤ d) {x1 x2 x3 : Int} {h : jm_H} {K : jm_H → Prop} (H : ((x1 < h 47 10) → jm_BV E jm_SH jm_m_Order_extend d 39 [some (jm_R 47), some (jm_I x1), some (jm_I x2), some (jm_I x3), some (jm_I 0), none] [] h K) ∧ ((¬ x1 < h 47 10) → jm_CI E jm_SH jm_m_Order_endAtLeast 2 [jm_R 47, jm_I x2, jm_I x3] h (fun v2 h2 => (0 ≤ h2 47 10 ∧ h2 47 10 ≤ 10) ∧ (K (jm_cpy (jm_up h2 47 9 v2) 54 55 (Int.toNat (h2 47 10))))))) : jm_CV E jm_SH jm_m_Order_extend d [jm_R 47, jm_I x1, jm_I x2, jm_I x3] h K := by
  refine jm_body (ls0 := [some (jm_R 47), some (jm_I x1), some (jm_I x2), some (jm_I x3), none, none]) (by decide +kernel) rfl rfl (Nat.le_of_ble_eq_true rfl) ?_
  refine jm_iload_n jd_Order_extend_0 rfl rfl ?_
  refine jm_aload_n jd_Order_extend_1 rfl rfl ?_
  refine jm_gI jd_Order_extend_2 jf_Order_48 jm_SH_47 ?_
  refine jm_icmp_lt (tgt := 36) jd_Order_extend_5 rfl (fun hc1 => ?_) (fun hc1 => ?_)
  · replace H := H.1 hc1
    refine jm_iconst jd_Order_extend_36 (jm_o32c rfl) ?_
    refine jm_istore (i := 4) jd_Order_extend_37 (by decide) (ls2 := [some (jm_R 47), some (jm_I x1), some (jm_I x2), some (jm_I x3), some (jm_I 0), none]) rfl ?_
    exact H
  · replace H := H.2 hc1
    refine jm_aload_n jd_Order_extend_8 rfl rfl ?_
    refine jm_aload_n jd_Order_extend_9 rfl rfl ?_
    refine jm_iload_n jd_Order_extend_10 rfl rfl ?_
    refine jm_iload_n jd_Order_extend_11 rfl rfl ?_
    refine jm_cV (M' := jm_m_Order_endAtLeast) (d' := 2) (av := [jm_I x2, jm_I x3]) jd_Order_extend_12 jk_Order_endAtLeast jw_672 rfl (by omega) ⟨rfl, rfl⟩ (by decide) (Nat.le_of_ble_eq_true rfl) jm_SH_47 rfl rfl (jm_hqI (fun v2 h2 H => ?_)) H
    refine jm_sI jd_Order_extend_15 jp_Order_57 jm_SH_47 ?_
    refine jm_aload_n jd_Order_extend_18 rfl rfl ?_
    refine jm_gR jd_Order_extend_19 jf_Order_28 jm_SH_47 rfl ?_
    refine jm_iconst jd_Order_extend_22 (jm_o32c rfl) ?_
    refine jm_aload_n jd_Order_extend_23 rfl rfl ?_
    refine jm_gR jd_Order_extend_24 jf_Order_31 jm_SH_47 rfl ?_
    refine jm_iconst jd_Order_extend_27 (jm_o32c rfl) ?_
    refine jm_aload_n jd_Order_extend_28 rfl rfl ?_
    refine jm_gI jd_Order_extend_29 jf_Order_48 jm_SH_47 ?_
    refine jm_topI (y := h2 47 10) rfl ?_
    obtain ⟨hb3, H⟩ := H
    refine jm_copy jd_Order_extend_32 jw_684 jw_686 jw_685 jw_14 jm_SH_54 jm_SH_55 (by decide) (by omega) (by omega) (Nat.le_of_ble_eq_true rfl) ?_
    exact jm_vreturn jd_Order_extend_35 rfl (by decide) ⟨rfl, rfl, H⟩
set_option maxRecDepth 4000 in
theorem jb_Order_extend_39 {E : jm_Env} {d : Nat} {dr : Nat} (hdr : dr + 1 ≤ d) (hdc : 3 ≤ d) {x1 x2 x3 x4 : Int} {h : jm_H} {K : jm_H → Prop} (H : ((h 47 10 ≤ x4) → K h) ∧ ((¬ h 47 10 ≤ x4) → ((¬ jv_and (jv_shr x2 x4) 1 = 0) → jm_BV E jm_SH jm_m_Order_extend d 39 [some (jm_R 47), some (jm_I x1), some (jm_I x2), some (jm_I x3), some (jm_I (jm_w32 (x4 + 1))), none] [] h K) ∧ ((jv_and (jv_shr x2 x4) 1 = 0) → (0 ≤ x4 ∧ x4 < 10) ∧ (((jv_and (h 48 (Int.toNat x4)) (jv_xor x2 (-1)) = 0) → jm_CI E jm_SH jm_m_Order_readyFor 1 [jm_R 47, jm_I x4, jm_I x2] h (fun v5 h5 => (0 ≤ x4 ∧ x4 < 10) ∧ ((0 ≤ x1 ∧ x1 < 10) ∧ ((0 ≤ x4 ∧ x4 < 10) ∧ (jm_CI E jm_SH jm_m_Order_endAtLeast 2 [jm_R 47, jm_I (jv_or x2 (jv_shl 1 x4)), jm_I ((jm_up h5 53 (Int.toNat x4) (max (jm_w32 (x3 + 1)) v5)) 53 (Int.toNat x4))] (jm_up (jm_up h5 53 (Int.toNat x4) (max (jm_w32 (x3 + 1)) v5)) 54 (Int.toNat x1) x4) (fun v9 h9 => ((h9 47 9 ≤ v9) → jm_BV E jm_SH jm_m_Order_extend d 39 [some (jm_R 47), some (jm_I x1), some (jm_I x2), some (jm_I x3), some (jm_I (jm_w32 (x4 + 1))), none] [] h9 K) ∧ ((¬ h9 47 9 ≤ v9) → (0 ≤ x4 ∧ x4 < 10) ∧ (jm_CV E jm_SH jm_m_Order_extend dr [jm_R 47, jm_I (jm_w32 (x1 + 1)), jm_I (jv_or x2 (jv_shl 1 x4)), jm_I (h9 53 (Int.toNat x4))] h9 (fun h12 => jm_BV E jm_SH jm_m_Order_extend d 39 [some (jm_R 47), some (jm_I x1), some (jm_I x2), some (jm_I x3), some (jm_I (jm_w32 (x4 + 1))), none] [] h12 K))))))))) ∧ ((¬ jv_and (h 48 (Int.toNat x4)) (jv_xor x2 (-1)) = 0) → jm_BV E jm_SH jm_m_Order_extend d 39 [some (jm_R 47), some (jm_I x1), some (jm_I x2), some (jm_I x3), some (jm_I (jm_w32 (x4 + 1))), none] [] h K))))) : jm_BV E jm_SH jm_m_Order_extend d 39 [some (jm_R 47), some (jm_I x1), some (jm_I x2), some (jm_I x3), some (jm_I x4), none] [] h K := by
  refine jm_iload jd_Order_extend_39 rfl ?_
  refine jm_aload_n jd_Order_extend_41 rfl rfl ?_
  refine jm_gI jd_Order_extend_42 jf_Order_48 jm_SH_47 ?_
  refine jm_icmp_ge (tgt := 152) jd_Order_extend_45 rfl (fun hc1 => ?_) (fun hc1 => ?_)
  · replace H := H.1 hc1
    exact jm_vreturn jd_Order_extend_152 rfl (by decide) ⟨rfl, rfl, H⟩
  · replace H := H.2 hc1
    refine jm_iload_n jd_Order_extend_48 rfl rfl ?_
    refine jm_iload jd_Order_extend_49 rfl ?_
    refine jm_ishr jd_Order_extend_51 ?_
    refine jm_iconst jd_Order_extend_52 (jm_o32c rfl) ?_
    refine jm_iand jd_Order_extend_53 ?_
    refine jm_if_ne (tgt := 146) jd_Order_extend_54 rfl (fun hc2 => ?_) (fun hc2 => ?_)
    · replace H := H.1 hc2
      refine jm_iinc jd_Order_extend_146 rfl (by decide) (ls2 := [some (jm_R 47), some (jm_I x1), some (jm_I x2), some (jm_I x3), some (jm_I (jm_w32 (x4 + 1))), none]) rfl ?_
      refine jm_goto (tgt := 39) jd_Order_extend_149 rfl ?_
      exact H
    · replace H := H.2 hc2
      refine jm_aload_n jd_Order_extend_57 rfl rfl ?_
      refine jm_gR jd_Order_extend_58 jf_Order_9 jm_SH_47 rfl ?_
      refine jm_iload jd_Order_extend_61 rfl ?_
      obtain ⟨hb3, H⟩ := H
      refine jm_iaload jd_Order_extend_63 jm_SH_48 hb3 ?_
      refine jm_iload_n jd_Order_extend_64 rfl rfl ?_
      refine jm_iconst jd_Order_extend_65 (jm_o32c rfl) ?_
      refine jm_ixor jd_Order_extend_66 ?_
      refine jm_iand jd_Order_extend_67 ?_
      refine jm_if_eq (tgt := 74) jd_Order_extend_68 rfl (fun hc4 => ?_) (fun hc4 => ?_)
      · replace H := H.1 hc4
        refine jm_aload_n jd_Order_extend_74 rfl rfl ?_
        refine jm_gR jd_Order_extend_75 jf_Order_25 jm_SH_47 rfl ?_
        refine jm_iload jd_Order_extend_78 rfl ?_
        refine jm_iload_n jd_Order_extend_80 rfl rfl ?_
        refine jm_iconst jd_Order_extend_81 (jm_o32c rfl) ?_
        refine jm_iadd jd_Order_extend_82 ?_
        refine jm_aload_n jd_Order_extend_83 rfl rfl ?_
        refine jm_iload jd_Order_extend_84 rfl ?_
        refine jm_iload_n jd_Order_extend_86 rfl rfl ?_
        refine jm_cV (M' := jm_m_Order_readyFor) (d' := 1) (av := [jm_I x4, jm_I x2]) jd_Order_extend_87 jk_Order_readyFor jw_676 rfl (by omega) ⟨rfl, rfl⟩ (by decide) (Nat.le_of_ble_eq_true rfl) jm_SH_47 rfl rfl (jm_hqI (fun v5 h5 H => ?_)) H
        refine jm_max jd_Order_extend_90 jw_662 jw_464 jw_13 jw_465 (by omega) (by decide) (Nat.le_of_ble_eq_true rfl) ?_
        obtain ⟨hb6, H⟩ := H
        refine jm_iastore jd_Order_extend_93 jm_SH_53 hb6 ?_
        refine jm_aload_n jd_Order_extend_94 rfl rfl ?_
        refine jm_gR jd_Order_extend_95 jf_Order_28 jm_SH_47 rfl ?_
        refine jm_iload_n jd_Order_extend_98 rfl rfl ?_
        refine jm_iload jd_Order_extend_99 rfl ?_
        obtain ⟨hb7, H⟩ := H
        refine jm_iastore jd_Order_extend_101 jm_SH_54 hb7 ?_
        refine jm_iload_n jd_Order_extend_102 rfl rfl ?_
        refine jm_iconst jd_Order_extend_103 (jm_o32c rfl) ?_
        refine jm_iload jd_Order_extend_104 rfl ?_
        refine jm_ishl jd_Order_extend_106 ?_
        refine jm_ior jd_Order_extend_107 ?_
        refine jm_istore (i := 5) jd_Order_extend_108 (by decide) (ls2 := [some (jm_R 47), some (jm_I x1), some (jm_I x2), some (jm_I x3), some (jm_I x4), some (jm_I (jv_or x2 (jv_shl 1 x4)))]) rfl ?_
        refine jm_aload_n jd_Order_extend_110 rfl rfl ?_
        refine jm_iload jd_Order_extend_111 rfl ?_
        refine jm_aload_n jd_Order_extend_113 rfl rfl ?_
        refine jm_gR jd_Order_extend_114 jf_Order_25 jm_SH_47 rfl ?_
        refine jm_iload jd_Order_extend_117 rfl ?_
        obtain ⟨hb8, H⟩ := H
        refine jm_iaload jd_Order_extend_119 jm_SH_53 hb8 ?_
        refine jm_topI (y := (jm_up h5 53 (Int.toNat x4) (max (jm_w32 (x3 + 1)) v5)) 53 (Int.toNat x4)) rfl ?_
        refine jm_cV (M' := jm_m_Order_endAtLeast) (d' := 2) (av := [jm_I (jv_or x2 (jv_shl 1 x4)), jm_I ((jm_up h5 53 (Int.toNat x4) (max (jm_w32 (x3 + 1)) v5)) 53 (Int.toNat x4))]) jd_Order_extend_120 jk_Order_endAtLeast jw_672 rfl (by omega) ⟨rfl, rfl⟩ (by decide) (Nat.le_of_ble_eq_true rfl) jm_SH_47 rfl rfl (jm_hqI (fun v9 h9 H => ?_)) H
        refine jm_aload_n jd_Order_extend_123 rfl rfl ?_
        refine jm_gI jd_Order_extend_124 jf_Order_57 jm_SH_47 ?_
        refine jm_icmp_ge (tgt := 146) jd_Order_extend_127 rfl (fun hc10 => ?_) (fun hc10 => ?_)
        · replace H := H.1 hc10
          refine jm_iinc jd_Order_extend_146 rfl (by decide) (ls2 := [some (jm_R 47), some (jm_I x1), some (jm_I x2), some (jm_I x3), some (jm_I (jm_w32 (x4 + 1))), some (jm_I (jv_or x2 (jv_shl 1 x4)))]) rfl ?_
          refine jm_goto (tgt := 39) jd_Order_extend_149 rfl ?_
          refine jm_keepG [true, true, true, true, true, false] (ls2 := [some (jm_R 47), some (jm_I x1), some (jm_I x2), some (jm_I x3), some (jm_I (jm_w32 (x4 + 1))), none]) (by rfl) (by rfl) ?_
          exact H
        · replace H := H.2 hc10
          refine jm_aload_n jd_Order_extend_130 rfl rfl ?_
          refine jm_iload_n jd_Order_extend_131 rfl rfl ?_
          refine jm_iconst jd_Order_extend_132 (jm_o32c rfl) ?_
          refine jm_iadd jd_Order_extend_133 ?_
          refine jm_iload jd_Order_extend_134 rfl ?_
          refine jm_aload_n jd_Order_extend_136 rfl rfl ?_
          refine jm_gR jd_Order_extend_137 jf_Order_25 jm_SH_47 rfl ?_
          refine jm_iload jd_Order_extend_140 rfl ?_
          obtain ⟨hb11, H⟩ := H
          refine jm_iaload jd_Order_extend_142 jm_SH_53 hb11 ?_
          refine jm_cV (M' := jm_m_Order_extend) (d' := dr) (av := [jm_I (jm_w32 (x1 + 1)), jm_I (jv_or x2 (jv_shl 1 x4)), jm_I (h9 53 (Int.toNat x4))]) jd_Order_extend_143 jk_Order_extend jw_668 rfl hdr ⟨rfl, rfl⟩ (by decide) (Nat.le_of_ble_eq_true rfl) jm_SH_47 rfl rfl (jm_hqV (fun h12 H => ?_)) H
          refine jm_iinc jd_Order_extend_146 rfl (by decide) (ls2 := [some (jm_R 47), some (jm_I x1), some (jm_I x2), some (jm_I x3), some (jm_I (jm_w32 (x4 + 1))), some (jm_I (jv_or x2 (jv_shl 1 x4)))]) rfl ?_
          refine jm_goto (tgt := 39) jd_Order_extend_149 rfl ?_
          refine jm_keepG [true, true, true, true, true, false] (ls2 := [some (jm_R 47), some (jm_I x1), some (jm_I x2), some (jm_I x3), some (jm_I (jm_w32 (x4 + 1))), none]) (by rfl) (by rfl) ?_
          exact H
      · replace H := H.2 hc4
        refine jm_goto (tgt := 146) jd_Order_extend_71 rfl ?_
        refine jm_iinc jd_Order_extend_146 rfl (by decide) (ls2 := [some (jm_R 47), some (jm_I x1), some (jm_I x2), some (jm_I x3), some (jm_I (jm_w32 (x4 + 1))), none]) rfl ?_
        refine jm_goto (tgt := 39) jd_Order_extend_149 rfl ?_
        exact H
set_option maxRecDepth 4000 in
theorem jb_Order_readyFor {E : jm_Env} {x1 x2 : Int} {h : jm_H} {K : Int → jm_H → Prop} (H : (0 ≤ x1 ∧ x1 < 10) ∧ (jm_CI E jm_SH jm_m_Order_readyAt 0 [jm_R 47, jm_I (h 49 (Int.toNat x1)), jm_I x2] h (fun v2 h2 => (0 ≤ x1 ∧ x1 < 10) ∧ (jm_CI E jm_SH jm_m_Order_readyAt 0 [jm_R 47, jm_I (h2 50 (Int.toNat x1)), jm_I x2] h2 (fun v4 h4 => K (max v2 v4) h4))))) : jm_CI E jm_SH jm_m_Order_readyFor 1 [jm_R 47, jm_I x1, jm_I x2] h K := by
  refine jm_body (ls0 := [some (jm_R 47), some (jm_I x1), some (jm_I x2)]) (by decide +kernel) rfl rfl (Nat.le_of_ble_eq_true rfl) ?_
  refine jm_aload_n jd_Order_readyFor_0 rfl rfl ?_
  refine jm_aload_n jd_Order_readyFor_1 rfl rfl ?_
  refine jm_gR jd_Order_readyFor_2 jf_Order_13 jm_SH_47 rfl ?_
  refine jm_iload_n jd_Order_readyFor_5 rfl rfl ?_
  obtain ⟨hb1, H⟩ := H
  refine jm_iaload jd_Order_readyFor_6 jm_SH_49 hb1 ?_
  refine jm_iload_n jd_Order_readyFor_7 rfl rfl ?_
  refine jm_cV (M' := jm_m_Order_readyAt) (d' := 0) (av := [jm_I (h 49 (Int.toNat x1)), jm_I x2]) jd_Order_readyFor_8 jk_Order_readyAt jw_680 rfl (by omega) ⟨rfl, rfl⟩ (by decide) (Nat.le_of_ble_eq_true rfl) jm_SH_47 rfl rfl (jm_hqI (fun v2 h2 H => ?_)) H
  refine jm_aload_n jd_Order_readyFor_11 rfl rfl ?_
  refine jm_aload_n jd_Order_readyFor_12 rfl rfl ?_
  refine jm_gR jd_Order_readyFor_13 jf_Order_16 jm_SH_47 rfl ?_
  refine jm_iload_n jd_Order_readyFor_16 rfl rfl ?_
  obtain ⟨hb3, H⟩ := H
  refine jm_iaload jd_Order_readyFor_17 jm_SH_50 hb3 ?_
  refine jm_iload_n jd_Order_readyFor_18 rfl rfl ?_
  refine jm_cV (M' := jm_m_Order_readyAt) (d' := 0) (av := [jm_I (h2 50 (Int.toNat x1)), jm_I x2]) jd_Order_readyFor_19 jk_Order_readyAt jw_680 rfl (by omega) ⟨rfl, rfl⟩ (by decide) (Nat.le_of_ble_eq_true rfl) jm_SH_47 rfl rfl (jm_hqI (fun v4 h4 H => ?_)) H
  refine jm_max jd_Order_readyFor_22 jw_662 jw_464 jw_13 jw_465 (by omega) (by decide) (Nat.le_of_ble_eq_true rfl) ?_
  exact jm_ireturn jd_Order_readyFor_25 rfl (by decide) ⟨rfl, _, rfl, H⟩
set_option maxRecDepth 4000 in
theorem jb_Order_readyAt {E : jm_Env} {x1 x2 : Int} {h : jm_H} {K : Int → jm_H → Prop} (H : ((x1 < 0) → K 0 h) ∧ ((¬ x1 < 0) → ((¬ jv_and (jv_shr x2 x1) 1 = 0) → (0 ≤ x1 ∧ x1 < 10) ∧ ((0 ≤ x1 ∧ x1 < 12) ∧ (K (jm_w32 ((h 53 (Int.toNat x1)) + (h 43 (Int.toNat x1)))) h))) ∧ ((jv_and (jv_shr x2 x1) 1 = 0) → K 0 h))) : jm_CI E jm_SH jm_m_Order_readyAt 0 [jm_R 47, jm_I x1, jm_I x2] h K := by
  refine jm_body (ls0 := [some (jm_R 47), some (jm_I x1), some (jm_I x2)]) (by decide +kernel) rfl rfl (Nat.le_of_ble_eq_true rfl) ?_
  refine jm_iload_n jd_Order_readyAt_0 rfl rfl ?_
  refine jm_if_lt (tgt := 12) jd_Order_readyAt_1 rfl (fun hc1 => ?_) (fun hc1 => ?_)
  · replace H := H.1 hc1
    refine jm_iconst jd_Order_readyAt_12 (jm_o32c rfl) ?_
    exact jm_ireturn jd_Order_readyAt_13 rfl (by decide) ⟨rfl, _, rfl, H⟩
  · replace H := H.2 hc1
    refine jm_iload_n jd_Order_readyAt_4 rfl rfl ?_
    refine jm_iload_n jd_Order_readyAt_5 rfl rfl ?_
    refine jm_ishr jd_Order_readyAt_6 ?_
    refine jm_iconst jd_Order_readyAt_7 (jm_o32c rfl) ?_
    refine jm_iand jd_Order_readyAt_8 ?_
    refine jm_if_ne (tgt := 14) jd_Order_readyAt_9 rfl (fun hc2 => ?_) (fun hc2 => ?_)
    · replace H := H.1 hc2
      refine jm_aload_n jd_Order_readyAt_14 rfl rfl ?_
      refine jm_gR jd_Order_readyAt_15 jf_Order_25 jm_SH_47 rfl ?_
      refine jm_iload_n jd_Order_readyAt_18 rfl rfl ?_
      obtain ⟨hb3, H⟩ := H
      refine jm_iaload jd_Order_readyAt_19 jm_SH_53 hb3 ?_
      refine jm_aload_n jd_Order_readyAt_20 rfl rfl ?_
      refine jm_gR jd_Order_readyAt_21 jf_Order_34 jm_SH_47 rfl ?_
      refine jm_gR jd_Order_readyAt_24 jf_Order_73 jm_SH_37 rfl ?_
      refine jm_iconst jd_Order_readyAt_27 (jm_o32c rfl) ?_
      refine jm_aaload jd_Order_readyAt_28 jm_SH_38 (by decide) (by decide) rfl ?_
      refine jm_iload_n jd_Order_readyAt_29 rfl rfl ?_
      obtain ⟨hb4, H⟩ := H
      refine jm_iaload jd_Order_readyAt_30 jm_SH_43 hb4 ?_
      refine jm_iadd jd_Order_readyAt_31 ?_
      exact jm_ireturn jd_Order_readyAt_32 rfl (by decide) ⟨rfl, _, rfl, H⟩
    · replace H := H.2 hc2
      refine jm_iconst jd_Order_readyAt_12 (jm_o32c rfl) ?_
      exact jm_ireturn jd_Order_readyAt_13 rfl (by decide) ⟨rfl, _, rfl, H⟩
set_option maxRecDepth 4000 in
theorem jb_Order_endAtLeast {E : jm_Env} {x1 x2 : Int} {h : jm_H} {K : Int → jm_H → Prop} (H : jm_BI E jm_SH jm_m_Order_endAtLeast 2 8 [some (jm_R 47), some (jm_I x1), none, some (jm_I 0), some (jm_I x2), some (jm_I 0), none] [] h K) : jm_CI E jm_SH jm_m_Order_endAtLeast 2 [jm_R 47, jm_I x1, jm_I x2] h K := by
  refine jm_body (ls0 := [some (jm_R 47), some (jm_I x1), some (jm_I x2), none, none, none, none]) (by decide +kernel) rfl rfl (Nat.le_of_ble_eq_true rfl) ?_
  refine jm_iconst jd_Order_endAtLeast_0 (jm_o32c rfl) ?_
  refine jm_istore_n (i := 3) jd_Order_endAtLeast_1 rfl (by decide) (ls2 := [some (jm_R 47), some (jm_I x1), some (jm_I x2), some (jm_I 0), none, none, none]) rfl ?_
  refine jm_iload_n jd_Order_endAtLeast_2 rfl rfl ?_
  refine jm_istore (i := 4) jd_Order_endAtLeast_3 (by decide) (ls2 := [some (jm_R 47), some (jm_I x1), some (jm_I x2), some (jm_I 0), some (jm_I x2), none, none]) rfl ?_
  refine jm_iconst jd_Order_endAtLeast_5 (jm_o32c rfl) ?_
  refine jm_istore (i := 5) jd_Order_endAtLeast_6 (by decide) (ls2 := [some (jm_R 47), some (jm_I x1), some (jm_I x2), some (jm_I 0), some (jm_I x2), some (jm_I 0), none]) rfl ?_
  refine jm_keepG [true, true, false, true, true, true, false] (ls2 := [some (jm_R 47), some (jm_I x1), none, some (jm_I 0), some (jm_I x2), some (jm_I 0), none]) (by rfl) (by rfl) ?_
  exact H
set_option maxRecDepth 4000 in
theorem jb_Order_endAtLeast_8 {E : jm_Env} {x1 x3 x4 x5 : Int} {h : jm_H} {K : Int → jm_H → Prop} (H : ((h 47 10 ≤ x5) → K x3 h) ∧ ((¬ h 47 10 ≤ x5) → (0 ≤ x5 ∧ x5 < 10) ∧ (((jv_and (jv_shr x1 (h 52 (Int.toNat x5))) 1 = 0) → jm_CI E jm_SH jm_m_Order_readyFor 1 [jm_R 47, jm_I (h 52 (Int.toNat x5)), jm_I x1] h (fun v4 h4 => (0 ≤ h 52 (Int.toNat x5) ∧ h 52 (Int.toNat x5) < 10) ∧ (jm_BI E jm_SH jm_m_Order_endAtLeast 2 8 [some (jm_R 47), some (jm_I x1), none, some (jm_I (max x3 (jm_w32 ((max (jm_w32 (x4 + 1)) v4) + (h4 51 (Int.toNat (h 52 (Int.toNat x5)))))))), some (jm_I (jm_w32 (x4 + 1))), some (jm_I (jm_w32 (x5 + 1))), none] [] h4 K))) ∧ ((¬ jv_and (jv_shr x1 (h 52 (Int.toNat x5))) 1 = 0) → (0 ≤ h 52 (Int.toNat x5) ∧ h 52 (Int.toNat x5) < 10) ∧ ((0 ≤ h 52 (Int.toNat x5) ∧ h 52 (Int.toNat x5) < 12) ∧ (jm_BI E jm_SH jm_m_Order_endAtLeast 2 8 [some (jm_R 47), some (jm_I x1), none, some (jm_I (max x3 (jm_w32 ((h 53 (Int.toNat (h 52 (Int.toNat x5)))) + (h 43 (Int.toNat (h 52 (Int.toNat x5)))))))), some (jm_I x4), some (jm_I (jm_w32 (x5 + 1))), none] [] h K)))))) : jm_BI E jm_SH jm_m_Order_endAtLeast 2 8 [some (jm_R 47), some (jm_I x1), none, some (jm_I x3), some (jm_I x4), some (jm_I x5), none] [] h K := by
  refine jm_iload jd_Order_endAtLeast_8 rfl ?_
  refine jm_aload_n jd_Order_endAtLeast_10 rfl rfl ?_
  refine jm_gI jd_Order_endAtLeast_11 jf_Order_48 jm_SH_47 ?_
  refine jm_icmp_ge (tgt := 97) jd_Order_endAtLeast_14 rfl (fun hc1 => ?_) (fun hc1 => ?_)
  · replace H := H.1 hc1
    refine jm_iload_n jd_Order_endAtLeast_97 rfl rfl ?_
    exact jm_ireturn jd_Order_endAtLeast_98 rfl (by decide) ⟨rfl, _, rfl, H⟩
  · replace H := H.2 hc1
    refine jm_aload_n jd_Order_endAtLeast_17 rfl rfl ?_
    refine jm_gR jd_Order_endAtLeast_18 jf_Order_22 jm_SH_47 rfl ?_
    refine jm_iload jd_Order_endAtLeast_21 rfl ?_
    obtain ⟨hb2, H⟩ := H
    refine jm_iaload jd_Order_endAtLeast_23 jm_SH_52 hb2 ?_
    refine jm_istore (i := 6) jd_Order_endAtLeast_24 (by decide) (ls2 := [some (jm_R 47), some (jm_I x1), none, some (jm_I x3), some (jm_I x4), some (jm_I x5), some (jm_I (h 52 (Int.toNat x5)))]) rfl ?_
    refine jm_iload_n jd_Order_endAtLeast_26 rfl rfl ?_
    refine jm_iload jd_Order_endAtLeast_27 rfl ?_
    refine jm_ishr jd_Order_endAtLeast_29 ?_
    refine jm_iconst jd_Order_endAtLeast_30 (jm_o32c rfl) ?_
    refine jm_iand jd_Order_endAtLeast_31 ?_
    refine jm_if_eq (tgt := 63) jd_Order_endAtLeast_32 rfl (fun hc3 => ?_) (fun hc3 => ?_)
    · replace H := H.1 hc3
      refine jm_iinc jd_Order_endAtLeast_63 rfl (by decide) (ls2 := [some (jm_R 47), some (jm_I x1), none, some (jm_I x3), some (jm_I (jm_w32 (x4 + 1))), some (jm_I x5), some (jm_I (h 52 (Int.toNat x5)))]) rfl ?_
      refine jm_iload_n jd_Order_endAtLeast_66 rfl rfl ?_
      refine jm_iload jd_Order_endAtLeast_67 rfl ?_
      refine jm_aload_n jd_Order_endAtLeast_69 rfl rfl ?_
      refine jm_iload jd_Order_endAtLeast_70 rfl ?_
      refine jm_iload_n jd_Order_endAtLeast_72 rfl rfl ?_
      refine jm_cV (M' := jm_m_Order_readyFor) (d' := 1) (av := [jm_I (h 52 (Int.toNat x5)), jm_I x1]) jd_Order_endAtLeast_73 jk_Order_readyFor jw_676 rfl (by omega) ⟨rfl, rfl⟩ (by decide) (Nat.le_of_ble_eq_true rfl) jm_SH_47 rfl rfl (jm_hqI (fun v4 h4 H => ?_)) H
      refine jm_max jd_Order_endAtLeast_76 jw_662 jw_464 jw_13 jw_465 (by omega) (by decide) (Nat.le_of_ble_eq_true rfl) ?_
      refine jm_aload_n jd_Order_endAtLeast_79 rfl rfl ?_
      refine jm_gR jd_Order_endAtLeast_80 jf_Order_19 jm_SH_47 rfl ?_
      refine jm_iload jd_Order_endAtLeast_83 rfl ?_
      obtain ⟨hb5, H⟩ := H
      refine jm_iaload jd_Order_endAtLeast_85 jm_SH_51 hb5 ?_
      refine jm_iadd jd_Order_endAtLeast_86 ?_
      refine jm_max jd_Order_endAtLeast_87 jw_662 jw_464 jw_13 jw_465 (by omega) (by decide) (Nat.le_of_ble_eq_true rfl) ?_
      refine jm_istore_n (i := 3) jd_Order_endAtLeast_90 rfl (by decide) (ls2 := [some (jm_R 47), some (jm_I x1), none, some (jm_I (max x3 (jm_w32 ((max (jm_w32 (x4 + 1)) v4) + (h4 51 (Int.toNat (h 52 (Int.toNat x5)))))))), some (jm_I (jm_w32 (x4 + 1))), some (jm_I x5), some (jm_I (h 52 (Int.toNat x5)))]) rfl ?_
      refine jm_iinc jd_Order_endAtLeast_91 rfl (by decide) (ls2 := [some (jm_R 47), some (jm_I x1), none, some (jm_I (max x3 (jm_w32 ((max (jm_w32 (x4 + 1)) v4) + (h4 51 (Int.toNat (h 52 (Int.toNat x5)))))))), some (jm_I (jm_w32 (x4 + 1))), some (jm_I (jm_w32 (x5 + 1))), some (jm_I (h 52 (Int.toNat x5)))]) rfl ?_
      refine jm_goto (tgt := 8) jd_Order_endAtLeast_94 rfl ?_
      refine jm_keepG [true, true, false, true, true, true, false] (ls2 := [some (jm_R 47), some (jm_I x1), none, some (jm_I (max x3 (jm_w32 ((max (jm_w32 (x4 + 1)) v4) + (h4 51 (Int.toNat (h 52 (Int.toNat x5)))))))), some (jm_I (jm_w32 (x4 + 1))), some (jm_I (jm_w32 (x5 + 1))), none]) (by rfl) (by rfl) ?_
      exact H
    · replace H := H.2 hc3
      refine jm_iload_n jd_Order_endAtLeast_35 rfl rfl ?_
      refine jm_aload_n jd_Order_endAtLeast_36 rfl rfl ?_
      refine jm_gR jd_Order_endAtLeast_37 jf_Order_25 jm_SH_47 rfl ?_
      refine jm_iload jd_Order_endAtLeast_40 rfl ?_
      obtain ⟨hb6, H⟩ := H
      refine jm_iaload jd_Order_endAtLeast_42 jm_SH_53 hb6 ?_
      refine jm_aload_n jd_Order_endAtLeast_43 rfl rfl ?_
      refine jm_gR jd_Order_endAtLeast_44 jf_Order_34 jm_SH_47 rfl ?_
      refine jm_gR jd_Order_endAtLeast_47 jf_Order_73 jm_SH_37 rfl ?_
      refine jm_iconst jd_Order_endAtLeast_50 (jm_o32c rfl) ?_
      refine jm_aaload jd_Order_endAtLeast_51 jm_SH_38 (by decide) (by decide) rfl ?_
      refine jm_iload jd_Order_endAtLeast_52 rfl ?_
      obtain ⟨hb7, H⟩ := H
      refine jm_iaload jd_Order_endAtLeast_54 jm_SH_43 hb7 ?_
      refine jm_iadd jd_Order_endAtLeast_55 ?_
      refine jm_max jd_Order_endAtLeast_56 jw_662 jw_464 jw_13 jw_465 (by omega) (by decide) (Nat.le_of_ble_eq_true rfl) ?_
      refine jm_istore_n (i := 3) jd_Order_endAtLeast_59 rfl (by decide) (ls2 := [some (jm_R 47), some (jm_I x1), none, some (jm_I (max x3 (jm_w32 ((h 53 (Int.toNat (h 52 (Int.toNat x5)))) + (h 43 (Int.toNat (h 52 (Int.toNat x5)))))))), some (jm_I x4), some (jm_I x5), some (jm_I (h 52 (Int.toNat x5)))]) rfl ?_
      refine jm_goto (tgt := 91) jd_Order_endAtLeast_60 rfl ?_
      refine jm_iinc jd_Order_endAtLeast_91 rfl (by decide) (ls2 := [some (jm_R 47), some (jm_I x1), none, some (jm_I (max x3 (jm_w32 ((h 53 (Int.toNat (h 52 (Int.toNat x5)))) + (h 43 (Int.toNat (h 52 (Int.toNat x5)))))))), some (jm_I x4), some (jm_I (jm_w32 (x5 + 1))), some (jm_I (h 52 (Int.toNat x5)))]) rfl ?_
      refine jm_goto (tgt := 8) jd_Order_endAtLeast_94 rfl ?_
      refine jm_keepG [true, true, false, true, true, true, false] (ls2 := [some (jm_R 47), some (jm_I x1), none, some (jm_I (max x3 (jm_w32 ((h 53 (Int.toNat (h 52 (Int.toNat x5)))) + (h 43 (Int.toNat (h 52 (Int.toNat x5)))))))), some (jm_I x4), some (jm_I (jm_w32 (x5 + 1))), none]) (by rfl) (by rfl) ?_
      exact H
