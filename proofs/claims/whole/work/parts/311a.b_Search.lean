set_option maxRecDepth 4000 in
theorem jb_Search_codeAt {E : jm_Env} {x1 : Int} {h : jm_H} {K : Int → jm_H → Prop} (H : (0 ≤ x1 ∧ x1 < 3) ∧ ((0 ≤ x1 ∧ x1 < 3) ∧ ((0 ≤ x1 ∧ x1 < 3) ∧ ((0 ≤ x1 ∧ x1 < 3) ∧ (K (jm_w32 ((jm_w32 ((jm_w32 ((jm_w32 (1000 * (h 74 (Int.toNat x1)))) + (jm_w32 (100 * (h 75 (Int.toNat x1)))))) + (jm_w32 (10 * (h 76 (Int.toNat x1)))))) + (h 77 (Int.toNat x1)))) h))))) : jm_CI E jm_SH jm_m_Search_codeAt 0 [jm_R 61, jm_I x1] h K := by
  refine jm_body (ls0 := [some (jm_R 61), some (jm_I x1)]) (by decide +kernel) rfl rfl (Nat.le_of_ble_eq_true rfl) ?_
  refine jm_sipush jd_Search_codeAt_0 js_1000 ?_
  refine jm_aload_n jd_Search_codeAt_3 rfl rfl ?_
  refine jm_gR jd_Search_codeAt_4 jf_Search_28 jm_SH_61 rfl ?_
  refine jm_iload_n jd_Search_codeAt_7 rfl rfl ?_
  obtain ⟨hb1, H⟩ := H
  refine jm_iaload jd_Search_codeAt_8 jm_SH_74 hb1 ?_
  refine jm_imul jd_Search_codeAt_9 ?_
  refine jm_bipush jd_Search_codeAt_10 jb_100 ?_
  refine jm_aload_n jd_Search_codeAt_12 rfl rfl ?_
  refine jm_gR jd_Search_codeAt_13 jf_Search_32 jm_SH_61 rfl ?_
  refine jm_iload_n jd_Search_codeAt_16 rfl rfl ?_
  obtain ⟨hb2, H⟩ := H
  refine jm_iaload jd_Search_codeAt_17 jm_SH_75 hb2 ?_
  refine jm_imul jd_Search_codeAt_18 ?_
  refine jm_iadd jd_Search_codeAt_19 ?_
  refine jm_bipush jd_Search_codeAt_20 jb_10 ?_
  refine jm_aload_n jd_Search_codeAt_22 rfl rfl ?_
  refine jm_gR jd_Search_codeAt_23 jf_Search_35 jm_SH_61 rfl ?_
  refine jm_iload_n jd_Search_codeAt_26 rfl rfl ?_
  obtain ⟨hb3, H⟩ := H
  refine jm_iaload jd_Search_codeAt_27 jm_SH_76 hb3 ?_
  refine jm_imul jd_Search_codeAt_28 ?_
  refine jm_iadd jd_Search_codeAt_29 ?_
  refine jm_aload_n jd_Search_codeAt_30 rfl rfl ?_
  refine jm_gR jd_Search_codeAt_31 jf_Search_38 jm_SH_61 rfl ?_
  refine jm_iload_n jd_Search_codeAt_34 rfl rfl ?_
  obtain ⟨hb4, H⟩ := H
  refine jm_iaload jd_Search_codeAt_35 jm_SH_77 hb4 ?_
  refine jm_iadd jd_Search_codeAt_36 ?_
  exact jm_ireturn jd_Search_codeAt_37 rfl (by decide) ⟨rfl, _, rfl, H⟩
set_option maxRecDepth 4000 in
theorem jb_Search_refresh {E : jm_Env} {x1 : Int} {h : jm_H} {K : jm_H → Prop} (H : ((h 61 12 = h 37 4) → jm_BV E jm_SH jm_m_Search_refresh 17 88 [some (jm_R 61), some (jm_I x1), none] [] h K) ∧ ((¬ h 61 12 = h 37 4) → jm_CV E jm_SH jm_m_Search_begin 1 [jm_R 70, jm_I 0] (jm_up (jm_up (jm_up h 61 12 (h 37 4)) 61 10 (-1)) 61 11 (-1)) (fun h2 => jm_BV E jm_SH jm_m_Search_refresh 17 47 [some (jm_R 61), some (jm_I x1), some (jm_I 0)] [] h2 K))) : jm_CV E jm_SH jm_m_Search_refresh 17 [jm_R 61, jm_I x1] h K := by
  refine jm_body (ls0 := [some (jm_R 61), some (jm_I x1), none]) (by decide +kernel) rfl rfl (Nat.le_of_ble_eq_true rfl) ?_
  refine jm_aload_n jd_Search_refresh_0 rfl rfl ?_
  refine jm_gI jd_Search_refresh_1 jf_Search_56 jm_SH_61 ?_
  refine jm_aload_n jd_Search_refresh_4 rfl rfl ?_
  refine jm_gR jd_Search_refresh_5 jf_Search_48 jm_SH_61 rfl ?_
  refine jm_gI jd_Search_refresh_8 jf_Search_59 jm_SH_37 ?_
  refine jm_icmp_eq (tgt := 88) jd_Search_refresh_11 rfl (fun hc1 => ?_) (fun hc1 => ?_)
  · replace H := H.1 hc1
    exact H
  · replace H := H.2 hc1
    refine jm_aload_n jd_Search_refresh_14 rfl rfl ?_
    refine jm_aload_n jd_Search_refresh_15 rfl rfl ?_
    refine jm_gR jd_Search_refresh_16 jf_Search_48 jm_SH_61 rfl ?_
    refine jm_gI jd_Search_refresh_19 jf_Search_59 jm_SH_37 ?_
    refine jm_sI jd_Search_refresh_22 jp_Search_56 jm_SH_61 ?_
    refine jm_aload_n jd_Search_refresh_25 rfl rfl ?_
    refine jm_iconst jd_Search_refresh_26 (jm_o32c rfl) ?_
    refine jm_sI jd_Search_refresh_27 jp_Search_41 jm_SH_61 ?_
    refine jm_aload_n jd_Search_refresh_30 rfl rfl ?_
    refine jm_iconst jd_Search_refresh_31 (jm_o32c rfl) ?_
    refine jm_sI jd_Search_refresh_32 jp_Search_45 jm_SH_61 ?_
    refine jm_aload_n jd_Search_refresh_35 rfl rfl ?_
    refine jm_gR jd_Search_refresh_36 jf_Search_22 jm_SH_61 rfl ?_
    refine jm_iconst jd_Search_refresh_39 (jm_o32c rfl) ?_
    refine jm_aaload jd_Search_refresh_40 jm_SH_69 (by decide) (by decide) rfl ?_
    refine jm_iconst jd_Search_refresh_41 (jm_o32c rfl) ?_
    refine jm_cS (M' := jm_m_Search_begin) (d' := 1) (av := [jm_R 70, jm_I 0]) jd_Search_refresh_42 jk_Search_begin jw_782 rfl (by omega) ⟨rfl, rfl⟩ (by decide) (Nat.le_of_ble_eq_true rfl) (jm_hqV (fun h2 H => ?_)) H
    refine jm_iconst jd_Search_refresh_45 (jm_o32c rfl) ?_
    refine jm_istore_n (i := 2) jd_Search_refresh_46 rfl (by decide) (ls2 := [some (jm_R 61), some (jm_I x1), some (jm_I 0)]) rfl ?_
    exact H
set_option maxRecDepth 4000 in
theorem jb_Search_refresh_47 {E : jm_Env} {x1 x2 : Int} {h : jm_H} {K : jm_H → Prop} (H : ((16 ≤ x2) → jm_BV E jm_SH jm_m_Search_refresh 17 88 [some (jm_R 61), some (jm_I x1), none] [] h K) ∧ ((¬ 16 ≤ x2) → jm_CL E jm_SH jm_m_Search_wordsOfB 0 [jm_I x2] h (fun v2 h2 => jm_CV E jm_SH jm_m_Machine_behindRow 1 [jm_R 59, jm_L (-81985529216486896), jm_L v2] h2 (fun h3 => (0 ≤ x2 ∧ x2 < 16) ∧ (jm_BV E jm_SH jm_m_Search_refresh 17 47 [some (jm_R 61), some (jm_I x1), some (jm_I (jm_w32 (x2 + 1)))] [] (jm_up h3 68 (Int.toNat x2) (h3 60 0)) K))))) : jm_BV E jm_SH jm_m_Search_refresh 17 47 [some (jm_R 61), some (jm_I x1), some (jm_I x2)] [] h K := by
  refine jm_iload_n jd_Search_refresh_47 rfl rfl ?_
  refine jm_bipush jd_Search_refresh_48 jb_16 ?_
  refine jm_icmp_ge (tgt := 88) jd_Search_refresh_50 rfl (fun hc1 => ?_) (fun hc1 => ?_)
  · replace H := H.1 hc1
    refine jm_keepG [true, true, false] (ls2 := [some (jm_R 61), some (jm_I x1), none]) (by rfl) (by rfl) ?_
    exact H
  · replace H := H.2 hc1
    refine jm_aload_n jd_Search_refresh_53 rfl rfl ?_
    refine jm_gR jd_Search_refresh_54 jf_Search_52 jm_SH_61 rfl ?_
    refine jm_ldc2 (x := -81985529216486896) jd_Search_refresh_57 jc_785 (jm_o64c rfl) ?_
    refine jm_iload_n jd_Search_refresh_60 rfl rfl ?_
    refine jm_cS (M' := jm_m_Search_wordsOfB) (d' := 0) (av := [jm_I x2]) jd_Search_refresh_61 jk_Search_wordsOfB jw_786 rfl (by omega) ⟨rfl, rfl⟩ (by decide) (Nat.le_of_ble_eq_true rfl) (jm_hqL (fun v2 h2 H => ?_)) H
    refine jm_cV (M' := jm_m_Machine_behindRow) (d' := 1) (av := [jm_L (-81985529216486896), jm_L v2]) jd_Search_refresh_64 jk_Machine_behindRow jw_791 rfl (by omega) ⟨rfl, rfl⟩ (by decide) (Nat.le_of_ble_eq_true rfl) jm_SH_59 rfl rfl (jm_hqV (fun h3 H => ?_)) H
    refine jm_aload_n jd_Search_refresh_67 rfl rfl ?_
    refine jm_gR jd_Search_refresh_68 jf_Search_16 jm_SH_61 rfl ?_
    refine jm_iload_n jd_Search_refresh_71 rfl rfl ?_
    refine jm_aload_n jd_Search_refresh_72 rfl rfl ?_
    refine jm_gR jd_Search_refresh_73 jf_Search_52 jm_SH_61 rfl ?_
    refine jm_gR jd_Search_refresh_76 jf_Search_78 jm_SH_59 rfl ?_
    refine jm_iconst jd_Search_refresh_79 (jm_o32c rfl) ?_
    refine jm_laload jd_Search_refresh_80 jm_SH_60 (by decide) ?_
    refine jm_topL (y := h3 60 0) rfl ?_
    obtain ⟨hb4, H⟩ := H
    refine jm_lastore jd_Search_refresh_81 jm_SH_68 hb4 ?_
    refine jm_iinc jd_Search_refresh_82 rfl (by decide) (ls2 := [some (jm_R 61), some (jm_I x1), some (jm_I (jm_w32 (x2 + 1)))]) rfl ?_
    refine jm_goto (tgt := 47) jd_Search_refresh_85 rfl ?_
    exact H
set_option maxRecDepth 4000 in
theorem jb_Search_refresh_88 {E : jm_Env} {x1 : Int} {h : jm_H} {K : jm_H → Prop} (H : ((0 ≤ h 61 10) → K h) ∧ ((¬ 0 ≤ h 61 10) → ((x1 ≤ h 61 11) → K h) ∧ ((¬ x1 ≤ h 61 11) → ((3 ≤ h 61 11) → K h) ∧ ((¬ 3 ≤ h 61 11) → ((¬ jm_w32 ((h 61 11) + 1) = 0) → jm_CI E jm_SH jm_m_Search_find 16 [jm_R 61, jm_I 0, jm_I (jm_w32 ((h 61 11) + 1)), jm_I 0] (jm_up h 61 11 (jm_w32 ((h 61 11) + 1))) (fun v5 h5 => ((v5 = 0) → jm_BV E jm_SH jm_m_Search_refresh 17 88 [some (jm_R 61), some (jm_I x1), none] [] h5 K) ∧ ((¬ v5 = 0) → jm_BV E jm_SH jm_m_Search_refresh 17 88 [some (jm_R 61), some (jm_I x1), none] [] (jm_up h5 61 10 (h5 61 11)) K))) ∧ ((jm_w32 ((h 61 11) + 1) = 0) → jm_CI E jm_SH jm_m_Search_doesAll 2 [jm_R 61, jm_I 0] (jm_up h 61 11 (jm_w32 ((h 61 11) + 1))) (fun v7 h7 => ((v7 = 0) → jm_BV E jm_SH jm_m_Search_refresh 17 88 [some (jm_R 61), some (jm_I x1), none] [] h7 K) ∧ ((¬ v7 = 0) → jm_BV E jm_SH jm_m_Search_refresh 17 88 [some (jm_R 61), some (jm_I x1), none] [] (jm_up h7 61 10 (h7 61 11)) K))))))) : jm_BV E jm_SH jm_m_Search_refresh 17 88 [some (jm_R 61), some (jm_I x1), none] [] h K := by
  refine jm_aload_n jd_Search_refresh_88 rfl rfl ?_
  refine jm_gI jd_Search_refresh_89 jf_Search_41 jm_SH_61 ?_
  refine jm_if_ge (tgt := 163) jd_Search_refresh_92 rfl (fun hc1 => ?_) (fun hc1 => ?_)
  · replace H := H.1 hc1
    exact jm_vreturn jd_Search_refresh_163 rfl (by decide) ⟨rfl, rfl, H⟩
  · replace H := H.2 hc1
    refine jm_aload_n jd_Search_refresh_95 rfl rfl ?_
    refine jm_gI jd_Search_refresh_96 jf_Search_45 jm_SH_61 ?_
    refine jm_iload_n jd_Search_refresh_99 rfl rfl ?_
    refine jm_icmp_ge (tgt := 163) jd_Search_refresh_100 rfl (fun hc2 => ?_) (fun hc2 => ?_)
    · replace H := H.1 hc2
      exact jm_vreturn jd_Search_refresh_163 rfl (by decide) ⟨rfl, rfl, H⟩
    · replace H := H.2 hc2
      refine jm_aload_n jd_Search_refresh_103 rfl rfl ?_
      refine jm_gI jd_Search_refresh_104 jf_Search_45 jm_SH_61 ?_
      refine jm_iconst jd_Search_refresh_107 (jm_o32c rfl) ?_
      refine jm_icmp_ge (tgt := 163) jd_Search_refresh_108 rfl (fun hc3 => ?_) (fun hc3 => ?_)
      · replace H := H.1 hc3
        exact jm_vreturn jd_Search_refresh_163 rfl (by decide) ⟨rfl, rfl, H⟩
      · replace H := H.2 hc3
        refine jm_aload_n jd_Search_refresh_111 rfl rfl ?_
        refine jm_dup jd_Search_refresh_112 rfl ?_
        refine jm_gI jd_Search_refresh_113 jf_Search_45 jm_SH_61 ?_
        refine jm_iconst jd_Search_refresh_116 (jm_o32c rfl) ?_
        refine jm_iadd jd_Search_refresh_117 ?_
        refine jm_sI jd_Search_refresh_118 jp_Search_45 jm_SH_61 ?_
        refine jm_aload_n jd_Search_refresh_121 rfl rfl ?_
        refine jm_gI jd_Search_refresh_122 jf_Search_45 jm_SH_61 ?_
        refine jm_topI (y := jm_w32 ((h 61 11) + 1)) rfl ?_
        refine jm_if_ne (tgt := 139) jd_Search_refresh_125 rfl (fun hc4 => ?_) (fun hc4 => ?_)
        · replace H := H.1 hc4
          refine jm_aload_n jd_Search_refresh_139 rfl rfl ?_
          refine jm_iconst jd_Search_refresh_140 (jm_o32c rfl) ?_
          refine jm_aload_n jd_Search_refresh_141 rfl rfl ?_
          refine jm_gI jd_Search_refresh_142 jf_Search_45 jm_SH_61 ?_
          refine jm_topI (y := jm_w32 ((h 61 11) + 1)) rfl ?_
          refine jm_iconst jd_Search_refresh_145 (jm_o32c rfl) ?_
          refine jm_cV (M' := jm_m_Search_find) (d' := 16) (av := [jm_I 0, jm_I (jm_w32 ((h 61 11) + 1)), jm_I 0]) jd_Search_refresh_146 jk_Search_find jw_797 rfl (by omega) ⟨rfl, rfl⟩ (by decide) (Nat.le_of_ble_eq_true rfl) jm_SH_61 rfl rfl (jm_hqI (fun v5 h5 H => ?_)) H
          refine jm_if_eq (tgt := 88) jd_Search_refresh_149 rfl (fun hc6 => ?_) (fun hc6 => ?_)
          · replace H := H.1 hc6
            exact H
          · replace H := H.2 hc6
            refine jm_aload_n jd_Search_refresh_152 rfl rfl ?_
            refine jm_aload_n jd_Search_refresh_153 rfl rfl ?_
            refine jm_gI jd_Search_refresh_154 jf_Search_45 jm_SH_61 ?_
            refine jm_sI jd_Search_refresh_157 jp_Search_41 jm_SH_61 ?_
            refine jm_goto (tgt := 88) jd_Search_refresh_160 rfl ?_
            exact H
        · replace H := H.2 hc4
          refine jm_aload_n jd_Search_refresh_128 rfl rfl ?_
          refine jm_iconst jd_Search_refresh_129 (jm_o32c rfl) ?_
          refine jm_cV (M' := jm_m_Search_doesAll) (d' := 2) (av := [jm_I 0]) jd_Search_refresh_130 jk_Search_doesAll jw_792 rfl (by omega) ⟨rfl, rfl⟩ (by decide) (Nat.le_of_ble_eq_true rfl) jm_SH_61 rfl rfl (jm_hqI (fun v7 h7 H => ?_)) H
          refine jm_if_eq (tgt := 88) jd_Search_refresh_133 rfl (fun hc8 => ?_) (fun hc8 => ?_)
          · replace H := H.1 hc8
            exact H
          · replace H := H.2 hc8
            refine jm_goto (tgt := 152) jd_Search_refresh_136 rfl ?_
            refine jm_aload_n jd_Search_refresh_152 rfl rfl ?_
            refine jm_aload_n jd_Search_refresh_153 rfl rfl ?_
            refine jm_gI jd_Search_refresh_154 jf_Search_45 jm_SH_61 ?_
            refine jm_sI jd_Search_refresh_157 jp_Search_41 jm_SH_61 ?_
            refine jm_goto (tgt := 88) jd_Search_refresh_160 rfl ?_
            exact H
set_option maxRecDepth 4000 in
theorem jb_Search_wordsOfB {E : jm_Env} {x0 : Int} {h : jm_H} {K : Int → jm_H → Prop} (H : K (jv_lxor 4364540684564061060 (jm_w64 (x0 * 1229782938247303441))) h) : jm_CL E jm_SH jm_m_Search_wordsOfB 0 [jm_I x0] h K := by
  refine jm_body (ls0 := [some (jm_I x0)]) (by decide +kernel) rfl rfl (Nat.le_of_ble_eq_true rfl) ?_
  refine jm_ldc2 (x := 4364540684564061060) jd_Search_wordsOfB_0 jc_789 (jm_o64c rfl) ?_
  refine jm_iload_n jd_Search_wordsOfB_3 rfl rfl ?_
  refine jm_i2l jd_Search_wordsOfB_4 ?_
  refine jm_ldc2 (x := 1229782938247303441) jd_Search_wordsOfB_5 jc_790 (jm_o64c rfl) ?_
  refine jm_lmul jd_Search_wordsOfB_8 ?_
  refine jm_lxor jd_Search_wordsOfB_9 ?_
  exact jm_lreturn jd_Search_wordsOfB_10 rfl (by decide) ⟨rfl, _, rfl, H⟩
set_option maxRecDepth 4000 in
theorem jb_Search_begin_70 {E : jm_Env} {x1 : Int} {h : jm_H} {K : jm_H → Prop} (H : jm_CL E jm_SH jm_m_Search_wordsOfB 0 [jm_I x1] (jm_up h 70 0 (-81985529216486896)) (fun v1 h1 => K (jm_up (jm_up h1 70 1 v1) 70 2 0))) : jm_CV E jm_SH jm_m_Search_begin 1 [jm_R 70, jm_I x1] h K := by
  refine jm_body (ls0 := [some (jm_R 70), some (jm_I x1)]) (by decide +kernel) rfl rfl (Nat.le_of_ble_eq_true rfl) ?_
  refine jm_aload_n jd_Search_begin_0 rfl rfl ?_
  refine jm_iconst jd_Search_begin_1 (jm_o32c rfl) ?_
  refine jm_ldc2 (x := -81985529216486896) jd_Search_begin_2 jc_785 (jm_o64c rfl) ?_
  refine jm_lastore jd_Search_begin_5 jm_SH_70 (by decide) ?_
  refine jm_aload_n jd_Search_begin_6 rfl rfl ?_
  refine jm_iconst jd_Search_begin_7 (jm_o32c rfl) ?_
  refine jm_iload_n jd_Search_begin_8 rfl rfl ?_
  refine jm_cS (M' := jm_m_Search_wordsOfB) (d' := 0) (av := [jm_I x1]) jd_Search_begin_9 jk_Search_wordsOfB jw_786 rfl (by omega) ⟨rfl, rfl⟩ (by decide) (Nat.le_of_ble_eq_true rfl) (jm_hqL (fun v1 h1 H => ?_)) H
  refine jm_lastore jd_Search_begin_12 jm_SH_70 (by decide) ?_
  refine jm_aload_n jd_Search_begin_13 rfl rfl ?_
  refine jm_iconst jd_Search_begin_14 (jm_o32c rfl) ?_
  refine jm_lconst (x := 0) jd_Search_begin_15 ⟨by decide, jm_o64c rfl⟩ ?_
  refine jm_lastore jd_Search_begin_16 jm_SH_70 (by decide) ?_
  exact jm_vreturn jd_Search_begin_17 rfl (by decide) ⟨rfl, rfl, H⟩
set_option maxRecDepth 4000 in
theorem jb_Search_begin_73 {E : jm_Env} {x1 : Int} {h : jm_H} {K : jm_H → Prop} (H : jm_CL E jm_SH jm_m_Search_wordsOfB 0 [jm_I x1] (jm_up h 73 0 (-81985529216486896)) (fun v1 h1 => K (jm_up (jm_up h1 73 1 v1) 73 2 0))) : jm_CV E jm_SH jm_m_Search_begin 1 [jm_R 73, jm_I x1] h K := by
  refine jm_body (ls0 := [some (jm_R 73), some (jm_I x1)]) (by decide +kernel) rfl rfl (Nat.le_of_ble_eq_true rfl) ?_
  refine jm_aload_n jd_Search_begin_0 rfl rfl ?_
  refine jm_iconst jd_Search_begin_1 (jm_o32c rfl) ?_
  refine jm_ldc2 (x := -81985529216486896) jd_Search_begin_2 jc_785 (jm_o64c rfl) ?_
  refine jm_lastore jd_Search_begin_5 jm_SH_73 (by decide) ?_
  refine jm_aload_n jd_Search_begin_6 rfl rfl ?_
  refine jm_iconst jd_Search_begin_7 (jm_o32c rfl) ?_
  refine jm_iload_n jd_Search_begin_8 rfl rfl ?_
  refine jm_cS (M' := jm_m_Search_wordsOfB) (d' := 0) (av := [jm_I x1]) jd_Search_begin_9 jk_Search_wordsOfB jw_786 rfl (by omega) ⟨rfl, rfl⟩ (by decide) (Nat.le_of_ble_eq_true rfl) (jm_hqL (fun v1 h1 H => ?_)) H
  refine jm_lastore jd_Search_begin_12 jm_SH_73 (by decide) ?_
  refine jm_aload_n jd_Search_begin_13 rfl rfl ?_
  refine jm_iconst jd_Search_begin_14 (jm_o32c rfl) ?_
  refine jm_lconst (x := 0) jd_Search_begin_15 ⟨by decide, jm_o64c rfl⟩ ?_
  refine jm_lastore jd_Search_begin_16 jm_SH_73 (by decide) ?_
  exact jm_vreturn jd_Search_begin_17 rfl (by decide) ⟨rfl, rfl, H⟩
set_option maxRecDepth 4000 in
theorem jb_Search_find {E : jm_Env} {d : Nat} {dr : Nat} (hdr : dr + 1 ≤ d) (hdc : 4 ≤ d) {x1 x2 x3 : Int} {h : jm_H} {K : Int → jm_H → Prop} (H : ((x1 ≤ jm_w32 (x2 - 1)) → ((¬ x1 = jm_w32 (x2 - 1)) → jm_BI E jm_SH jm_m_Search_find d 29 [some (jm_R 61), some (jm_I x1), some (jm_I x2), some (jm_I x3), some (jm_I (jm_w32 (x2 - 1))), some (jm_I 3), some (jm_I 0), none, none] [] h K) ∧ ((x1 = jm_w32 (x2 - 1)) → jm_BI E jm_SH jm_m_Search_find d 29 [some (jm_R 61), some (jm_I x1), some (jm_I x2), some (jm_I x3), some (jm_I (jm_w32 (x2 - 1))), some (jm_I 1), some (jm_I 0), none, none] [] h K)) ∧ ((¬ x1 ≤ jm_w32 (x2 - 1)) → K 0 h)) : jm_CI E jm_SH jm_m_Search_find d [jm_R 61, jm_I x1, jm_I x2, jm_I x3] h K := by
  refine jm_body (ls0 := [some (jm_R 61), some (jm_I x1), some (jm_I x2), some (jm_I x3), none, none, none, none, none]) (by decide +kernel) rfl rfl (Nat.le_of_ble_eq_true rfl) ?_
  refine jm_iload_n jd_Search_find_0 rfl rfl ?_
  refine jm_iconst jd_Search_find_1 (jm_o32c rfl) ?_
  refine jm_isub jd_Search_find_2 ?_
  refine jm_istore (i := 4) jd_Search_find_3 (by decide) (ls2 := [some (jm_R 61), some (jm_I x1), some (jm_I x2), some (jm_I x3), some (jm_I (jm_w32 (x2 - 1))), none, none, none, none]) rfl ?_
  refine jm_iload_n jd_Search_find_5 rfl rfl ?_
  refine jm_iload jd_Search_find_6 rfl ?_
  refine jm_icmp_le (tgt := 13) jd_Search_find_8 rfl (fun hc1 => ?_) (fun hc1 => ?_)
  · replace H := H.1 hc1
    refine jm_iload_n jd_Search_find_13 rfl rfl ?_
    refine jm_iload jd_Search_find_14 rfl ?_
    refine jm_icmp_ne (tgt := 23) jd_Search_find_16 rfl (fun hc2 => ?_) (fun hc2 => ?_)
    · replace H := H.1 hc2
      refine jm_iconst jd_Search_find_23 (jm_o32c rfl) ?_
      refine jm_istore (i := 5) jd_Search_find_24 (by decide) (ls2 := [some (jm_R 61), some (jm_I x1), some (jm_I x2), some (jm_I x3), some (jm_I (jm_w32 (x2 - 1))), some (jm_I 3), none, none, none]) rfl ?_
      refine jm_iconst jd_Search_find_26 (jm_o32c rfl) ?_
      refine jm_istore (i := 6) jd_Search_find_27 (by decide) (ls2 := [some (jm_R 61), some (jm_I x1), some (jm_I x2), some (jm_I x3), some (jm_I (jm_w32 (x2 - 1))), some (jm_I 3), some (jm_I 0), none, none]) rfl ?_
      exact H
    · replace H := H.2 hc2
      refine jm_iconst jd_Search_find_19 (jm_o32c rfl) ?_
      refine jm_goto (tgt := 24) jd_Search_find_20 rfl ?_
      refine jm_istore (i := 5) jd_Search_find_24 (by decide) (ls2 := [some (jm_R 61), some (jm_I x1), some (jm_I x2), some (jm_I x3), some (jm_I (jm_w32 (x2 - 1))), some (jm_I 1), none, none, none]) rfl ?_
      refine jm_iconst jd_Search_find_26 (jm_o32c rfl) ?_
      refine jm_istore (i := 6) jd_Search_find_27 (by decide) (ls2 := [some (jm_R 61), some (jm_I x1), some (jm_I x2), some (jm_I x3), some (jm_I (jm_w32 (x2 - 1))), some (jm_I 1), some (jm_I 0), none, none]) rfl ?_
      exact H
  · replace H := H.2 hc1
    refine jm_iconst jd_Search_find_11 (jm_o32c rfl) ?_
    exact jm_zreturn jd_Search_find_12 rfl (Or.inl rfl) (by decide) ⟨rfl, _, rfl, H⟩
set_option maxRecDepth 4000 in
theorem jb_Search_find_29 {E : jm_Env} {d : Nat} {dr : Nat} (hdr : dr + 1 ≤ d) (hdc : 4 ≤ d) {x1 x2 x3 x4 x5 x6 : Int} {h : jm_H} {K : Int → jm_H → Prop} (H : ((7 ≤ x6) → K 0 h) ∧ ((¬ 7 ≤ x6) → jm_BI E jm_SH jm_m_Search_find d 39 [some (jm_R 61), some (jm_I x1), some (jm_I x2), some (jm_I x3), some (jm_I x4), some (jm_I x5), some (jm_I x6), some (jm_I 0), none] [] h K)) : jm_BI E jm_SH jm_m_Search_find d 29 [some (jm_R 61), some (jm_I x1), some (jm_I x2), some (jm_I x3), some (jm_I x4), some (jm_I x5), some (jm_I x6), none, none] [] h K := by
  refine jm_iload jd_Search_find_29 rfl ?_
  refine jm_bipush jd_Search_find_31 jb_7 ?_
  refine jm_icmp_ge (tgt := 107) jd_Search_find_33 rfl (fun hc1 => ?_) (fun hc1 => ?_)
  · replace H := H.1 hc1
    refine jm_iconst jd_Search_find_107 (jm_o32c rfl) ?_
    exact jm_zreturn jd_Search_find_108 rfl (Or.inl rfl) (by decide) ⟨rfl, _, rfl, H⟩
  · replace H := H.2 hc1
    refine jm_iconst jd_Search_find_36 (jm_o32c rfl) ?_
    refine jm_istore (i := 7) jd_Search_find_37 (by decide) (ls2 := [some (jm_R 61), some (jm_I x1), some (jm_I x2), some (jm_I x3), some (jm_I x4), some (jm_I x5), some (jm_I x6), some (jm_I 0), none]) rfl ?_
    exact H
set_option maxRecDepth 4000 in
theorem jb_Search_find_39 {E : jm_Env} {d : Nat} {dr : Nat} (hdr : dr + 1 ≤ d) (hdc : 4 ≤ d) {x1 x2 x3 x4 x5 x6 x7 : Int} {h : jm_H} {K : Int → jm_H → Prop} (H : ((x5 ≤ x7) → jm_BI E jm_SH jm_m_Search_find d 29 [some (jm_R 61), some (jm_I x1), some (jm_I x2), some (jm_I x3), some (jm_I x4), some (jm_I x5), some (jm_I (jm_w32 (x6 + 1))), none, none] [] h K) ∧ ((¬ x5 ≤ x7) → (0 ≤ x1 ∧ x1 < 3) ∧ ((0 ≤ x1 ∧ x1 < 3) ∧ (((¬ x1 = x4) → jm_CI E jm_SH jm_m_Search_goesOn dr [jm_R 61, jm_I x1, jm_I x2, jm_I x3] (jm_up (jm_up h 74 (Int.toNat x1) x6) 75 (Int.toNat x1) x7) (fun v5 h5 => ((v5 = 0) → jm_BI E jm_SH jm_m_Search_find d 39 [some (jm_R 61), some (jm_I x1), some (jm_I x2), some (jm_I x3), some (jm_I x4), some (jm_I x5), some (jm_I x6), some (jm_I (jm_w32 (x7 + 1))), none] [] h5 K) ∧ ((¬ v5 = 0) → K 1 h5))) ∧ ((x1 = x4) → jm_CI E jm_SH jm_m_Search_endsWith 3 [jm_R 61, jm_I x6, jm_I x2, jm_I x3] (jm_up (jm_up h 74 (Int.toNat x1) x6) 75 (Int.toNat x1) x7) (fun v7 h7 => ((v7 = 0) → jm_BI E jm_SH jm_m_Search_find d 39 [some (jm_R 61), some (jm_I x1), some (jm_I x2), some (jm_I x3), some (jm_I x4), some (jm_I x5), some (jm_I x6), some (jm_I (jm_w32 (x7 + 1))), none] [] h7 K) ∧ ((¬ v7 = 0) → K 1 h7))))))) : jm_BI E jm_SH jm_m_Search_find d 39 [some (jm_R 61), some (jm_I x1), some (jm_I x2), some (jm_I x3), some (jm_I x4), some (jm_I x5), some (jm_I x6), some (jm_I x7), none] [] h K := by
  refine jm_iload jd_Search_find_39 rfl ?_
  refine jm_iload jd_Search_find_41 rfl ?_
  refine jm_icmp_ge (tgt := 101) jd_Search_find_43 rfl (fun hc1 => ?_) (fun hc1 => ?_)
  · replace H := H.1 hc1
    refine jm_iinc jd_Search_find_101 rfl (by decide) (ls2 := [some (jm_R 61), some (jm_I x1), some (jm_I x2), some (jm_I x3), some (jm_I x4), some (jm_I x5), some (jm_I (jm_w32 (x6 + 1))), some (jm_I x7), none]) rfl ?_
    refine jm_goto (tgt := 29) jd_Search_find_104 rfl ?_
    refine jm_keepG [true, true, true, true, true, true, true, false, false] (ls2 := [some (jm_R 61), some (jm_I x1), some (jm_I x2), some (jm_I x3), some (jm_I x4), some (jm_I x5), some (jm_I (jm_w32 (x6 + 1))), none, none]) (by rfl) (by rfl) ?_
    exact H
  · replace H := H.2 hc1
    refine jm_aload_n jd_Search_find_46 rfl rfl ?_
    refine jm_gR jd_Search_find_47 jf_Search_28 jm_SH_61 rfl ?_
    refine jm_iload_n jd_Search_find_50 rfl rfl ?_
    refine jm_iload jd_Search_find_51 rfl ?_
    obtain ⟨hb2, H⟩ := H
    refine jm_iastore jd_Search_find_53 jm_SH_74 hb2 ?_
    refine jm_aload_n jd_Search_find_54 rfl rfl ?_
    refine jm_gR jd_Search_find_55 jf_Search_32 jm_SH_61 rfl ?_
    refine jm_iload_n jd_Search_find_58 rfl rfl ?_
    refine jm_iload jd_Search_find_59 rfl ?_
    obtain ⟨hb3, H⟩ := H
    refine jm_iastore jd_Search_find_61 jm_SH_75 hb3 ?_
    refine jm_iload_n jd_Search_find_62 rfl rfl ?_
    refine jm_iload jd_Search_find_63 rfl ?_
    refine jm_icmp_ne (tgt := 79) jd_Search_find_65 rfl (fun hc4 => ?_) (fun hc4 => ?_)
    · replace H := H.1 hc4
      refine jm_aload_n jd_Search_find_79 rfl rfl ?_
      refine jm_iload_n jd_Search_find_80 rfl rfl ?_
      refine jm_iload_n jd_Search_find_81 rfl rfl ?_
      refine jm_iload_n jd_Search_find_82 rfl rfl ?_
      refine jm_cV (M' := jm_m_Search_goesOn) (d' := dr) (av := [jm_I x1, jm_I x2, jm_I x3]) jd_Search_find_83 jk_Search_goesOn jw_805 rfl hdr ⟨rfl, rfl⟩ (by decide) (Nat.le_of_ble_eq_true rfl) jm_SH_61 rfl rfl (jm_hqI (fun v5 h5 H => ?_)) H
      refine jm_istore (i := 8) jd_Search_find_86 (by decide) (ls2 := [some (jm_R 61), some (jm_I x1), some (jm_I x2), some (jm_I x3), some (jm_I x4), some (jm_I x5), some (jm_I x6), some (jm_I x7), some (jm_I v5)]) rfl ?_
      refine jm_iload jd_Search_find_88 rfl ?_
      refine jm_if_eq (tgt := 95) jd_Search_find_90 rfl (fun hc6 => ?_) (fun hc6 => ?_)
      · replace H := H.1 hc6
        refine jm_iinc jd_Search_find_95 rfl (by decide) (ls2 := [some (jm_R 61), some (jm_I x1), some (jm_I x2), some (jm_I x3), some (jm_I x4), some (jm_I x5), some (jm_I x6), some (jm_I (jm_w32 (x7 + 1))), some (jm_I v5)]) rfl ?_
        refine jm_goto (tgt := 39) jd_Search_find_98 rfl ?_
        refine jm_keepG [true, true, true, true, true, true, true, true, false] (ls2 := [some (jm_R 61), some (jm_I x1), some (jm_I x2), some (jm_I x3), some (jm_I x4), some (jm_I x5), some (jm_I x6), some (jm_I (jm_w32 (x7 + 1))), none]) (by rfl) (by rfl) ?_
        exact H
      · replace H := H.2 hc6
        refine jm_iconst jd_Search_find_93 (jm_o32c rfl) ?_
        exact jm_zreturn jd_Search_find_94 rfl (Or.inr rfl) (by decide) ⟨rfl, _, rfl, H⟩
    · replace H := H.2 hc4
      refine jm_aload_n jd_Search_find_68 rfl rfl ?_
      refine jm_iload jd_Search_find_69 rfl ?_
      refine jm_iload_n jd_Search_find_71 rfl rfl ?_
      refine jm_iload_n jd_Search_find_72 rfl rfl ?_
      refine jm_cV (M' := jm_m_Search_endsWith) (d' := 3) (av := [jm_I x6, jm_I x2, jm_I x3]) jd_Search_find_73 jk_Search_endsWith jw_801 rfl (by omega) ⟨rfl, rfl⟩ (by decide) (Nat.le_of_ble_eq_true rfl) jm_SH_61 rfl rfl (jm_hqI (fun v7 h7 H => ?_)) H
      refine jm_goto (tgt := 86) jd_Search_find_76 rfl ?_
      refine jm_istore (i := 8) jd_Search_find_86 (by decide) (ls2 := [some (jm_R 61), some (jm_I x1), some (jm_I x2), some (jm_I x3), some (jm_I x4), some (jm_I x5), some (jm_I x6), some (jm_I x7), some (jm_I v7)]) rfl ?_
      refine jm_iload jd_Search_find_88 rfl ?_
      refine jm_if_eq (tgt := 95) jd_Search_find_90 rfl (fun hc8 => ?_) (fun hc8 => ?_)
      · replace H := H.1 hc8
        refine jm_iinc jd_Search_find_95 rfl (by decide) (ls2 := [some (jm_R 61), some (jm_I x1), some (jm_I x2), some (jm_I x3), some (jm_I x4), some (jm_I x5), some (jm_I x6), some (jm_I (jm_w32 (x7 + 1))), some (jm_I v7)]) rfl ?_
        refine jm_goto (tgt := 39) jd_Search_find_98 rfl ?_
        refine jm_keepG [true, true, true, true, true, true, true, true, false] (ls2 := [some (jm_R 61), some (jm_I x1), some (jm_I x2), some (jm_I x3), some (jm_I x4), some (jm_I x5), some (jm_I x6), some (jm_I (jm_w32 (x7 + 1))), none]) (by rfl) (by rfl) ?_
        exact H
      · replace H := H.2 hc8
        refine jm_iconst jd_Search_find_93 (jm_o32c rfl) ?_
        exact jm_zreturn jd_Search_find_94 rfl (Or.inr rfl) (by decide) ⟨rfl, _, rfl, H⟩
set_option maxRecDepth 4000 in
theorem jb_Search_goesOn {E : jm_Env} {d : Nat} {dr : Nat} (hdr : dr + 1 ≤ d) (hdc : 4 ≤ d) {x1 x2 x3 : Int} {h : jm_H} {K : Int → jm_H → Prop} (H : (0 ≤ x1 ∧ x1 < 3) ∧ ((0 ≤ x1 ∧ x1 < 3) ∧ ((0 ≤ jm_w32 ((h 74 (Int.toNat x1)) + 1) ∧ jm_w32 ((h 74 (Int.toNat x1)) + 1) < 8) ∧ ((0 ≤ x1 ∧ x1 < 3) ∧ ((0 ≤ h 74 (Int.toNat x1) ∧ h 74 (Int.toNat x1) < 8) ∧ (jm_BI E jm_SH jm_m_Search_goesOn d 42 [some (jm_R 61), some (jm_I x1), some (jm_I x2), some (jm_I x3), some (jm_I (h 75 (Int.toNat x1))), some (jm_I (h 67 (Int.toNat (jm_w32 ((h 74 (Int.toNat x1)) + 1))))), some (jm_I (h 67 (Int.toNat (h 74 (Int.toNat x1))))), none] [] h K)))))) : jm_CI E jm_SH jm_m_Search_goesOn d [jm_R 61, jm_I x1, jm_I x2, jm_I x3] h K := by
  refine jm_body (ls0 := [some (jm_R 61), some (jm_I x1), some (jm_I x2), some (jm_I x3), none, none, none, none]) (by decide +kernel) rfl rfl (Nat.le_of_ble_eq_true rfl) ?_
  refine jm_aload_n jd_Search_goesOn_0 rfl rfl ?_
  refine jm_gR jd_Search_goesOn_1 jf_Search_32 jm_SH_61 rfl ?_
  refine jm_iload_n jd_Search_goesOn_4 rfl rfl ?_
  obtain ⟨hb1, H⟩ := H
  refine jm_iaload jd_Search_goesOn_5 jm_SH_75 hb1 ?_
  refine jm_istore (i := 4) jd_Search_goesOn_6 (by decide) (ls2 := [some (jm_R 61), some (jm_I x1), some (jm_I x2), some (jm_I x3), some (jm_I (h 75 (Int.toNat x1))), none, none, none]) rfl ?_
  refine jm_aload_n jd_Search_goesOn_8 rfl rfl ?_
  refine jm_gR jd_Search_goesOn_9 jf_Search_10 jm_SH_61 rfl ?_
  refine jm_gR jd_Search_goesOn_12 jf_Search_99 jm_SH_62 rfl ?_
  refine jm_aload_n jd_Search_goesOn_15 rfl rfl ?_
  refine jm_gR jd_Search_goesOn_16 jf_Search_28 jm_SH_61 rfl ?_
  refine jm_iload_n jd_Search_goesOn_19 rfl rfl ?_
  obtain ⟨hb2, H⟩ := H
  refine jm_iaload jd_Search_goesOn_20 jm_SH_74 hb2 ?_
  refine jm_iconst jd_Search_goesOn_21 (jm_o32c rfl) ?_
  refine jm_iadd jd_Search_goesOn_22 ?_
  obtain ⟨hb3, H⟩ := H
  refine jm_iaload jd_Search_goesOn_23 jm_SH_67 hb3 ?_
  refine jm_istore (i := 5) jd_Search_goesOn_24 (by decide) (ls2 := [some (jm_R 61), some (jm_I x1), some (jm_I x2), some (jm_I x3), some (jm_I (h 75 (Int.toNat x1))), some (jm_I (h 67 (Int.toNat (jm_w32 ((h 74 (Int.toNat x1)) + 1))))), none, none]) rfl ?_
  refine jm_aload_n jd_Search_goesOn_26 rfl rfl ?_
  refine jm_gR jd_Search_goesOn_27 jf_Search_10 jm_SH_61 rfl ?_
  refine jm_gR jd_Search_goesOn_30 jf_Search_99 jm_SH_62 rfl ?_
  refine jm_aload_n jd_Search_goesOn_33 rfl rfl ?_
  refine jm_gR jd_Search_goesOn_34 jf_Search_28 jm_SH_61 rfl ?_
  refine jm_iload_n jd_Search_goesOn_37 rfl rfl ?_
  obtain ⟨hb4, H⟩ := H
  refine jm_iaload jd_Search_goesOn_38 jm_SH_74 hb4 ?_
  obtain ⟨hb5, H⟩ := H
  refine jm_iaload jd_Search_goesOn_39 jm_SH_67 hb5 ?_
  refine jm_istore (i := 6) jd_Search_goesOn_40 (by decide) (ls2 := [some (jm_R 61), some (jm_I x1), some (jm_I x2), some (jm_I x3), some (jm_I (h 75 (Int.toNat x1))), some (jm_I (h 67 (Int.toNat (jm_w32 ((h 74 (Int.toNat x1)) + 1))))), some (jm_I (h 67 (Int.toNat (h 74 (Int.toNat x1))))), none]) rfl ?_
  exact H
set_option maxRecDepth 4000 in
theorem jb_Search_goesOn_42 {E : jm_Env} {d : Nat} {dr : Nat} (hdr : dr + 1 ≤ d) (hdc : 4 ≤ d) {x1 x2 x3 x4 x5 x6 : Int} {h : jm_H} {K : Int → jm_H → Prop} (H : ((x5 ≤ x6) → K 0 h) ∧ ((¬ x5 ≤ x6) → (0 ≤ x6 ∧ x6 < 24) ∧ (((¬ x1 = 0) → jm_BI E jm_SH jm_m_Search_goesOn d 82 [some (jm_R 61), some (jm_I x1), some (jm_I x2), some (jm_I x3), some (jm_I x4), some (jm_I x5), some (jm_I x6), some (jm_I (jv_and x3 (jv_xor (h 65 (Int.toNat x6)) (-1))))] [] h K) ∧ ((x1 = 0) → (0 ≤ x6 ∧ x6 < 24) ∧ (((h 66 (Int.toNat x6) = 0) → jm_BI E jm_SH jm_m_Search_goesOn d 42 [some (jm_R 61), some (jm_I x1), some (jm_I x2), some (jm_I x3), some (jm_I x4), some (jm_I x5), some (jm_I (jm_w32 (x6 + 1))), none] [] h K) ∧ ((¬ h 66 (Int.toNat x6) = 0) → jm_BI E jm_SH jm_m_Search_goesOn d 82 [some (jm_R 61), some (jm_I x1), some (jm_I x2), some (jm_I x3), some (jm_I x4), some (jm_I x5), some (jm_I x6), some (jm_I (jv_and x3 (jv_xor (h 65 (Int.toNat x6)) (-1))))] [] h K)))))) : jm_BI E jm_SH jm_m_Search_goesOn d 42 [some (jm_R 61), some (jm_I x1), some (jm_I x2), some (jm_I x3), some (jm_I x4), some (jm_I x5), some (jm_I x6), none] [] h K := by
  refine jm_iload jd_Search_goesOn_42 rfl ?_
  refine jm_iload jd_Search_goesOn_44 rfl ?_
  refine jm_icmp_ge (tgt := 219) jd_Search_goesOn_46 rfl (fun hc1 => ?_) (fun hc1 => ?_)
  · replace H := H.1 hc1
    refine jm_iconst jd_Search_goesOn_219 (jm_o32c rfl) ?_
    exact jm_zreturn jd_Search_goesOn_220 rfl (Or.inl rfl) (by decide) ⟨rfl, _, rfl, H⟩
  · replace H := H.2 hc1
    refine jm_iload_n jd_Search_goesOn_49 rfl rfl ?_
    refine jm_aload_n jd_Search_goesOn_50 rfl rfl ?_
    refine jm_gR jd_Search_goesOn_51 jf_Search_10 jm_SH_61 rfl ?_
    refine jm_gR jd_Search_goesOn_54 jf_Search_101 jm_SH_62 rfl ?_
    refine jm_iload jd_Search_goesOn_57 rfl ?_
    obtain ⟨hb2, H⟩ := H
    refine jm_iaload jd_Search_goesOn_59 jm_SH_65 hb2 ?_
    refine jm_iconst jd_Search_goesOn_60 (jm_o32c rfl) ?_
    refine jm_ixor jd_Search_goesOn_61 ?_
    refine jm_iand jd_Search_goesOn_62 ?_
    refine jm_istore (i := 7) jd_Search_goesOn_63 (by decide) (ls2 := [some (jm_R 61), some (jm_I x1), some (jm_I x2), some (jm_I x3), some (jm_I x4), some (jm_I x5), some (jm_I x6), some (jm_I (jv_and x3 (jv_xor (h 65 (Int.toNat x6)) (-1))))]) rfl ?_
    refine jm_iload_n jd_Search_goesOn_65 rfl rfl ?_
    refine jm_if_ne (tgt := 82) jd_Search_goesOn_66 rfl (fun hc3 => ?_) (fun hc3 => ?_)
    · replace H := H.1 hc3
      exact H
    · replace H := H.2 hc3
      refine jm_aload_n jd_Search_goesOn_69 rfl rfl ?_
      refine jm_gR jd_Search_goesOn_70 jf_Search_10 jm_SH_61 rfl ?_
      refine jm_gR jd_Search_goesOn_73 jf_Search_104 jm_SH_62 rfl ?_
      refine jm_iload jd_Search_goesOn_76 rfl ?_
      obtain ⟨hb4, H⟩ := H
      refine jm_baload jd_Search_goesOn_78 jm_SH_66 hb4 ?_
      refine jm_if_eq (tgt := 213) jd_Search_goesOn_79 rfl (fun hc5 => ?_) (fun hc5 => ?_)
      · replace H := H.1 hc5
        refine jm_iinc jd_Search_goesOn_213 rfl (by decide) (ls2 := [some (jm_R 61), some (jm_I x1), some (jm_I x2), some (jm_I x3), some (jm_I x4), some (jm_I x5), some (jm_I (jm_w32 (x6 + 1))), some (jm_I (jv_and x3 (jv_xor (h 65 (Int.toNat x6)) (-1))))]) rfl ?_
        refine jm_goto (tgt := 42) jd_Search_goesOn_216 rfl ?_
        refine jm_keepG [true, true, true, true, true, true, true, false] (ls2 := [some (jm_R 61), some (jm_I x1), some (jm_I x2), some (jm_I x3), some (jm_I x4), some (jm_I x5), some (jm_I (jm_w32 (x6 + 1))), none]) (by rfl) (by rfl) ?_
        exact H
      · replace H := H.2 hc5
        exact H
set_option maxRecDepth 4000 in
theorem jb_Search_goesOn_82 {E : jm_Env} {d : Nat} {dr : Nat} (hdr : dr + 1 ≤ d) (hdc : 4 ≤ d) {x1 x2 x3 x4 x5 x6 x7 : Int} {h : jm_H} {K : Int → jm_H → Prop} (H : ((jv_and (jv_shr x7 x4) 1 = 0) → (0 ≤ x6 ∧ x6 < 24) ∧ ((0 ≤ x1 ∧ x1 < 3) ∧ ((0 ≤ x6 ∧ x6 < 24) ∧ ((0 ≤ x1 ∧ x1 < 3) ∧ ((0 ≤ x1 ∧ x1 < 3) ∧ ((0 ≤ jm_w32 (x1 + 1) ∧ jm_w32 (x1 + 1) < 3) ∧ ((0 ≤ jm_w32 (x1 + 1) ∧ jm_w32 (x1 + 1) < 3) ∧ ((0 ≤ x1 ∧ x1 < 3) ∧ ((0 ≤ x1 ∧ x1 < 3) ∧ ((0 ≤ x1 ∧ x1 < 3) ∧ ((0 ≤ (jm_cpy (jm_up (jm_up h 76 (Int.toNat x1) (h 63 (Int.toNat x6))) 77 (Int.toNat x1) (h 64 (Int.toNat x6))) (70 + (Int.toNat x1)) (70 + (Int.toNat (jm_w32 (x1 + 1)))) 3) 76 (Int.toNat x1) ∧ (jm_cpy (jm_up (jm_up h 76 (Int.toNat x1) (h 63 (Int.toNat x6))) 77 (Int.toNat x1) (h 64 (Int.toNat x6))) (70 + (Int.toNat x1)) (70 + (Int.toNat (jm_w32 (x1 + 1)))) 3) 76 (Int.toNat x1) < 3) ∧ ((0 ≤ x1 ∧ x1 < 3) ∧ ((0 ≤ x1 ∧ x1 < 3) ∧ ((0 ≤ (jm_cpy (jm_up (jm_up h 76 (Int.toNat x1) (h 63 (Int.toNat x6))) 77 (Int.toNat x1) (h 64 (Int.toNat x6))) (70 + (Int.toNat x1)) (70 + (Int.toNat (jm_w32 (x1 + 1)))) 3) 77 (Int.toNat x1) ∧ (jm_cpy (jm_up (jm_up h 76 (Int.toNat x1) (h 63 (Int.toNat x6))) 77 (Int.toNat x1) (h 64 (Int.toNat x6))) (70 + (Int.toNat x1)) (70 + (Int.toNat (jm_w32 (x1 + 1)))) 3) 77 (Int.toNat x1) < 3) ∧ (jm_CL E jm_SH jm_m_Machine_result 0 [jm_I ((jm_cpy (jm_up (jm_up h 76 (Int.toNat x1) (h 63 (Int.toNat x6))) 77 (Int.toNat x1) (h 64 (Int.toNat x6))) (70 + (Int.toNat x1)) (70 + (Int.toNat (jm_w32 (x1 + 1)))) 3) 74 (Int.toNat x1)), jm_L ((jm_cpy (jm_up (jm_up h 76 (Int.toNat x1) (h 63 (Int.toNat x6))) 77 (Int.toNat x1) (h 64 (Int.toNat x6))) (70 + (Int.toNat x1)) (70 + (Int.toNat (jm_w32 (x1 + 1)))) 3) (70 + (Int.toNat x1)) (Int.toNat ((jm_cpy (jm_up (jm_up h 76 (Int.toNat x1) (h 63 (Int.toNat x6))) 77 (Int.toNat x1) (h 64 (Int.toNat x6))) (70 + (Int.toNat x1)) (70 + (Int.toNat (jm_w32 (x1 + 1)))) 3) 76 (Int.toNat x1)))), jm_L ((jm_cpy (jm_up (jm_up h 76 (Int.toNat x1) (h 63 (Int.toNat x6))) 77 (Int.toNat x1) (h 64 (Int.toNat x6))) (70 + (Int.toNat x1)) (70 + (Int.toNat (jm_w32 (x1 + 1)))) 3) (70 + (Int.toNat x1)) (Int.toNat ((jm_cpy (jm_up (jm_up h 76 (Int.toNat x1) (h 63 (Int.toNat x6))) 77 (Int.toNat x1) (h 64 (Int.toNat x6))) (70 + (Int.toNat x1)) (70 + (Int.toNat (jm_w32 (x1 + 1)))) 3) 77 (Int.toNat x1))))] (jm_cpy (jm_up (jm_up h 76 (Int.toNat x1) (h 63 (Int.toNat x6))) 77 (Int.toNat x1) (h 64 (Int.toNat x6))) (70 + (Int.toNat x1)) (70 + (Int.toNat (jm_w32 (x1 + 1)))) 3) (fun v16 h16 => (0 ≤ x4 ∧ x4 < 3) ∧ (jm_CI E jm_SH jm_m_Search_find dr [jm_R 61, jm_I (jm_w32 (x1 + 1)), jm_I x2, jm_I (jv_or x7 (jv_shl 1 x4))] (jm_up h16 (70 + (Int.toNat (jm_w32 (x1 + 1)))) (Int.toNat x4) v16) (fun v18 h18 => ((v18 = 0) → jm_BI E jm_SH jm_m_Search_goesOn d 42 [some (jm_R 61), some (jm_I x1), some (jm_I x2), some (jm_I x3), some (jm_I x4), some (jm_I x5), some (jm_I (jm_w32 (x6 + 1))), none] [] h18 K) ∧ ((¬ v18 = 0) → K 1 h18))))))))))))))))))) ∧ ((¬ jv_and (jv_shr x7 x4) 1 = 0) → jm_BI E jm_SH jm_m_Search_goesOn d 42 [some (jm_R 61), some (jm_I x1), some (jm_I x2), some (jm_I x3), some (jm_I x4), some (jm_I x5), some (jm_I (jm_w32 (x6 + 1))), none] [] h K)) : jm_BI E jm_SH jm_m_Search_goesOn d 82 [some (jm_R 61), some (jm_I x1), some (jm_I x2), some (jm_I x3), some (jm_I x4), some (jm_I x5), some (jm_I x6), some (jm_I x7)] [] h K := by
  refine jm_iload jd_Search_goesOn_82 rfl ?_
  refine jm_iload jd_Search_goesOn_84 rfl ?_
  refine jm_ishr jd_Search_goesOn_86 ?_
  refine jm_iconst jd_Search_goesOn_87 (jm_o32c rfl) ?_
  refine jm_iand jd_Search_goesOn_88 ?_
  refine jm_if_eq (tgt := 95) jd_Search_goesOn_89 rfl (fun hc1 => ?_) (fun hc1 => ?_)
  · replace H := H.1 hc1
    refine jm_aload_n jd_Search_goesOn_95 rfl rfl ?_
    refine jm_gR jd_Search_goesOn_96 jf_Search_35 jm_SH_61 rfl ?_
    refine jm_iload_n jd_Search_goesOn_99 rfl rfl ?_
    refine jm_aload_n jd_Search_goesOn_100 rfl rfl ?_
    refine jm_gR jd_Search_goesOn_101 jf_Search_10 jm_SH_61 rfl ?_
    refine jm_gR jd_Search_goesOn_104 jf_Search_108 jm_SH_62 rfl ?_
    refine jm_iload jd_Search_goesOn_107 rfl ?_
    obtain ⟨hb2, H⟩ := H
    refine jm_iaload jd_Search_goesOn_109 jm_SH_63 hb2 ?_
    obtain ⟨hb3, H⟩ := H
    refine jm_iastore jd_Search_goesOn_110 jm_SH_76 hb3 ?_
    refine jm_aload_n jd_Search_goesOn_111 rfl rfl ?_
    refine jm_gR jd_Search_goesOn_112 jf_Search_38 jm_SH_61 rfl ?_
    refine jm_iload_n jd_Search_goesOn_115 rfl rfl ?_
    refine jm_aload_n jd_Search_goesOn_116 rfl rfl ?_
    refine jm_gR jd_Search_goesOn_117 jf_Search_10 jm_SH_61 rfl ?_
    refine jm_gR jd_Search_goesOn_120 jf_Search_109 jm_SH_62 rfl ?_
    refine jm_iload jd_Search_goesOn_123 rfl ?_
    obtain ⟨hb4, H⟩ := H
    refine jm_iaload jd_Search_goesOn_125 jm_SH_64 hb4 ?_
    refine jm_topI (y := h 64 (Int.toNat x6)) rfl ?_
    obtain ⟨hb5, H⟩ := H
    refine jm_iastore jd_Search_goesOn_126 jm_SH_77 hb5 ?_
    refine jm_aload_n jd_Search_goesOn_127 rfl rfl ?_
    refine jm_gR jd_Search_goesOn_128 jf_Search_22 jm_SH_61 rfl ?_
    refine jm_iload_n jd_Search_goesOn_131 rfl rfl ?_
    obtain ⟨hb6, H⟩ := H
    refine jm_aaload jd_Search_goesOn_132 jm_SH_69 (by decide) hb6 (jm_SH_r69 _ (by omega)) ?_
    refine jm_iconst jd_Search_goesOn_133 (jm_o32c rfl) ?_
    refine jm_aload_n jd_Search_goesOn_134 rfl rfl ?_
    refine jm_gR jd_Search_goesOn_135 jf_Search_22 jm_SH_61 rfl ?_
    refine jm_iload_n jd_Search_goesOn_138 rfl rfl ?_
    refine jm_iconst jd_Search_goesOn_139 (jm_o32c rfl) ?_
    refine jm_iadd jd_Search_goesOn_140 ?_
    obtain ⟨hb7, H⟩ := H
    refine jm_aaload jd_Search_goesOn_141 jm_SH_69 (by decide) hb7 (jm_SH_r69 _ (by omega)) ?_
    refine jm_iconst jd_Search_goesOn_142 (jm_o32c rfl) ?_
    refine jm_iconst jd_Search_goesOn_143 (jm_o32c rfl) ?_
    refine jm_copy jd_Search_goesOn_144 jw_809 jw_686 jw_685 jw_14 (jm_SH_s69 _ (by omega)) (jm_SH_s69 _ (by omega)) (by decide) (by decide) (by omega) (Nat.le_of_ble_eq_true rfl) ?_
    refine jm_aload_n jd_Search_goesOn_147 rfl rfl ?_
    refine jm_gR jd_Search_goesOn_148 jf_Search_22 jm_SH_61 rfl ?_
    refine jm_iload_n jd_Search_goesOn_151 rfl rfl ?_
    refine jm_iconst jd_Search_goesOn_152 (jm_o32c rfl) ?_
    refine jm_iadd jd_Search_goesOn_153 ?_
    obtain ⟨hb8, H⟩ := H
    refine jm_aaload jd_Search_goesOn_154 jm_SH_69 (by decide) hb8 (jm_SH_r69 _ (by omega)) ?_
    refine jm_iload jd_Search_goesOn_155 rfl ?_
    refine jm_aload_n jd_Search_goesOn_157 rfl rfl ?_
    refine jm_gR jd_Search_goesOn_158 jf_Search_28 jm_SH_61 rfl ?_
    refine jm_iload_n jd_Search_goesOn_161 rfl rfl ?_
    obtain ⟨hb9, H⟩ := H
    refine jm_iaload jd_Search_goesOn_162 jm_SH_74 hb9 ?_
    refine jm_aload_n jd_Search_goesOn_163 rfl rfl ?_
    refine jm_gR jd_Search_goesOn_164 jf_Search_22 jm_SH_61 rfl ?_
    refine jm_iload_n jd_Search_goesOn_167 rfl rfl ?_
    obtain ⟨hb10, H⟩ := H
    refine jm_aaload jd_Search_goesOn_168 jm_SH_69 (by decide) hb10 (jm_SH_r69 _ (by omega)) ?_
    refine jm_aload_n jd_Search_goesOn_169 rfl rfl ?_
    refine jm_gR jd_Search_goesOn_170 jf_Search_35 jm_SH_61 rfl ?_
    refine jm_iload_n jd_Search_goesOn_173 rfl rfl ?_
    obtain ⟨hb11, H⟩ := H
    refine jm_iaload jd_Search_goesOn_174 jm_SH_76 hb11 ?_
    obtain ⟨hb12, H⟩ := H
    refine jm_laload jd_Search_goesOn_175 (jm_SH_s69 _ (by omega)) hb12 ?_
    refine jm_aload_n jd_Search_goesOn_176 rfl rfl ?_
    refine jm_gR jd_Search_goesOn_177 jf_Search_22 jm_SH_61 rfl ?_
    refine jm_iload_n jd_Search_goesOn_180 rfl rfl ?_
    obtain ⟨hb13, H⟩ := H
    refine jm_aaload jd_Search_goesOn_181 jm_SH_69 (by decide) hb13 (jm_SH_r69 _ (by omega)) ?_
    refine jm_aload_n jd_Search_goesOn_182 rfl rfl ?_
    refine jm_gR jd_Search_goesOn_183 jf_Search_38 jm_SH_61 rfl ?_
    refine jm_iload_n jd_Search_goesOn_186 rfl rfl ?_
    obtain ⟨hb14, H⟩ := H
    refine jm_iaload jd_Search_goesOn_187 jm_SH_77 hb14 ?_
    obtain ⟨hb15, H⟩ := H
    refine jm_laload jd_Search_goesOn_188 (jm_SH_s69 _ (by omega)) hb15 ?_
    refine jm_cS (M' := jm_m_Machine_result) (d' := 0) (av := [jm_I ((jm_cpy (jm_up (jm_up h 76 (Int.toNat x1) (h 63 (Int.toNat x6))) 77 (Int.toNat x1) (h 64 (Int.toNat x6))) (70 + (Int.toNat x1)) (70 + (Int.toNat (jm_w32 (x1 + 1)))) 3) 74 (Int.toNat x1)), jm_L ((jm_cpy (jm_up (jm_up h 76 (Int.toNat x1) (h 63 (Int.toNat x6))) 77 (Int.toNat x1) (h 64 (Int.toNat x6))) (70 + (Int.toNat x1)) (70 + (Int.toNat (jm_w32 (x1 + 1)))) 3) (70 + (Int.toNat x1)) (Int.toNat ((jm_cpy (jm_up (jm_up h 76 (Int.toNat x1) (h 63 (Int.toNat x6))) 77 (Int.toNat x1) (h 64 (Int.toNat x6))) (70 + (Int.toNat x1)) (70 + (Int.toNat (jm_w32 (x1 + 1)))) 3) 76 (Int.toNat x1)))), jm_L ((jm_cpy (jm_up (jm_up h 76 (Int.toNat x1) (h 63 (Int.toNat x6))) 77 (Int.toNat x1) (h 64 (Int.toNat x6))) (70 + (Int.toNat x1)) (70 + (Int.toNat (jm_w32 (x1 + 1)))) 3) (70 + (Int.toNat x1)) (Int.toNat ((jm_cpy (jm_up (jm_up h 76 (Int.toNat x1) (h 63 (Int.toNat x6))) 77 (Int.toNat x1) (h 64 (Int.toNat x6))) (70 + (Int.toNat x1)) (70 + (Int.toNat (jm_w32 (x1 + 1)))) 3) 77 (Int.toNat x1))))]) jd_Search_goesOn_189 jk_Machine_result jw_796 rfl (by omega) ⟨rfl, rfl⟩ (by decide) (Nat.le_of_ble_eq_true rfl) (jm_hqL (fun v16 h16 H => ?_)) H
    obtain ⟨hb17, H⟩ := H
    refine jm_lastore jd_Search_goesOn_192 (jm_SH_s69 _ (by omega)) hb17 ?_
    refine jm_aload_n jd_Search_goesOn_193 rfl rfl ?_
    refine jm_iload_n jd_Search_goesOn_194 rfl rfl ?_
    refine jm_iconst jd_Search_goesOn_195 (jm_o32c rfl) ?_
    refine jm_iadd jd_Search_goesOn_196 ?_
    refine jm_iload_n jd_Search_goesOn_197 rfl rfl ?_
    refine jm_iload jd_Search_goesOn_198 rfl ?_
    refine jm_iconst jd_Search_goesOn_200 (jm_o32c rfl) ?_
    refine jm_iload jd_Search_goesOn_201 rfl ?_
    refine jm_ishl jd_Search_goesOn_203 ?_
    refine jm_ior jd_Search_goesOn_204 ?_
    refine jm_cV (M' := jm_m_Search_find) (d' := dr) (av := [jm_I (jm_w32 (x1 + 1)), jm_I x2, jm_I (jv_or x7 (jv_shl 1 x4))]) jd_Search_goesOn_205 jk_Search_find jw_797 rfl hdr ⟨rfl, rfl⟩ (by decide) (Nat.le_of_ble_eq_true rfl) jm_SH_61 rfl rfl (jm_hqI (fun v18 h18 H => ?_)) H
    refine jm_if_eq (tgt := 213) jd_Search_goesOn_208 rfl (fun hc19 => ?_) (fun hc19 => ?_)
    · replace H := H.1 hc19
      refine jm_iinc jd_Search_goesOn_213 rfl (by decide) (ls2 := [some (jm_R 61), some (jm_I x1), some (jm_I x2), some (jm_I x3), some (jm_I x4), some (jm_I x5), some (jm_I (jm_w32 (x6 + 1))), some (jm_I x7)]) rfl ?_
      refine jm_goto (tgt := 42) jd_Search_goesOn_216 rfl ?_
      refine jm_keepG [true, true, true, true, true, true, true, false] (ls2 := [some (jm_R 61), some (jm_I x1), some (jm_I x2), some (jm_I x3), some (jm_I x4), some (jm_I x5), some (jm_I (jm_w32 (x6 + 1))), none]) (by rfl) (by rfl) ?_
      exact H
    · replace H := H.2 hc19
      refine jm_iconst jd_Search_goesOn_211 (jm_o32c rfl) ?_
      exact jm_zreturn jd_Search_goesOn_212 rfl (Or.inr rfl) (by decide) ⟨rfl, _, rfl, H⟩
  · replace H := H.2 hc1
    refine jm_goto (tgt := 213) jd_Search_goesOn_92 rfl ?_
    refine jm_iinc jd_Search_goesOn_213 rfl (by decide) (ls2 := [some (jm_R 61), some (jm_I x1), some (jm_I x2), some (jm_I x3), some (jm_I x4), some (jm_I x5), some (jm_I (jm_w32 (x6 + 1))), some (jm_I x7)]) rfl ?_
    refine jm_goto (tgt := 42) jd_Search_goesOn_216 rfl ?_
    refine jm_keepG [true, true, true, true, true, true, true, false] (ls2 := [some (jm_R 61), some (jm_I x1), some (jm_I x2), some (jm_I x3), some (jm_I x4), some (jm_I x5), some (jm_I (jm_w32 (x6 + 1))), none]) (by rfl) (by rfl) ?_
    exact H
set_option maxRecDepth 4000 in
theorem jb_Search_endsWith {E : jm_Env} {x1 x2 x3 : Int} {h : jm_H} {K : Int → jm_H → Prop} (H : (0 ≤ jm_w32 (x2 - 1) ∧ jm_w32 (x2 - 1) < 3) ∧ ((0 ≤ jm_w32 (x1 + 1) ∧ jm_w32 (x1 + 1) < 8) ∧ ((0 ≤ x1 ∧ x1 < 8) ∧ (jm_BI E jm_SH jm_m_Search_endsWith 3 38 [some (jm_R 61), some (jm_I x1), some (jm_I x2), some (jm_I x3), some (jm_I (jm_w32 (x2 - 1))), some (jm_R (70 + (Int.toNat (jm_w32 (x2 - 1))))), some (jm_I (h 67 (Int.toNat (jm_w32 (x1 + 1))))), some (jm_I (h 67 (Int.toNat x1)))] [] h K)))) : jm_CI E jm_SH jm_m_Search_endsWith 3 [jm_R 61, jm_I x1, jm_I x2, jm_I x3] h K := by
  refine jm_body (ls0 := [some (jm_R 61), some (jm_I x1), some (jm_I x2), some (jm_I x3), none, none, none, none]) (by decide +kernel) rfl rfl (Nat.le_of_ble_eq_true rfl) ?_
  refine jm_iload_n jd_Search_endsWith_0 rfl rfl ?_
  refine jm_iconst jd_Search_endsWith_1 (jm_o32c rfl) ?_
  refine jm_isub jd_Search_endsWith_2 ?_
  refine jm_istore (i := 4) jd_Search_endsWith_3 (by decide) (ls2 := [some (jm_R 61), some (jm_I x1), some (jm_I x2), some (jm_I x3), some (jm_I (jm_w32 (x2 - 1))), none, none, none]) rfl ?_
  refine jm_aload_n jd_Search_endsWith_5 rfl rfl ?_
  refine jm_gR jd_Search_endsWith_6 jf_Search_22 jm_SH_61 rfl ?_
  refine jm_iload jd_Search_endsWith_9 rfl ?_
  obtain ⟨hb1, H⟩ := H
  refine jm_aaload jd_Search_endsWith_11 jm_SH_69 (by decide) hb1 (jm_SH_r69 _ (by omega)) ?_
  refine jm_astore (i := 5) jd_Search_endsWith_12 (by decide) (ls2 := [some (jm_R 61), some (jm_I x1), some (jm_I x2), some (jm_I x3), some (jm_I (jm_w32 (x2 - 1))), some (jm_R (70 + (Int.toNat (jm_w32 (x2 - 1))))), none, none]) rfl ?_
  refine jm_aload_n jd_Search_endsWith_14 rfl rfl ?_
  refine jm_gR jd_Search_endsWith_15 jf_Search_10 jm_SH_61 rfl ?_
  refine jm_gR jd_Search_endsWith_18 jf_Search_99 jm_SH_62 rfl ?_
  refine jm_iload_n jd_Search_endsWith_21 rfl rfl ?_
  refine jm_iconst jd_Search_endsWith_22 (jm_o32c rfl) ?_
  refine jm_iadd jd_Search_endsWith_23 ?_
  obtain ⟨hb2, H⟩ := H
  refine jm_iaload jd_Search_endsWith_24 jm_SH_67 hb2 ?_
  refine jm_istore (i := 6) jd_Search_endsWith_25 (by decide) (ls2 := [some (jm_R 61), some (jm_I x1), some (jm_I x2), some (jm_I x3), some (jm_I (jm_w32 (x2 - 1))), some (jm_R (70 + (Int.toNat (jm_w32 (x2 - 1))))), some (jm_I (h 67 (Int.toNat (jm_w32 (x1 + 1))))), none]) rfl ?_
  refine jm_aload_n jd_Search_endsWith_27 rfl rfl ?_
  refine jm_gR jd_Search_endsWith_28 jf_Search_10 jm_SH_61 rfl ?_
  refine jm_gR jd_Search_endsWith_31 jf_Search_99 jm_SH_62 rfl ?_
  refine jm_iload_n jd_Search_endsWith_34 rfl rfl ?_
  obtain ⟨hb3, H⟩ := H
  refine jm_iaload jd_Search_endsWith_35 jm_SH_67 hb3 ?_
  refine jm_istore (i := 7) jd_Search_endsWith_36 (by decide) (ls2 := [some (jm_R 61), some (jm_I x1), some (jm_I x2), some (jm_I x3), some (jm_I (jm_w32 (x2 - 1))), some (jm_R (70 + (Int.toNat (jm_w32 (x2 - 1))))), some (jm_I (h 67 (Int.toNat (jm_w32 (x1 + 1))))), some (jm_I (h 67 (Int.toNat x1)))]) rfl ?_
  exact H
set_option maxRecDepth 4000 in
theorem jb_Search_endsWith_38 {E : jm_Env} {x1 x2 x3 x4 x6 x7 : Int} {q5 : Nat} (hq5 : q5 < 3) {h : jm_H} {K : Int → jm_H → Prop} (H : ((x6 ≤ x7) → K 0 h) ∧ ((¬ x6 ≤ x7) → (0 ≤ x7 ∧ x7 < 24) ∧ (((¬ jv_and x3 (jv_xor (h 65 (Int.toNat x7)) (-1)) = 0) → jm_BI E jm_SH jm_m_Search_endsWith 3 38 [some (jm_R 61), some (jm_I x1), some (jm_I x2), some (jm_I x3), some (jm_I x4), some (jm_R (70 + q5)), some (jm_I x6), some (jm_I (jm_w32 (x7 + 1)))] [] h K) ∧ ((jv_and x3 (jv_xor (h 65 (Int.toNat x7)) (-1)) = 0) → ((¬ x4 = 0) → jm_BI E jm_SH jm_m_Search_endsWith 3 83 [some (jm_R 61), some (jm_I x1), some (jm_I x2), some (jm_I x3), some (jm_I x4), some (jm_R (70 + q5)), some (jm_I x6), some (jm_I x7)] [] h K) ∧ ((x4 = 0) → (0 ≤ x7 ∧ x7 < 24) ∧ (((¬ h 66 (Int.toNat x7) = 0) → jm_BI E jm_SH jm_m_Search_endsWith 3 83 [some (jm_R 61), some (jm_I x1), some (jm_I x2), some (jm_I x3), some (jm_I x4), some (jm_R (70 + q5)), some (jm_I x6), some (jm_I x7)] [] h K) ∧ ((h 66 (Int.toNat x7) = 0) → jm_BI E jm_SH jm_m_Search_endsWith 3 38 [some (jm_R 61), some (jm_I x1), some (jm_I x2), some (jm_I x3), some (jm_I x4), some (jm_R (70 + q5)), some (jm_I x6), some (jm_I (jm_w32 (x7 + 1)))] [] h K))))))) : jm_BI E jm_SH jm_m_Search_endsWith 3 38 [some (jm_R 61), some (jm_I x1), some (jm_I x2), some (jm_I x3), some (jm_I x4), some (jm_R (70 + q5)), some (jm_I x6), some (jm_I x7)] [] h K := by
  refine jm_iload jd_Search_endsWith_38 rfl ?_
  refine jm_iload jd_Search_endsWith_40 rfl ?_
  refine jm_icmp_ge (tgt := 173) jd_Search_endsWith_42 rfl (fun hc1 => ?_) (fun hc1 => ?_)
  · replace H := H.1 hc1
    refine jm_iconst jd_Search_endsWith_173 (jm_o32c rfl) ?_
    exact jm_zreturn jd_Search_endsWith_174 rfl (Or.inl rfl) (by decide) ⟨rfl, _, rfl, H⟩
  · replace H := H.2 hc1
    refine jm_iload_n jd_Search_endsWith_45 rfl rfl ?_
    refine jm_aload_n jd_Search_endsWith_46 rfl rfl ?_
    refine jm_gR jd_Search_endsWith_47 jf_Search_10 jm_SH_61 rfl ?_
    refine jm_gR jd_Search_endsWith_50 jf_Search_101 jm_SH_62 rfl ?_
    refine jm_iload jd_Search_endsWith_53 rfl ?_
    obtain ⟨hb2, H⟩ := H
    refine jm_iaload jd_Search_endsWith_55 jm_SH_65 hb2 ?_
    refine jm_iconst jd_Search_endsWith_56 (jm_o32c rfl) ?_
    refine jm_ixor jd_Search_endsWith_57 ?_
    refine jm_iand jd_Search_endsWith_58 ?_
    refine jm_if_ne (tgt := 167) jd_Search_endsWith_59 rfl (fun hc3 => ?_) (fun hc3 => ?_)
    · replace H := H.1 hc3
      refine jm_iinc jd_Search_endsWith_167 rfl (by decide) (ls2 := [some (jm_R 61), some (jm_I x1), some (jm_I x2), some (jm_I x3), some (jm_I x4), some (jm_R (70 + q5)), some (jm_I x6), some (jm_I (jm_w32 (x7 + 1)))]) rfl ?_
      refine jm_goto (tgt := 38) jd_Search_endsWith_170 rfl ?_
      exact H
    · replace H := H.2 hc3
      refine jm_iload jd_Search_endsWith_62 rfl ?_
      refine jm_if_ne (tgt := 83) jd_Search_endsWith_64 rfl (fun hc4 => ?_) (fun hc4 => ?_)
      · replace H := H.1 hc4
        exact H
      · replace H := H.2 hc4
        refine jm_aload_n jd_Search_endsWith_67 rfl rfl ?_
        refine jm_gR jd_Search_endsWith_68 jf_Search_10 jm_SH_61 rfl ?_
        refine jm_gR jd_Search_endsWith_71 jf_Search_104 jm_SH_62 rfl ?_
        refine jm_iload jd_Search_endsWith_74 rfl ?_
        obtain ⟨hb5, H⟩ := H
        refine jm_baload jd_Search_endsWith_76 jm_SH_66 hb5 ?_
        refine jm_if_ne (tgt := 83) jd_Search_endsWith_77 rfl (fun hc6 => ?_) (fun hc6 => ?_)
        · replace H := H.1 hc6
          exact H
        · replace H := H.2 hc6
          refine jm_goto (tgt := 167) jd_Search_endsWith_80 rfl ?_
          refine jm_iinc jd_Search_endsWith_167 rfl (by decide) (ls2 := [some (jm_R 61), some (jm_I x1), some (jm_I x2), some (jm_I x3), some (jm_I x4), some (jm_R (70 + q5)), some (jm_I x6), some (jm_I (jm_w32 (x7 + 1)))]) rfl ?_
          refine jm_goto (tgt := 38) jd_Search_endsWith_170 rfl ?_
          exact H
set_option maxRecDepth 4000 in
theorem jb_Search_endsWith_83 {E : jm_Env} {x1 x2 x3 x4 x6 x7 : Int} {q5 : Nat} (hq5 : q5 < 3) {h : jm_H} {K : Int → jm_H → Prop} (H : (0 ≤ x7 ∧ x7 < 24) ∧ ((0 ≤ h 63 (Int.toNat x7) ∧ h 63 (Int.toNat x7) < 3) ∧ ((0 ≤ x7 ∧ x7 < 24) ∧ ((0 ≤ h 64 (Int.toNat x7) ∧ h 64 (Int.toNat x7) < 3) ∧ (jm_CL E jm_SH jm_m_Machine_result 0 [jm_I x1, jm_L (h (70 + q5) (Int.toNat (h 63 (Int.toNat x7)))), jm_L (h (70 + q5) (Int.toNat (h 64 (Int.toNat x7))))] h (fun v5 h5 => ((¬ jv_lcmp v5 (h5 68 0) = 0) → jm_BI E jm_SH jm_m_Search_endsWith 3 38 [some (jm_R 61), some (jm_I x1), some (jm_I x2), some (jm_I x3), some (jm_I x4), some (jm_R (70 + q5)), some (jm_I x6), some (jm_I (jm_w32 (x7 + 1)))] [] h5 K) ∧ ((jv_lcmp v5 (h5 68 0) = 0) → (0 ≤ x7 ∧ x7 < 24) ∧ ((0 ≤ x4 ∧ x4 < 3) ∧ ((0 ≤ x7 ∧ x7 < 24) ∧ ((0 ≤ x4 ∧ x4 < 3) ∧ (jm_CI E jm_SH jm_m_Search_doesAll 2 [jm_R 61, jm_I x2] (jm_up (jm_up h5 76 (Int.toNat x4) (h5 63 (Int.toNat x7))) 77 (Int.toNat x4) (h5 64 (Int.toNat x7))) (fun v11 h11 => ((v11 = 0) → jm_BI E jm_SH jm_m_Search_endsWith 3 38 [some (jm_R 61), some (jm_I x1), some (jm_I x2), some (jm_I x3), some (jm_I x4), some (jm_R (70 + q5)), some (jm_I x6), some (jm_I (jm_w32 (x7 + 1)))] [] h11 K) ∧ ((¬ v11 = 0) → K 1 h11))))))))))))) : jm_BI E jm_SH jm_m_Search_endsWith 3 83 [some (jm_R 61), some (jm_I x1), some (jm_I x2), some (jm_I x3), some (jm_I x4), some (jm_R (70 + q5)), some (jm_I x6), some (jm_I x7)] [] h K := by
  refine jm_iload_n jd_Search_endsWith_83 rfl rfl ?_
  refine jm_aload jd_Search_endsWith_84 rfl ?_
  refine jm_aload_n jd_Search_endsWith_86 rfl rfl ?_
  refine jm_gR jd_Search_endsWith_87 jf_Search_10 jm_SH_61 rfl ?_
  refine jm_gR jd_Search_endsWith_90 jf_Search_108 jm_SH_62 rfl ?_
  refine jm_iload jd_Search_endsWith_93 rfl ?_
  obtain ⟨hb1, H⟩ := H
  refine jm_iaload jd_Search_endsWith_95 jm_SH_63 hb1 ?_
  obtain ⟨hb2, H⟩ := H
  refine jm_laload jd_Search_endsWith_96 (jm_SH_s69 _ hq5) hb2 ?_
  refine jm_aload jd_Search_endsWith_97 rfl ?_
  refine jm_aload_n jd_Search_endsWith_99 rfl rfl ?_
  refine jm_gR jd_Search_endsWith_100 jf_Search_10 jm_SH_61 rfl ?_
  refine jm_gR jd_Search_endsWith_103 jf_Search_109 jm_SH_62 rfl ?_
  refine jm_iload jd_Search_endsWith_106 rfl ?_
  obtain ⟨hb3, H⟩ := H
  refine jm_iaload jd_Search_endsWith_108 jm_SH_64 hb3 ?_
  obtain ⟨hb4, H⟩ := H
  refine jm_laload jd_Search_endsWith_109 (jm_SH_s69 _ hq5) hb4 ?_
  refine jm_cS (M' := jm_m_Machine_result) (d' := 0) (av := [jm_I x1, jm_L (h (70 + q5) (Int.toNat (h 63 (Int.toNat x7)))), jm_L (h (70 + q5) (Int.toNat (h 64 (Int.toNat x7))))]) jd_Search_endsWith_110 jk_Machine_result jw_796 rfl (by omega) ⟨rfl, rfl⟩ (by decide) (Nat.le_of_ble_eq_true rfl) (jm_hqL (fun v5 h5 H => ?_)) H
  refine jm_aload_n jd_Search_endsWith_113 rfl rfl ?_
  refine jm_gR jd_Search_endsWith_114 jf_Search_16 jm_SH_61 rfl ?_
  refine jm_iconst jd_Search_endsWith_117 (jm_o32c rfl) ?_
  refine jm_laload jd_Search_endsWith_118 jm_SH_68 (by decide) ?_
  refine jm_topL (y := h5 68 0) rfl ?_
  refine jm_lcmp jd_Search_endsWith_119 ?_
  refine jm_if_ne (tgt := 167) jd_Search_endsWith_120 rfl (fun hc6 => ?_) (fun hc6 => ?_)
  · replace H := H.1 hc6
    refine jm_iinc jd_Search_endsWith_167 rfl (by decide) (ls2 := [some (jm_R 61), some (jm_I x1), some (jm_I x2), some (jm_I x3), some (jm_I x4), some (jm_R (70 + q5)), some (jm_I x6), some (jm_I (jm_w32 (x7 + 1)))]) rfl ?_
    refine jm_goto (tgt := 38) jd_Search_endsWith_170 rfl ?_
    exact H
  · replace H := H.2 hc6
    refine jm_aload_n jd_Search_endsWith_123 rfl rfl ?_
    refine jm_gR jd_Search_endsWith_124 jf_Search_35 jm_SH_61 rfl ?_
    refine jm_iload jd_Search_endsWith_127 rfl ?_
    refine jm_aload_n jd_Search_endsWith_129 rfl rfl ?_
    refine jm_gR jd_Search_endsWith_130 jf_Search_10 jm_SH_61 rfl ?_
    refine jm_gR jd_Search_endsWith_133 jf_Search_108 jm_SH_62 rfl ?_
    refine jm_iload jd_Search_endsWith_136 rfl ?_
    obtain ⟨hb7, H⟩ := H
    refine jm_iaload jd_Search_endsWith_138 jm_SH_63 hb7 ?_
    obtain ⟨hb8, H⟩ := H
    refine jm_iastore jd_Search_endsWith_139 jm_SH_76 hb8 ?_
    refine jm_aload_n jd_Search_endsWith_140 rfl rfl ?_
    refine jm_gR jd_Search_endsWith_141 jf_Search_38 jm_SH_61 rfl ?_
    refine jm_iload jd_Search_endsWith_144 rfl ?_
    refine jm_aload_n jd_Search_endsWith_146 rfl rfl ?_
    refine jm_gR jd_Search_endsWith_147 jf_Search_10 jm_SH_61 rfl ?_
    refine jm_gR jd_Search_endsWith_150 jf_Search_109 jm_SH_62 rfl ?_
    refine jm_iload jd_Search_endsWith_153 rfl ?_
    obtain ⟨hb9, H⟩ := H
    refine jm_iaload jd_Search_endsWith_155 jm_SH_64 hb9 ?_
    refine jm_topI (y := h5 64 (Int.toNat x7)) rfl ?_
    obtain ⟨hb10, H⟩ := H
    refine jm_iastore jd_Search_endsWith_156 jm_SH_77 hb10 ?_
    refine jm_aload_n jd_Search_endsWith_157 rfl rfl ?_
    refine jm_iload_n jd_Search_endsWith_158 rfl rfl ?_
    refine jm_cV (M' := jm_m_Search_doesAll) (d' := 2) (av := [jm_I x2]) jd_Search_endsWith_159 jk_Search_doesAll jw_792 rfl (by omega) ⟨rfl, rfl⟩ (by decide) (Nat.le_of_ble_eq_true rfl) jm_SH_61 rfl rfl (jm_hqI (fun v11 h11 H => ?_)) H
    refine jm_if_eq (tgt := 167) jd_Search_endsWith_162 rfl (fun hc12 => ?_) (fun hc12 => ?_)
    · replace H := H.1 hc12
      refine jm_iinc jd_Search_endsWith_167 rfl (by decide) (ls2 := [some (jm_R 61), some (jm_I x1), some (jm_I x2), some (jm_I x3), some (jm_I x4), some (jm_R (70 + q5)), some (jm_I x6), some (jm_I (jm_w32 (x7 + 1)))]) rfl ?_
      refine jm_goto (tgt := 38) jd_Search_endsWith_170 rfl ?_
      exact H
    · replace H := H.2 hc12
      refine jm_iconst jd_Search_endsWith_165 (jm_o32c rfl) ?_
      exact jm_zreturn jd_Search_endsWith_166 rfl (Or.inr rfl) (by decide) ⟨rfl, _, rfl, H⟩
