set_option maxRecDepth 4000 in
theorem jb_Pad_lay {E : jm_Env} {x1 : Int} {h : jm_H} {K : Int → jm_H → Prop} (H : ((h 1 2 < 60) → (0 ≤ h 1 2 ∧ h 1 2 < 60) ∧ (K 1 (jm_up (jm_up h 2 (Int.toNat (h 1 2)) x1) 1 2 (jm_w32 ((h 1 2) + 1))))) ∧ ((¬ h 1 2 < 60) → K 0 h)) : jm_CI E jm_SH jm_m_Pad_lay 0 [jm_R 1, jm_I x1] h K := by
  refine jm_body (ls0 := [some (jm_R 1), some (jm_I x1)]) (by decide +kernel) rfl rfl (Nat.le_of_ble_eq_true rfl) ?_
  refine jm_aload_n jd_Pad_lay_0 rfl rfl ?_
  refine jm_gI jd_Pad_lay_1 jf_Pad_18 jm_SH_1 ?_
  refine jm_bipush jd_Pad_lay_4 jb_60 ?_
  refine jm_icmp_lt (tgt := 11) jd_Pad_lay_6 rfl (fun hc1 => ?_) (fun hc1 => ?_)
  · replace H := H.1 hc1
    refine jm_aload_n jd_Pad_lay_11 rfl rfl ?_
    refine jm_gR jd_Pad_lay_12 jf_Pad_11 jm_SH_1 rfl ?_
    refine jm_aload_n jd_Pad_lay_15 rfl rfl ?_
    refine jm_gI jd_Pad_lay_16 jf_Pad_18 jm_SH_1 ?_
    refine jm_iload_n jd_Pad_lay_19 rfl rfl ?_
    obtain ⟨hb2, H⟩ := H
    refine jm_iastore jd_Pad_lay_20 jm_SH_2 hb2 ?_
    refine jm_aload_n jd_Pad_lay_21 rfl rfl ?_
    refine jm_dup jd_Pad_lay_22 rfl ?_
    refine jm_gI jd_Pad_lay_23 jf_Pad_18 jm_SH_1 ?_
    refine jm_topI (y := h 1 2) rfl ?_
    refine jm_iconst jd_Pad_lay_26 (jm_o32c rfl) ?_
    refine jm_iadd jd_Pad_lay_27 ?_
    refine jm_sI jd_Pad_lay_28 jp_Pad_18 jm_SH_1 ?_
    refine jm_iconst jd_Pad_lay_31 (jm_o32c rfl) ?_
    exact jm_zreturn jd_Pad_lay_32 rfl (Or.inr rfl) (by decide) ⟨rfl, _, rfl, H⟩
  · replace H := H.2 hc1
    refine jm_iconst jd_Pad_lay_9 (jm_o32c rfl) ?_
    exact jm_zreturn jd_Pad_lay_10 rfl (Or.inl rfl) (by decide) ⟨rfl, _, rfl, H⟩
set_option maxRecDepth 4000 in
theorem jb_Pad_faultAsTree {E : jm_Env} {h : jm_H} {K : Int → jm_H → Prop} (H : jm_CI E jm_SH jm_m_Pad_firstFault 2 [jm_R 1, jm_I 0] h (fun v1 h1 => K v1 h1)) : jm_CI E jm_SH jm_m_Pad_faultAsTree 3 [jm_R 1] h K := by
  refine jm_body (ls0 := [some (jm_R 1)]) (by decide +kernel) rfl rfl (Nat.le_of_ble_eq_true rfl) ?_
  refine jm_aload_n jd_Pad_faultAsTree_0 rfl rfl ?_
  refine jm_iconst jd_Pad_faultAsTree_1 (jm_o32c rfl) ?_
  refine jm_cV (M' := jm_m_Pad_firstFault) (d' := 2) (av := [jm_I 0]) jd_Pad_faultAsTree_2 jk_Pad_firstFault jw_413 rfl (by omega) ⟨rfl, rfl⟩ (by decide) (Nat.le_of_ble_eq_true rfl) jm_SH_1 rfl rfl (jm_hqI (fun v1 h1 H => ?_)) H
  exact jm_ireturn jd_Pad_faultAsTree_5 rfl (by decide) ⟨rfl, _, rfl, H⟩
set_option maxRecDepth 4000 in
theorem jb_Pad_faultAsPattern {E : jm_Env} {h : jm_H} {K : Int → jm_H → Prop} (H : jm_CI E jm_SH jm_m_Pad_firstFault 2 [jm_R 1, jm_I 1] h (fun v1 h1 => K v1 h1)) : jm_CI E jm_SH jm_m_Pad_faultAsPattern 3 [jm_R 1] h K := by
  refine jm_body (ls0 := [some (jm_R 1)]) (by decide +kernel) rfl rfl (Nat.le_of_ble_eq_true rfl) ?_
  refine jm_aload_n jd_Pad_faultAsPattern_0 rfl rfl ?_
  refine jm_iconst jd_Pad_faultAsPattern_1 (jm_o32c rfl) ?_
  refine jm_cV (M' := jm_m_Pad_firstFault) (d' := 2) (av := [jm_I 1]) jd_Pad_faultAsPattern_2 jk_Pad_firstFault jw_413 rfl (by omega) ⟨rfl, rfl⟩ (by decide) (Nat.le_of_ble_eq_true rfl) jm_SH_1 rfl rfl (jm_hqI (fun v1 h1 H => ?_)) H
  exact jm_ireturn jd_Pad_faultAsPattern_5 rfl (by decide) ⟨rfl, _, rfl, H⟩
set_option maxRecDepth 4000 in
theorem jb_Pad_firstFault {E : jm_Env} {x1 : Int} {h : jm_H} {K : Int → jm_H → Prop} (H : jm_BI E jm_SH jm_m_Pad_firstFault 2 11 [some (jm_R 1), some (jm_I x1), some (jm_I 0), some (jm_I 0), none, none, none] [] (jm_up h 3 0 1) K) : jm_CI E jm_SH jm_m_Pad_firstFault 2 [jm_R 1, jm_I x1] h K := by
  refine jm_body (ls0 := [some (jm_R 1), some (jm_I x1), none, none, none, none, none]) (by decide +kernel) rfl rfl (Nat.le_of_ble_eq_true rfl) ?_
  refine jm_iconst jd_Pad_firstFault_0 (jm_o32c rfl) ?_
  refine jm_istore_n (i := 2) jd_Pad_firstFault_1 rfl (by decide) (ls2 := [some (jm_R 1), some (jm_I x1), some (jm_I 0), none, none, none, none]) rfl ?_
  refine jm_aload_n jd_Pad_firstFault_2 rfl rfl ?_
  refine jm_gR jd_Pad_firstFault_3 jf_Pad_15 jm_SH_1 rfl ?_
  refine jm_iconst jd_Pad_firstFault_6 (jm_o32c rfl) ?_
  refine jm_iconst jd_Pad_firstFault_7 (jm_o32c rfl) ?_
  refine jm_iastore jd_Pad_firstFault_8 jm_SH_3 (by decide) ?_
  refine jm_iconst jd_Pad_firstFault_9 (jm_o32c rfl) ?_
  refine jm_istore_n (i := 3) jd_Pad_firstFault_10 rfl (by decide) (ls2 := [some (jm_R 1), some (jm_I x1), some (jm_I 0), some (jm_I 0), none, none, none]) rfl ?_
  exact H
set_option maxRecDepth 4000 in
theorem jb_Pad_firstFault_11 {E : jm_Env} {x1 x2 x3 : Int} {h : jm_H} {K : Int → jm_H → Prop} (H : ((h 1 2 ≤ x3) → ((0 ≤ x2) → K (h 1 2) h) ∧ ((¬ 0 ≤ x2) → K (-6) h)) ∧ ((¬ h 1 2 ≤ x3) → (0 ≤ x3 ∧ x3 < 60) ∧ (jm_CI E jm_SH jm_m_Pad_partsOf 0 [jm_I (h 2 (Int.toNat x3))] h (fun v4 h4 => ((x1 = 0) → (0 ≤ x3 ∧ x3 < 60) ∧ (jm_CI E jm_SH jm_m_Pad_isTreeLeaf 1 [jm_I (h4 2 (Int.toNat x3))] h4 (fun v7 h7 => ((v4 ≤ 0) → jm_BI E jm_SH jm_m_Pad_firstFault 2 78 [some (jm_R 1), some (jm_I x1), some (jm_I x2), some (jm_I x3), some (jm_I v4), none, none] [jm_I v7] h7 K) ∧ ((¬ v4 ≤ 0) → ((12 ≤ x2) → jm_BI E jm_SH jm_m_Pad_firstFault 2 78 [some (jm_R 1), some (jm_I x1), some (jm_I x2), some (jm_I x3), some (jm_I v4), none, none] [jm_I 0] h7 K) ∧ ((¬ 12 ≤ x2) → jm_BI E jm_SH jm_m_Pad_firstFault 2 78 [some (jm_R 1), some (jm_I x1), some (jm_I x2), some (jm_I x3), some (jm_I v4), none, none] [jm_I 1] h7 K))))) ∧ ((¬ x1 = 0) → (0 ≤ x3 ∧ x3 < 60) ∧ (jm_CI E jm_SH jm_m_Pad_isPatternLeaf 1 [jm_I (h4 2 (Int.toNat x3))] h4 (fun v11 h11 => ((v4 ≤ 0) → jm_BI E jm_SH jm_m_Pad_firstFault 2 78 [some (jm_R 1), some (jm_I x1), some (jm_I x2), some (jm_I x3), some (jm_I v4), none, none] [jm_I v11] h11 K) ∧ ((¬ v4 ≤ 0) → ((12 ≤ x2) → jm_BI E jm_SH jm_m_Pad_firstFault 2 78 [some (jm_R 1), some (jm_I x1), some (jm_I x2), some (jm_I x3), some (jm_I v4), none, none] [jm_I 0] h11 K) ∧ ((¬ 12 ≤ x2) → jm_BI E jm_SH jm_m_Pad_firstFault 2 78 [some (jm_R 1), some (jm_I x1), some (jm_I x2), some (jm_I x3), some (jm_I v4), none, none] [jm_I 1] h11 K))))))))) : jm_BI E jm_SH jm_m_Pad_firstFault 2 11 [some (jm_R 1), some (jm_I x1), some (jm_I x2), some (jm_I x3), none, none, none] [] h K := by
  refine jm_iload_n jd_Pad_firstFault_11 rfl rfl ?_
  refine jm_aload_n jd_Pad_firstFault_12 rfl rfl ?_
  refine jm_gI jd_Pad_firstFault_13 jf_Pad_18 jm_SH_1 ?_
  refine jm_icmp_ge (tgt := 129) jd_Pad_firstFault_16 rfl (fun hc1 => ?_) (fun hc1 => ?_)
  · replace H := H.1 hc1
    refine jm_iload_n jd_Pad_firstFault_129 rfl rfl ?_
    refine jm_if_ge (tgt := 138) jd_Pad_firstFault_130 rfl (fun hc2 => ?_) (fun hc2 => ?_)
    · replace H := H.1 hc2
      refine jm_aload_n jd_Pad_firstFault_138 rfl rfl ?_
      refine jm_gI jd_Pad_firstFault_139 jf_Pad_18 jm_SH_1 ?_
      exact jm_ireturn jd_Pad_firstFault_142 rfl (by decide) ⟨rfl, _, rfl, H⟩
    · replace H := H.2 hc2
      refine jm_bipush jd_Pad_firstFault_133 jb_m6 ?_
      refine jm_goto (tgt := 142) jd_Pad_firstFault_135 rfl ?_
      exact jm_ireturn jd_Pad_firstFault_142 rfl (by decide) ⟨rfl, _, rfl, H⟩
  · replace H := H.2 hc1
    refine jm_aload_n jd_Pad_firstFault_19 rfl rfl ?_
    refine jm_gR jd_Pad_firstFault_20 jf_Pad_11 jm_SH_1 rfl ?_
    refine jm_iload_n jd_Pad_firstFault_23 rfl rfl ?_
    obtain ⟨hb3, H⟩ := H
    refine jm_iaload jd_Pad_firstFault_24 jm_SH_2 hb3 ?_
    refine jm_cS (M' := jm_m_Pad_partsOf) (d' := 0) (av := [jm_I (h 2 (Int.toNat x3))]) jd_Pad_firstFault_25 jk_Pad_partsOf jw_417 rfl (by omega) ⟨rfl, rfl⟩ (by decide) (Nat.le_of_ble_eq_true rfl) (jm_hqI (fun v4 h4 H => ?_)) H
    refine jm_istore (i := 4) jd_Pad_firstFault_28 (by decide) (ls2 := [some (jm_R 1), some (jm_I x1), some (jm_I x2), some (jm_I x3), some (jm_I v4), none, none]) rfl ?_
    refine jm_iload_n jd_Pad_firstFault_30 rfl rfl ?_
    refine jm_if_eq (tgt := 46) jd_Pad_firstFault_31 rfl (fun hc5 => ?_) (fun hc5 => ?_)
    · replace H := H.1 hc5
      refine jm_aload_n jd_Pad_firstFault_46 rfl rfl ?_
      refine jm_gR jd_Pad_firstFault_47 jf_Pad_11 jm_SH_1 rfl ?_
      refine jm_iload_n jd_Pad_firstFault_50 rfl rfl ?_
      obtain ⟨hb6, H⟩ := H
      refine jm_iaload jd_Pad_firstFault_51 jm_SH_2 hb6 ?_
      refine jm_cS (M' := jm_m_Pad_isTreeLeaf) (d' := 1) (av := [jm_I (h4 2 (Int.toNat x3))]) jd_Pad_firstFault_52 jk_Pad_isTreeLeaf jw_429 rfl (by omega) ⟨rfl, rfl⟩ (by decide) (Nat.le_of_ble_eq_true rfl) (jm_hqI (fun v7 h7 H => ?_)) H
      refine jm_istore (i := 5) jd_Pad_firstFault_55 (by decide) (ls2 := [some (jm_R 1), some (jm_I x1), some (jm_I x2), some (jm_I x3), some (jm_I v4), some (jm_I v7), none]) rfl ?_
      refine jm_iload jd_Pad_firstFault_57 rfl ?_
      refine jm_if_le (tgt := 76) jd_Pad_firstFault_59 rfl (fun hc8 => ?_) (fun hc8 => ?_)
      · replace H := H.1 hc8
        refine jm_iload jd_Pad_firstFault_76 rfl ?_
        refine jm_keepG [true, true, true, true, true, false, false] (ls2 := [some (jm_R 1), some (jm_I x1), some (jm_I x2), some (jm_I x3), some (jm_I v4), none, none]) (by rfl) (by rfl) ?_
        exact H
      · replace H := H.2 hc8
        refine jm_iload_n jd_Pad_firstFault_62 rfl rfl ?_
        refine jm_bipush jd_Pad_firstFault_63 jb_12 ?_
        refine jm_icmp_ge (tgt := 72) jd_Pad_firstFault_65 rfl (fun hc9 => ?_) (fun hc9 => ?_)
        · replace H := H.1 hc9
          refine jm_iconst jd_Pad_firstFault_72 (jm_o32c rfl) ?_
          refine jm_goto (tgt := 78) jd_Pad_firstFault_73 rfl ?_
          refine jm_keepG [true, true, true, true, true, false, false] (ls2 := [some (jm_R 1), some (jm_I x1), some (jm_I x2), some (jm_I x3), some (jm_I v4), none, none]) (by rfl) (by rfl) ?_
          exact H
        · replace H := H.2 hc9
          refine jm_iconst jd_Pad_firstFault_68 (jm_o32c rfl) ?_
          refine jm_goto (tgt := 78) jd_Pad_firstFault_69 rfl ?_
          refine jm_keepG [true, true, true, true, true, false, false] (ls2 := [some (jm_R 1), some (jm_I x1), some (jm_I x2), some (jm_I x3), some (jm_I v4), none, none]) (by rfl) (by rfl) ?_
          exact H
    · replace H := H.2 hc5
      refine jm_aload_n jd_Pad_firstFault_34 rfl rfl ?_
      refine jm_gR jd_Pad_firstFault_35 jf_Pad_11 jm_SH_1 rfl ?_
      refine jm_iload_n jd_Pad_firstFault_38 rfl rfl ?_
      obtain ⟨hb10, H⟩ := H
      refine jm_iaload jd_Pad_firstFault_39 jm_SH_2 hb10 ?_
      refine jm_cS (M' := jm_m_Pad_isPatternLeaf) (d' := 1) (av := [jm_I (h4 2 (Int.toNat x3))]) jd_Pad_firstFault_40 jk_Pad_isPatternLeaf jw_420 rfl (by omega) ⟨rfl, rfl⟩ (by decide) (Nat.le_of_ble_eq_true rfl) (jm_hqI (fun v11 h11 H => ?_)) H
      refine jm_goto (tgt := 55) jd_Pad_firstFault_43 rfl ?_
      refine jm_istore (i := 5) jd_Pad_firstFault_55 (by decide) (ls2 := [some (jm_R 1), some (jm_I x1), some (jm_I x2), some (jm_I x3), some (jm_I v4), some (jm_I v11), none]) rfl ?_
      refine jm_iload jd_Pad_firstFault_57 rfl ?_
      refine jm_if_le (tgt := 76) jd_Pad_firstFault_59 rfl (fun hc12 => ?_) (fun hc12 => ?_)
      · replace H := H.1 hc12
        refine jm_iload jd_Pad_firstFault_76 rfl ?_
        refine jm_keepG [true, true, true, true, true, false, false] (ls2 := [some (jm_R 1), some (jm_I x1), some (jm_I x2), some (jm_I x3), some (jm_I v4), none, none]) (by rfl) (by rfl) ?_
        exact H
      · replace H := H.2 hc12
        refine jm_iload_n jd_Pad_firstFault_62 rfl rfl ?_
        refine jm_bipush jd_Pad_firstFault_63 jb_12 ?_
        refine jm_icmp_ge (tgt := 72) jd_Pad_firstFault_65 rfl (fun hc13 => ?_) (fun hc13 => ?_)
        · replace H := H.1 hc13
          refine jm_iconst jd_Pad_firstFault_72 (jm_o32c rfl) ?_
          refine jm_goto (tgt := 78) jd_Pad_firstFault_73 rfl ?_
          refine jm_keepG [true, true, true, true, true, false, false] (ls2 := [some (jm_R 1), some (jm_I x1), some (jm_I x2), some (jm_I x3), some (jm_I v4), none, none]) (by rfl) (by rfl) ?_
          exact H
        · replace H := H.2 hc13
          refine jm_iconst jd_Pad_firstFault_68 (jm_o32c rfl) ?_
          refine jm_goto (tgt := 78) jd_Pad_firstFault_69 rfl ?_
          refine jm_keepG [true, true, true, true, true, false, false] (ls2 := [some (jm_R 1), some (jm_I x1), some (jm_I x2), some (jm_I x3), some (jm_I v4), none, none]) (by rfl) (by rfl) ?_
          exact H
set_option maxRecDepth 4000 in
theorem jb_Pad_firstFault_78 {E : jm_Env} {x1 x2 x3 x4 s0 : Int} {h : jm_H} {K : Int → jm_H → Prop} (H : ((x2 < 0) → K x3 h) ∧ ((¬ x2 < 0) → ((¬ s0 = 0) → (0 ≤ x2 ∧ x2 < 13) ∧ ((0 ≤ x2 ∧ x2 < 13) ∧ (((x4 ≤ 0) → jm_CI E jm_SH jm_m_Pad_deepestOpen 0 [jm_R 1, jm_I x2] (jm_up h 3 (Int.toNat x2) (jm_w32 ((h 3 (Int.toNat x2)) - 1))) (fun v6 h6 => jm_BI E jm_SH jm_m_Pad_firstFault 2 11 [some (jm_R 1), some (jm_I x1), some (jm_I v6), some (jm_I (jm_w32 (x3 + 1))), none, none, none] [] h6 K)) ∧ ((¬ x4 ≤ 0) → (0 ≤ jm_w32 (x2 + 1) ∧ jm_w32 (x2 + 1) < 13) ∧ (jm_CI E jm_SH jm_m_Pad_deepestOpen 0 [jm_R 1, jm_I (jm_w32 (x2 + 1))] (jm_up (jm_up h 3 (Int.toNat x2) (jm_w32 ((h 3 (Int.toNat x2)) - 1))) 3 (Int.toNat (jm_w32 (x2 + 1))) x4) (fun v8 h8 => jm_BI E jm_SH jm_m_Pad_firstFault 2 11 [some (jm_R 1), some (jm_I x1), some (jm_I v8), some (jm_I (jm_w32 (x3 + 1))), none, none, none] [] h8 K)))))) ∧ ((s0 = 0) → K x3 h))) : jm_BI E jm_SH jm_m_Pad_firstFault 2 78 [some (jm_R 1), some (jm_I x1), some (jm_I x2), some (jm_I x3), some (jm_I x4), none, none] [jm_I s0] h K := by
  refine jm_istore (i := 6) jd_Pad_firstFault_78 (by decide) (ls2 := [some (jm_R 1), some (jm_I x1), some (jm_I x2), some (jm_I x3), some (jm_I x4), none, some (jm_I s0)]) rfl ?_
  refine jm_iload_n jd_Pad_firstFault_80 rfl rfl ?_
  refine jm_if_lt (tgt := 89) jd_Pad_firstFault_81 rfl (fun hc1 => ?_) (fun hc1 => ?_)
  · replace H := H.1 hc1
    refine jm_iload_n jd_Pad_firstFault_89 rfl rfl ?_
    exact jm_ireturn jd_Pad_firstFault_90 rfl (by decide) ⟨rfl, _, rfl, H⟩
  · replace H := H.2 hc1
    refine jm_iload jd_Pad_firstFault_84 rfl ?_
    refine jm_if_ne (tgt := 91) jd_Pad_firstFault_86 rfl (fun hc2 => ?_) (fun hc2 => ?_)
    · replace H := H.1 hc2
      refine jm_aload_n jd_Pad_firstFault_91 rfl rfl ?_
      refine jm_gR jd_Pad_firstFault_92 jf_Pad_15 jm_SH_1 rfl ?_
      refine jm_iload_n jd_Pad_firstFault_95 rfl rfl ?_
      refine jm_dup2 jd_Pad_firstFault_96 rfl rfl ?_
      obtain ⟨hb3, H⟩ := H
      refine jm_iaload jd_Pad_firstFault_97 jm_SH_3 hb3 ?_
      refine jm_iconst jd_Pad_firstFault_98 (jm_o32c rfl) ?_
      refine jm_isub jd_Pad_firstFault_99 ?_
      obtain ⟨hb4, H⟩ := H
      refine jm_iastore jd_Pad_firstFault_100 jm_SH_3 hb4 ?_
      refine jm_iload jd_Pad_firstFault_101 rfl ?_
      refine jm_if_le (tgt := 117) jd_Pad_firstFault_103 rfl (fun hc5 => ?_) (fun hc5 => ?_)
      · replace H := H.1 hc5
        refine jm_aload_n jd_Pad_firstFault_117 rfl rfl ?_
        refine jm_iload_n jd_Pad_firstFault_118 rfl rfl ?_
        refine jm_cV (M' := jm_m_Pad_deepestOpen) (d' := 0) (av := [jm_I x2]) jd_Pad_firstFault_119 jk_Pad_deepestOpen jw_435 rfl (by omega) ⟨rfl, rfl⟩ (by decide) (Nat.le_of_ble_eq_true rfl) jm_SH_1 rfl rfl (jm_hqI (fun v6 h6 H => ?_)) H
        refine jm_istore_n (i := 2) jd_Pad_firstFault_122 rfl (by decide) (ls2 := [some (jm_R 1), some (jm_I x1), some (jm_I v6), some (jm_I x3), some (jm_I x4), none, some (jm_I s0)]) rfl ?_
        refine jm_iinc jd_Pad_firstFault_123 rfl (by decide) (ls2 := [some (jm_R 1), some (jm_I x1), some (jm_I v6), some (jm_I (jm_w32 (x3 + 1))), some (jm_I x4), none, some (jm_I s0)]) rfl ?_
        refine jm_goto (tgt := 11) jd_Pad_firstFault_126 rfl ?_
        refine jm_keepG [true, true, true, true, false, false, false] (ls2 := [some (jm_R 1), some (jm_I x1), some (jm_I v6), some (jm_I (jm_w32 (x3 + 1))), none, none, none]) (by rfl) (by rfl) ?_
        exact H
      · replace H := H.2 hc5
        refine jm_iinc jd_Pad_firstFault_106 rfl (by decide) (ls2 := [some (jm_R 1), some (jm_I x1), some (jm_I (jm_w32 (x2 + 1))), some (jm_I x3), some (jm_I x4), none, some (jm_I s0)]) rfl ?_
        refine jm_aload_n jd_Pad_firstFault_109 rfl rfl ?_
        refine jm_gR jd_Pad_firstFault_110 jf_Pad_15 jm_SH_1 rfl ?_
        refine jm_iload_n jd_Pad_firstFault_113 rfl rfl ?_
        refine jm_iload jd_Pad_firstFault_114 rfl ?_
        obtain ⟨hb7, H⟩ := H
        refine jm_iastore jd_Pad_firstFault_116 jm_SH_3 hb7 ?_
        refine jm_aload_n jd_Pad_firstFault_117 rfl rfl ?_
        refine jm_iload_n jd_Pad_firstFault_118 rfl rfl ?_
        refine jm_cV (M' := jm_m_Pad_deepestOpen) (d' := 0) (av := [jm_I (jm_w32 (x2 + 1))]) jd_Pad_firstFault_119 jk_Pad_deepestOpen jw_435 rfl (by omega) ⟨rfl, rfl⟩ (by decide) (Nat.le_of_ble_eq_true rfl) jm_SH_1 rfl rfl (jm_hqI (fun v8 h8 H => ?_)) H
        refine jm_istore_n (i := 2) jd_Pad_firstFault_122 rfl (by decide) (ls2 := [some (jm_R 1), some (jm_I x1), some (jm_I v8), some (jm_I x3), some (jm_I x4), none, some (jm_I s0)]) rfl ?_
        refine jm_iinc jd_Pad_firstFault_123 rfl (by decide) (ls2 := [some (jm_R 1), some (jm_I x1), some (jm_I v8), some (jm_I (jm_w32 (x3 + 1))), some (jm_I x4), none, some (jm_I s0)]) rfl ?_
        refine jm_goto (tgt := 11) jd_Pad_firstFault_126 rfl ?_
        refine jm_keepG [true, true, true, true, false, false, false] (ls2 := [some (jm_R 1), some (jm_I x1), some (jm_I v8), some (jm_I (jm_w32 (x3 + 1))), none, none, none]) (by rfl) (by rfl) ?_
        exact H
    · replace H := H.2 hc2
      refine jm_iload_n jd_Pad_firstFault_89 rfl rfl ?_
      exact jm_ireturn jd_Pad_firstFault_90 rfl (by decide) ⟨rfl, _, rfl, H⟩
set_option maxRecDepth 4000 in
theorem jb_Pad_deepestOpen {E : jm_Env} {x1 : Int} {h : jm_H} {K : Int → jm_H → Prop} (H : jm_BI E jm_SH jm_m_Pad_deepestOpen 0 2 [some (jm_R 1), none, some (jm_I x1)] [] h K) : jm_CI E jm_SH jm_m_Pad_deepestOpen 0 [jm_R 1, jm_I x1] h K := by
  refine jm_body (ls0 := [some (jm_R 1), some (jm_I x1), none]) (by decide +kernel) rfl rfl (Nat.le_of_ble_eq_true rfl) ?_
  refine jm_iload_n jd_Pad_deepestOpen_0 rfl rfl ?_
  refine jm_istore_n (i := 2) jd_Pad_deepestOpen_1 rfl (by decide) (ls2 := [some (jm_R 1), some (jm_I x1), some (jm_I x1)]) rfl ?_
  refine jm_keepG [true, false, true] (ls2 := [some (jm_R 1), none, some (jm_I x1)]) (by rfl) (by rfl) ?_
  exact H
set_option maxRecDepth 4000 in
theorem jb_Pad_deepestOpen_2 {E : jm_Env} {x2 : Int} {h : jm_H} {K : Int → jm_H → Prop} (H : ((x2 < 0) → K (-1) h) ∧ ((¬ x2 < 0) → (0 ≤ x2 ∧ x2 < 13) ∧ (((h 3 (Int.toNat x2) ≤ 0) → jm_BI E jm_SH jm_m_Pad_deepestOpen 0 2 [some (jm_R 1), none, some (jm_I (jm_w32 (x2 + (-1))))] [] h K) ∧ ((¬ h 3 (Int.toNat x2) ≤ 0) → K x2 h)))) : jm_BI E jm_SH jm_m_Pad_deepestOpen 0 2 [some (jm_R 1), none, some (jm_I x2)] [] h K := by
  refine jm_iload_n jd_Pad_deepestOpen_2 rfl rfl ?_
  refine jm_if_lt (tgt := 23) jd_Pad_deepestOpen_3 rfl (fun hc1 => ?_) (fun hc1 => ?_)
  · replace H := H.1 hc1
    refine jm_iconst jd_Pad_deepestOpen_23 (jm_o32c rfl) ?_
    exact jm_ireturn jd_Pad_deepestOpen_24 rfl (by decide) ⟨rfl, _, rfl, H⟩
  · replace H := H.2 hc1
    refine jm_aload_n jd_Pad_deepestOpen_6 rfl rfl ?_
    refine jm_gR jd_Pad_deepestOpen_7 jf_Pad_15 jm_SH_1 rfl ?_
    refine jm_iload_n jd_Pad_deepestOpen_10 rfl rfl ?_
    obtain ⟨hb2, H⟩ := H
    refine jm_iaload jd_Pad_deepestOpen_11 jm_SH_3 hb2 ?_
    refine jm_if_le (tgt := 17) jd_Pad_deepestOpen_12 rfl (fun hc3 => ?_) (fun hc3 => ?_)
    · replace H := H.1 hc3
      refine jm_iinc jd_Pad_deepestOpen_17 rfl (by decide) (ls2 := [some (jm_R 1), none, some (jm_I (jm_w32 (x2 + (-1))))]) rfl ?_
      refine jm_goto (tgt := 2) jd_Pad_deepestOpen_20 rfl ?_
      exact H
    · replace H := H.2 hc3
      refine jm_iload_n jd_Pad_deepestOpen_15 rfl rfl ?_
      exact jm_ireturn jd_Pad_deepestOpen_16 rfl (by decide) ⟨rfl, _, rfl, H⟩
set_option maxRecDepth 4000 in
theorem jb_Pad_partsOf {E : jm_Env} {x0 : Int} {h : jm_H} {K : Int → jm_H → Prop} (H : (x0 = 38 → K 2 h) ∧ ((x0 = 42 → K 2 h) ∧ ((x0 = 43 → K 2 h) ∧ ((x0 = 45 → K 2 h) ∧ ((x0 = 64 → K 1 h) ∧ ((x0 = 126 → K 1 h) ∧ (((¬ x0 = 38 ∧ ¬ x0 = 42 ∧ ¬ x0 = 43 ∧ ¬ x0 = 45 ∧ ¬ x0 = 64 ∧ ¬ x0 = 126) → K 0 h)))))))) : jm_CI E jm_SH jm_m_Pad_partsOf 0 [jm_I x0] h K := by
  refine jm_body (ls0 := [some (jm_I x0)]) (by decide +kernel) rfl rfl (Nat.le_of_ble_eq_true rfl) ?_
  refine jm_iload_n jd_Pad_partsOf_0 rfl rfl ?_
  by_cases hc1 : x0 = 38
  · replace H := H.1 hc1
    refine jm_lookup (tgt := 60) jd_Pad_partsOf_1 (by decide) (by first | (rw [hc1]; rfl) | rw [hc1]) rfl ?_
    refine jm_iconst jd_Pad_partsOf_60 (jm_o32c rfl) ?_
    exact jm_ireturn jd_Pad_partsOf_61 rfl (by decide) ⟨rfl, _, rfl, H⟩
  · replace H := H.2
    by_cases hc2 : x0 = 42
    · replace H := H.1 hc2
      refine jm_lookup (tgt := 60) jd_Pad_partsOf_1 (by decide) (by first | (rw [hc2]; rfl) | rw [hc2]) rfl ?_
      refine jm_iconst jd_Pad_partsOf_60 (jm_o32c rfl) ?_
      exact jm_ireturn jd_Pad_partsOf_61 rfl (by decide) ⟨rfl, _, rfl, H⟩
    · replace H := H.2
      by_cases hc3 : x0 = 43
      · replace H := H.1 hc3
        refine jm_lookup (tgt := 60) jd_Pad_partsOf_1 (by decide) (by first | (rw [hc3]; rfl) | rw [hc3]) rfl ?_
        refine jm_iconst jd_Pad_partsOf_60 (jm_o32c rfl) ?_
        exact jm_ireturn jd_Pad_partsOf_61 rfl (by decide) ⟨rfl, _, rfl, H⟩
      · replace H := H.2
        by_cases hc4 : x0 = 45
        · replace H := H.1 hc4
          refine jm_lookup (tgt := 60) jd_Pad_partsOf_1 (by decide) (by first | (rw [hc4]; rfl) | rw [hc4]) rfl ?_
          refine jm_iconst jd_Pad_partsOf_60 (jm_o32c rfl) ?_
          exact jm_ireturn jd_Pad_partsOf_61 rfl (by decide) ⟨rfl, _, rfl, H⟩
        · replace H := H.2
          by_cases hc5 : x0 = 64
          · replace H := H.1 hc5
            refine jm_lookup (tgt := 62) jd_Pad_partsOf_1 (by decide) (by first | (rw [hc5]; rfl) | rw [hc5]) rfl ?_
            refine jm_iconst jd_Pad_partsOf_62 (jm_o32c rfl) ?_
            exact jm_ireturn jd_Pad_partsOf_63 rfl (by decide) ⟨rfl, _, rfl, H⟩
          · replace H := H.2
            by_cases hc6 : x0 = 126
            · replace H := H.1 hc6
              refine jm_lookup (tgt := 62) jd_Pad_partsOf_1 (by decide) (by first | (rw [hc6]; rfl) | rw [hc6]) rfl ?_
              refine jm_iconst jd_Pad_partsOf_62 (jm_o32c rfl) ?_
              exact jm_ireturn jd_Pad_partsOf_63 rfl (by decide) ⟨rfl, _, rfl, H⟩
            · replace H := H.2
              replace H := H ⟨hc1, hc2, hc3, hc4, hc5, hc6⟩
              refine jm_lookup (off := 63) (tgt := 64) jd_Pad_partsOf_1 (by decide) (by simp [Op.lookupswitch.offset_cons, Op.lookupswitch.offset_nil, Ne.symm hc1, Ne.symm hc2, Ne.symm hc3, Ne.symm hc4, Ne.symm hc5, Ne.symm hc6]) rfl ?_
              refine jm_iconst jd_Pad_partsOf_64 (jm_o32c rfl) ?_
              exact jm_ireturn jd_Pad_partsOf_65 rfl (by decide) ⟨rfl, _, rfl, H⟩
set_option maxRecDepth 4000 in
theorem jb_Pad_isNumber {E : jm_Env} {x0 : Int} {h : jm_H} {K : Int → jm_H → Prop} (H : ((x0 < 48) → K 0 h) ∧ ((¬ x0 < 48) → ((57 < x0) → K 0 h) ∧ ((¬ 57 < x0) → K 1 h))) : jm_CI E jm_SH jm_m_Pad_isNumber 0 [jm_I x0] h K := by
  refine jm_body (ls0 := [some (jm_I x0)]) (by decide +kernel) rfl rfl (Nat.le_of_ble_eq_true rfl) ?_
  refine jm_iload_n jd_Pad_isNumber_0 rfl rfl ?_
  refine jm_bipush jd_Pad_isNumber_1 jb_48 ?_
  refine jm_icmp_lt (tgt := 16) jd_Pad_isNumber_3 rfl (fun hc1 => ?_) (fun hc1 => ?_)
  · replace H := H.1 hc1
    refine jm_iconst jd_Pad_isNumber_16 (jm_o32c rfl) ?_
    exact jm_zreturn jd_Pad_isNumber_17 rfl (Or.inl rfl) (by decide) ⟨rfl, _, rfl, H⟩
  · replace H := H.2 hc1
    refine jm_iload_n jd_Pad_isNumber_6 rfl rfl ?_
    refine jm_bipush jd_Pad_isNumber_7 jb_57 ?_
    refine jm_icmp_gt (tgt := 16) jd_Pad_isNumber_9 rfl (fun hc2 => ?_) (fun hc2 => ?_)
    · replace H := H.1 hc2
      refine jm_iconst jd_Pad_isNumber_16 (jm_o32c rfl) ?_
      exact jm_zreturn jd_Pad_isNumber_17 rfl (Or.inl rfl) (by decide) ⟨rfl, _, rfl, H⟩
    · replace H := H.2 hc2
      refine jm_iconst jd_Pad_isNumber_12 (jm_o32c rfl) ?_
      refine jm_goto (tgt := 17) jd_Pad_isNumber_13 rfl ?_
      exact jm_zreturn jd_Pad_isNumber_17 rfl (Or.inr rfl) (by decide) ⟨rfl, _, rfl, H⟩
set_option maxRecDepth 4000 in
theorem jb_Pad_isVariable {E : jm_Env} {x0 : Int} {h : jm_H} {K : Int → jm_H → Prop} (H : ((x0 < 97) → K 0 h) ∧ ((¬ x0 < 97) → ((104 < x0) → K 0 h) ∧ ((¬ 104 < x0) → K 1 h))) : jm_CI E jm_SH jm_m_Pad_isVariable 0 [jm_I x0] h K := by
  refine jm_body (ls0 := [some (jm_I x0)]) (by decide +kernel) rfl rfl (Nat.le_of_ble_eq_true rfl) ?_
  refine jm_iload_n jd_Pad_isVariable_0 rfl rfl ?_
  refine jm_bipush jd_Pad_isVariable_1 jb_97 ?_
  refine jm_icmp_lt (tgt := 16) jd_Pad_isVariable_3 rfl (fun hc1 => ?_) (fun hc1 => ?_)
  · replace H := H.1 hc1
    refine jm_iconst jd_Pad_isVariable_16 (jm_o32c rfl) ?_
    exact jm_zreturn jd_Pad_isVariable_17 rfl (Or.inl rfl) (by decide) ⟨rfl, _, rfl, H⟩
  · replace H := H.2 hc1
    refine jm_iload_n jd_Pad_isVariable_6 rfl rfl ?_
    refine jm_bipush jd_Pad_isVariable_7 jb_104 ?_
    refine jm_icmp_gt (tgt := 16) jd_Pad_isVariable_9 rfl (fun hc2 => ?_) (fun hc2 => ?_)
    · replace H := H.1 hc2
      refine jm_iconst jd_Pad_isVariable_16 (jm_o32c rfl) ?_
      exact jm_zreturn jd_Pad_isVariable_17 rfl (Or.inl rfl) (by decide) ⟨rfl, _, rfl, H⟩
    · replace H := H.2 hc2
      refine jm_iconst jd_Pad_isVariable_12 (jm_o32c rfl) ?_
      refine jm_goto (tgt := 17) jd_Pad_isVariable_13 rfl ?_
      exact jm_zreturn jd_Pad_isVariable_17 rfl (Or.inr rfl) (by decide) ⟨rfl, _, rfl, H⟩
set_option maxRecDepth 4000 in
theorem jb_Pad_isTreeLeaf {E : jm_Env} {x0 : Int} {h : jm_H} {K : Int → jm_H → Prop} (H : jm_CI E jm_SH jm_m_Pad_isNumber 0 [jm_I x0] h (fun v1 h1 => ((¬ v1 = 0) → K 1 h1) ∧ ((v1 = 0) → jm_CI E jm_SH jm_m_Pad_isVariable 0 [jm_I x0] h1 (fun v3 h3 => ((v3 = 0) → K 0 h3) ∧ ((¬ v3 = 0) → K 1 h3))))) : jm_CI E jm_SH jm_m_Pad_isTreeLeaf 1 [jm_I x0] h K := by
  refine jm_body (ls0 := [some (jm_I x0)]) (by decide +kernel) rfl rfl (Nat.le_of_ble_eq_true rfl) ?_
  refine jm_iload_n jd_Pad_isTreeLeaf_0 rfl rfl ?_
  refine jm_cS (M' := jm_m_Pad_isNumber) (d' := 0) (av := [jm_I x0]) jd_Pad_isTreeLeaf_1 jk_Pad_isNumber jw_423 rfl (by omega) ⟨rfl, rfl⟩ (by decide) (Nat.le_of_ble_eq_true rfl) (jm_hqI (fun v1 h1 H => ?_)) H
  refine jm_if_ne (tgt := 14) jd_Pad_isTreeLeaf_4 rfl (fun hc2 => ?_) (fun hc2 => ?_)
  · replace H := H.1 hc2
    refine jm_iconst jd_Pad_isTreeLeaf_14 (jm_o32c rfl) ?_
    refine jm_goto (tgt := 19) jd_Pad_isTreeLeaf_15 rfl ?_
    exact jm_zreturn jd_Pad_isTreeLeaf_19 rfl (Or.inr rfl) (by decide) ⟨rfl, _, rfl, H⟩
  · replace H := H.2 hc2
    refine jm_iload_n jd_Pad_isTreeLeaf_7 rfl rfl ?_
    refine jm_cS (M' := jm_m_Pad_isVariable) (d' := 0) (av := [jm_I x0]) jd_Pad_isTreeLeaf_8 jk_Pad_isVariable jw_432 rfl (by omega) ⟨rfl, rfl⟩ (by decide) (Nat.le_of_ble_eq_true rfl) (jm_hqI (fun v3 h3 H => ?_)) H
    refine jm_if_eq (tgt := 18) jd_Pad_isTreeLeaf_11 rfl (fun hc4 => ?_) (fun hc4 => ?_)
    · replace H := H.1 hc4
      refine jm_iconst jd_Pad_isTreeLeaf_18 (jm_o32c rfl) ?_
      exact jm_zreturn jd_Pad_isTreeLeaf_19 rfl (Or.inl rfl) (by decide) ⟨rfl, _, rfl, H⟩
    · replace H := H.2 hc4
      refine jm_iconst jd_Pad_isTreeLeaf_14 (jm_o32c rfl) ?_
      refine jm_goto (tgt := 19) jd_Pad_isTreeLeaf_15 rfl ?_
      exact jm_zreturn jd_Pad_isTreeLeaf_19 rfl (Or.inr rfl) (by decide) ⟨rfl, _, rfl, H⟩
set_option maxRecDepth 4000 in
theorem jb_Pad_isPatternLeaf {E : jm_Env} {x0 : Int} {h : jm_H} {K : Int → jm_H → Prop} (H : jm_CI E jm_SH jm_m_Pad_isNumber 0 [jm_I x0] h (fun v1 h1 => ((¬ v1 = 0) → K 1 h1) ∧ ((v1 = 0) → ((x0 = 75) → K 1 h1) ∧ ((¬ x0 = 75) → ((x0 = 86) → K 1 h1) ∧ ((¬ x0 = 86) → jm_CI E jm_SH jm_m_Patterns_headOf 0 [jm_I x0] h1 (fun v5 h5 => ((v5 < 0) → K 0 h5) ∧ ((¬ v5 < 0) → K 1 h5))))))) : jm_CI E jm_SH jm_m_Pad_isPatternLeaf 1 [jm_I x0] h K := by
  refine jm_body (ls0 := [some (jm_I x0)]) (by decide +kernel) rfl rfl (Nat.le_of_ble_eq_true rfl) ?_
  refine jm_iload_n jd_Pad_isPatternLeaf_0 rfl rfl ?_
  refine jm_cS (M' := jm_m_Pad_isNumber) (d' := 0) (av := [jm_I x0]) jd_Pad_isPatternLeaf_1 jk_Pad_isNumber jw_423 rfl (by omega) ⟨rfl, rfl⟩ (by decide) (Nat.le_of_ble_eq_true rfl) (jm_hqI (fun v1 h1 H => ?_)) H
  refine jm_if_ne (tgt := 26) jd_Pad_isPatternLeaf_4 rfl (fun hc2 => ?_) (fun hc2 => ?_)
  · replace H := H.1 hc2
    refine jm_iconst jd_Pad_isPatternLeaf_26 (jm_o32c rfl) ?_
    refine jm_goto (tgt := 31) jd_Pad_isPatternLeaf_27 rfl ?_
    exact jm_zreturn jd_Pad_isPatternLeaf_31 rfl (Or.inr rfl) (by decide) ⟨rfl, _, rfl, H⟩
  · replace H := H.2 hc2
    refine jm_iload_n jd_Pad_isPatternLeaf_7 rfl rfl ?_
    refine jm_bipush jd_Pad_isPatternLeaf_8 jb_75 ?_
    refine jm_icmp_eq (tgt := 26) jd_Pad_isPatternLeaf_10 rfl (fun hc3 => ?_) (fun hc3 => ?_)
    · replace H := H.1 hc3
      refine jm_iconst jd_Pad_isPatternLeaf_26 (jm_o32c rfl) ?_
      refine jm_goto (tgt := 31) jd_Pad_isPatternLeaf_27 rfl ?_
      exact jm_zreturn jd_Pad_isPatternLeaf_31 rfl (Or.inr rfl) (by decide) ⟨rfl, _, rfl, H⟩
    · replace H := H.2 hc3
      refine jm_iload_n jd_Pad_isPatternLeaf_13 rfl rfl ?_
      refine jm_bipush jd_Pad_isPatternLeaf_14 jb_86 ?_
      refine jm_icmp_eq (tgt := 26) jd_Pad_isPatternLeaf_16 rfl (fun hc4 => ?_) (fun hc4 => ?_)
      · replace H := H.1 hc4
        refine jm_iconst jd_Pad_isPatternLeaf_26 (jm_o32c rfl) ?_
        refine jm_goto (tgt := 31) jd_Pad_isPatternLeaf_27 rfl ?_
        exact jm_zreturn jd_Pad_isPatternLeaf_31 rfl (Or.inr rfl) (by decide) ⟨rfl, _, rfl, H⟩
      · replace H := H.2 hc4
        refine jm_iload_n jd_Pad_isPatternLeaf_19 rfl rfl ?_
        refine jm_cS (M' := jm_m_Patterns_headOf) (d' := 0) (av := [jm_I x0]) jd_Pad_isPatternLeaf_20 jk_Patterns_headOf jw_426 rfl (by omega) ⟨rfl, rfl⟩ (by decide) (Nat.le_of_ble_eq_true rfl) (jm_hqI (fun v5 h5 H => ?_)) H
        refine jm_if_lt (tgt := 30) jd_Pad_isPatternLeaf_23 rfl (fun hc6 => ?_) (fun hc6 => ?_)
        · replace H := H.1 hc6
          refine jm_iconst jd_Pad_isPatternLeaf_30 (jm_o32c rfl) ?_
          exact jm_zreturn jd_Pad_isPatternLeaf_31 rfl (Or.inl rfl) (by decide) ⟨rfl, _, rfl, H⟩
        · replace H := H.2 hc6
          refine jm_iconst jd_Pad_isPatternLeaf_26 (jm_o32c rfl) ?_
          refine jm_goto (tgt := 31) jd_Pad_isPatternLeaf_27 rfl ?_
          exact jm_zreturn jd_Pad_isPatternLeaf_31 rfl (Or.inr rfl) (by decide) ⟨rfl, _, rfl, H⟩
