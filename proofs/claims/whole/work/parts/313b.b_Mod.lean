set_option maxRecDepth 4000 in
theorem jb_Mod_isHead {E : jm_Env} {x0 : Int} {h : jm_H} {K : Int → jm_H → Prop} (H : jm_CI E jm_SH jm_m_Mod_in 0 [jm_L x0, jm_L 0, jm_L 1] h (fun v1 h1 => (v1 = 0 ∨ v1 = 1) ∧ K v1 h1)) : jm_CI E jm_SH jm_m_Mod_isHead 1 [jm_I x0] h K := by
  refine jm_body (ls0 := [some (jm_I x0)]) (by decide +kernel) rfl rfl (Nat.le_of_ble_eq_true rfl) ?_
  refine jm_iload_n jd_Mod_isHead_0 rfl rfl ?_
  refine jm_i2l jd_Mod_isHead_1 ?_
  refine jm_lconst (x := 0) jd_Mod_isHead_2 ⟨by decide, jm_o64c rfl⟩ ?_
  refine jm_lconst (x := 1) jd_Mod_isHead_3 ⟨by decide, jm_o64c rfl⟩ ?_
  refine jm_cS (M' := jm_m_Mod_in) (d' := 0) (av := [jm_L x0, jm_L 0, jm_L 1]) jd_Mod_isHead_4 jk_Mod_in jw_978 rfl (by omega) ⟨rfl, rfl⟩ (by decide) (Nat.le_of_ble_eq_true rfl) (jm_hqI (fun v1 h1 H => ?_)) H
  exact jm_zreturn jd_Mod_isHead_7 rfl H.1 (by decide) ⟨rfl, _, rfl, H.2⟩
set_option maxRecDepth 4000 in
theorem jb_Mod_headFor {E : jm_Env} {x0 : Int} {h : jm_H} {K : Int → jm_H → Prop} (H : ((¬ x0 = 82) → ((¬ x0 = 65) → K (-6) h) ∧ ((x0 = 65) → K 1 h)) ∧ ((x0 = 82) → K 0 h)) : jm_CI E jm_SH jm_m_Mod_headFor 0 [jm_I x0] h K := by
  refine jm_body (ls0 := [some (jm_I x0)]) (by decide +kernel) rfl rfl (Nat.le_of_ble_eq_true rfl) ?_
  refine jm_iload_n jd_Mod_headFor_0 rfl rfl ?_
  refine jm_bipush jd_Mod_headFor_1 jb_82 ?_
  refine jm_icmp_ne (tgt := 10) jd_Mod_headFor_3 rfl (fun hc1 => ?_) (fun hc1 => ?_)
  · replace H := H.1 hc1
    refine jm_iload_n jd_Mod_headFor_10 rfl rfl ?_
    refine jm_bipush jd_Mod_headFor_11 jb_65 ?_
    refine jm_icmp_ne (tgt := 20) jd_Mod_headFor_13 rfl (fun hc2 => ?_) (fun hc2 => ?_)
    · replace H := H.1 hc2
      refine jm_bipush jd_Mod_headFor_20 jb_m6 ?_
      exact jm_ireturn jd_Mod_headFor_22 rfl (by decide) ⟨rfl, _, rfl, H⟩
    · replace H := H.2 hc2
      refine jm_iconst jd_Mod_headFor_16 (jm_o32c rfl) ?_
      refine jm_goto (tgt := 22) jd_Mod_headFor_17 rfl ?_
      exact jm_ireturn jd_Mod_headFor_22 rfl (by decide) ⟨rfl, _, rfl, H⟩
  · replace H := H.2 hc1
    refine jm_iconst jd_Mod_headFor_6 (jm_o32c rfl) ?_
    refine jm_goto (tgt := 22) jd_Mod_headFor_7 rfl ?_
    exact jm_ireturn jd_Mod_headFor_22 rfl (by decide) ⟨rfl, _, rfl, H⟩
set_option maxRecDepth 4000 in
theorem jb_Mod_pattern {E : jm_Env} {x1 x2 : Int} {h : jm_H} {K : Int → jm_H → Prop} (H : jm_CI E jm_SH jm_m_Mod_isHead 1 [jm_I x1] h (fun v1 h1 => ((v1 = 0) → K (-2) h1) ∧ ((¬ v1 = 0) → jm_CI E jm_SH jm_m_Mod_in 0 [jm_L x2, jm_L 0, jm_L 20] h1 (fun v3 h3 => ((¬ v3 = 0) → ((¬ h3 78 14 = 16) → ((¬ h3 78 1 = 1) → jm_BI E jm_SH jm_m_Mod_pattern 4 59 [some (jm_R 78), some (jm_I x1), some (jm_I x2), none, none] [] h3 K) ∧ ((h3 78 1 = 1) → jm_CI E jm_SH jm_m_Mod_headFor 0 [jm_I (h3 79 0)] h3 (fun v7 h7 => ((¬ v7 = x1) → jm_BI E jm_SH jm_m_Mod_pattern 4 59 [some (jm_R 78), some (jm_I x1), some (jm_I x2), none, none] [] h7 K) ∧ ((v7 = x1) → ((12 < h7 78 1) → K (-5) h7) ∧ ((¬ 12 < h7 78 1) → K (-5) h7))))) ∧ ((h3 78 14 = 16) → K (-4) h3)) ∧ ((v3 = 0) → K (-2) h3))))) : jm_CI E jm_SH jm_m_Mod_pattern 4 [jm_R 78, jm_I x1, jm_I x2] h K := by
  refine jm_body (ls0 := [some (jm_R 78), some (jm_I x1), some (jm_I x2), none, none]) (by decide +kernel) rfl rfl (Nat.le_of_ble_eq_true rfl) ?_
  refine jm_iload_n jd_Mod_pattern_0 rfl rfl ?_
  refine jm_cS (M' := jm_m_Mod_isHead) (d' := 1) (av := [jm_I x1]) jd_Mod_pattern_1 jk_Mod_isHead jw_1041 rfl (by omega) ⟨rfl, rfl⟩ (by decide) (Nat.le_of_ble_eq_true rfl) (jm_hqI (fun v1 h1 H => ?_)) H
  refine jm_if_eq (tgt := 19) jd_Mod_pattern_4 rfl (fun hc2 => ?_) (fun hc2 => ?_)
  · replace H := H.1 hc2
    refine jm_bipush jd_Mod_pattern_19 jb_m2 ?_
    exact jm_ireturn jd_Mod_pattern_21 rfl (by decide) ⟨rfl, _, rfl, H⟩
  · replace H := H.2 hc2
    refine jm_iload_n jd_Mod_pattern_7 rfl rfl ?_
    refine jm_i2l jd_Mod_pattern_8 ?_
    refine jm_lconst (x := 0) jd_Mod_pattern_9 ⟨by decide, jm_o64c rfl⟩ ?_
    refine jm_ldc2 (x := 20) jd_Mod_pattern_10 jc_1044 (jm_o64c rfl) ?_
    refine jm_cS (M' := jm_m_Mod_in) (d' := 0) (av := [jm_L x2, jm_L 0, jm_L 20]) jd_Mod_pattern_13 jk_Mod_in jw_978 rfl (by omega) ⟨rfl, rfl⟩ (by decide) (Nat.le_of_ble_eq_true rfl) (jm_hqI (fun v3 h3 H => ?_)) H
    refine jm_if_ne (tgt := 22) jd_Mod_pattern_16 rfl (fun hc4 => ?_) (fun hc4 => ?_)
    · replace H := H.1 hc4
      refine jm_aload_n jd_Mod_pattern_22 rfl rfl ?_
      refine jm_gI jd_Mod_pattern_23 jf_Mod_186 jm_SH_78 ?_
      refine jm_bipush jd_Mod_pattern_26 jb_16 ?_
      refine jm_icmp_ne (tgt := 34) jd_Mod_pattern_28 rfl (fun hc5 => ?_) (fun hc5 => ?_)
      · replace H := H.1 hc5
        refine jm_aload_n jd_Mod_pattern_34 rfl rfl ?_
        refine jm_gI jd_Mod_pattern_35 jf_Mod_130 jm_SH_78 ?_
        refine jm_iconst jd_Mod_pattern_38 (jm_o32c rfl) ?_
        refine jm_icmp_ne (tgt := 59) jd_Mod_pattern_39 rfl (fun hc6 => ?_) (fun hc6 => ?_)
        · replace H := H.1 hc6
          exact H
        · replace H := H.2 hc6
          refine jm_aload_n jd_Mod_pattern_42 rfl rfl ?_
          refine jm_gR jd_Mod_pattern_43 jf_Mod_7 jm_SH_78 rfl ?_
          refine jm_iconst jd_Mod_pattern_46 (jm_o32c rfl) ?_
          refine jm_iaload jd_Mod_pattern_47 jm_SH_79 (by decide) ?_
          refine jm_topI (y := h3 79 0) rfl ?_
          refine jm_cS (M' := jm_m_Mod_headFor) (d' := 0) (av := [jm_I (h3 79 0)]) jd_Mod_pattern_48 jk_Mod_headFor jw_1045 rfl (by omega) ⟨rfl, rfl⟩ (by decide) (Nat.le_of_ble_eq_true rfl) (jm_hqI (fun v7 h7 H => ?_)) H
          refine jm_iload_n jd_Mod_pattern_51 rfl rfl ?_
          refine jm_icmp_ne (tgt := 59) jd_Mod_pattern_52 rfl (fun hc8 => ?_) (fun hc8 => ?_)
          · replace H := H.1 hc8
            exact H
          · replace H := H.2 hc8
            refine jm_iconst jd_Mod_pattern_55 (jm_o32c rfl) ?_
            refine jm_goto (tgt := 60) jd_Mod_pattern_56 rfl ?_
            refine jm_istore_n (i := 3) jd_Mod_pattern_60 rfl (by decide) (ls2 := [some (jm_R 78), some (jm_I x1), some (jm_I x2), some (jm_I 1), none]) rfl ?_
            refine jm_aload_n jd_Mod_pattern_61 rfl rfl ?_
            refine jm_gI jd_Mod_pattern_62 jf_Mod_130 jm_SH_78 ?_
            refine jm_bipush jd_Mod_pattern_65 jb_12 ?_
            refine jm_icmp_gt (tgt := 82) jd_Mod_pattern_67 rfl (fun hc9 => ?_) (fun hc9 => ?_)
            · replace H := H.1 hc9
              refine jm_bipush jd_Mod_pattern_82 jb_m5 ?_
              exact jm_ireturn jd_Mod_pattern_84 rfl (by decide) ⟨rfl, _, rfl, H⟩
            · replace H := H.2 hc9
              refine jm_iload_n jd_Mod_pattern_70 rfl rfl ?_
              refine jm_if_ne (tgt := 82) jd_Mod_pattern_71 rfl (fun hc10 => ?_) (fun hc10 => ?_)
              · refine jm_bipush jd_Mod_pattern_82 jb_m5 ?_
                exact jm_ireturn jd_Mod_pattern_84 rfl (by decide) ⟨rfl, _, rfl, H⟩
              · exact absurd hc10 (by decide)
      · replace H := H.2 hc5
        refine jm_bipush jd_Mod_pattern_31 jb_m4 ?_
        exact jm_ireturn jd_Mod_pattern_33 rfl (by decide) ⟨rfl, _, rfl, H⟩
    · replace H := H.2 hc4
      refine jm_bipush jd_Mod_pattern_19 jb_m2 ?_
      exact jm_ireturn jd_Mod_pattern_21 rfl (by decide) ⟨rfl, _, rfl, H⟩
set_option maxRecDepth 4000 in
theorem jb_Mod_pattern_59 {E : jm_Env} {x1 x2 : Int} {h : jm_H} {K : Int → jm_H → Prop} (H : ((12 < h 78 1) → K (-5) h) ∧ ((¬ 12 < h 78 1) → jm_CI E jm_SH jm_m_Mod_walk 3 [jm_R 78, jm_I 1] h (fun v3 h3 => ((v3 < 0) → (0 ≤ h3 78 14 ∧ h3 78 14 < 16) ∧ ((0 ≤ h3 78 14 ∧ h3 78 14 < 16) ∧ ((0 ≤ h3 78 14 ∧ h3 78 14 < 16) ∧ (jm_BI E jm_SH jm_m_Mod_pattern 4 121 [some (jm_R 78), none, none, none, some (jm_I 0)] [] (jm_up (jm_up (jm_up h3 86 (Int.toNat (h3 78 14)) x1) 87 (Int.toNat (h3 78 14)) x2) 89 (Int.toNat (h3 78 14)) (h3 78 1)) K)))) ∧ ((¬ v3 < 0) → K (-5) h3)))) : jm_BI E jm_SH jm_m_Mod_pattern 4 59 [some (jm_R 78), some (jm_I x1), some (jm_I x2), none, none] [] h K := by
  refine jm_iconst jd_Mod_pattern_59 (jm_o32c rfl) ?_
  refine jm_istore_n (i := 3) jd_Mod_pattern_60 rfl (by decide) (ls2 := [some (jm_R 78), some (jm_I x1), some (jm_I x2), some (jm_I 0), none]) rfl ?_
  refine jm_aload_n jd_Mod_pattern_61 rfl rfl ?_
  refine jm_gI jd_Mod_pattern_62 jf_Mod_130 jm_SH_78 ?_
  refine jm_bipush jd_Mod_pattern_65 jb_12 ?_
  refine jm_icmp_gt (tgt := 82) jd_Mod_pattern_67 rfl (fun hc1 => ?_) (fun hc1 => ?_)
  · replace H := H.1 hc1
    refine jm_bipush jd_Mod_pattern_82 jb_m5 ?_
    exact jm_ireturn jd_Mod_pattern_84 rfl (by decide) ⟨rfl, _, rfl, H⟩
  · replace H := H.2 hc1
    refine jm_iload_n jd_Mod_pattern_70 rfl rfl ?_
    refine jm_if_ne (tgt := 82) jd_Mod_pattern_71 rfl (fun hc2 => ?_) (fun hc2 => ?_)
    · exact absurd hc2 (by decide)
    · refine jm_aload_n jd_Mod_pattern_74 rfl rfl ?_
      refine jm_iconst jd_Mod_pattern_75 (jm_o32c rfl) ?_
      refine jm_cV (M' := jm_m_Mod_walk) (d' := 3) (av := [jm_I 1]) jd_Mod_pattern_76 jk_Mod_walk jw_989 rfl (by omega) ⟨rfl, rfl⟩ (by decide) (Nat.le_of_ble_eq_true rfl) jm_SH_78 rfl rfl (jm_hqI (fun v3 h3 H => ?_)) H
      refine jm_if_lt (tgt := 85) jd_Mod_pattern_79 rfl (fun hc4 => ?_) (fun hc4 => ?_)
      · replace H := H.1 hc4
        refine jm_aload_n jd_Mod_pattern_85 rfl rfl ?_
        refine jm_gR jd_Mod_pattern_86 jf_Mod_31 jm_SH_78 rfl ?_
        refine jm_aload_n jd_Mod_pattern_89 rfl rfl ?_
        refine jm_gI jd_Mod_pattern_90 jf_Mod_186 jm_SH_78 ?_
        refine jm_iload_n jd_Mod_pattern_93 rfl rfl ?_
        obtain ⟨hb5, H⟩ := H
        refine jm_iastore jd_Mod_pattern_94 jm_SH_86 hb5 ?_
        refine jm_aload_n jd_Mod_pattern_95 rfl rfl ?_
        refine jm_gR jd_Mod_pattern_96 jf_Mod_34 jm_SH_78 rfl ?_
        refine jm_aload_n jd_Mod_pattern_99 rfl rfl ?_
        refine jm_gI jd_Mod_pattern_100 jf_Mod_186 jm_SH_78 ?_
        refine jm_topI (y := h3 78 14) rfl ?_
        refine jm_iload_n jd_Mod_pattern_103 rfl rfl ?_
        obtain ⟨hb6, H⟩ := H
        refine jm_iastore jd_Mod_pattern_104 jm_SH_87 hb6 ?_
        refine jm_aload_n jd_Mod_pattern_105 rfl rfl ?_
        refine jm_gR jd_Mod_pattern_106 jf_Mod_40 jm_SH_78 rfl ?_
        refine jm_aload_n jd_Mod_pattern_109 rfl rfl ?_
        refine jm_gI jd_Mod_pattern_110 jf_Mod_186 jm_SH_78 ?_
        refine jm_topI (y := h3 78 14) rfl ?_
        refine jm_aload_n jd_Mod_pattern_113 rfl rfl ?_
        refine jm_gI jd_Mod_pattern_114 jf_Mod_130 jm_SH_78 ?_
        refine jm_topI (y := h3 78 1) rfl ?_
        obtain ⟨hb7, H⟩ := H
        refine jm_iastore jd_Mod_pattern_117 jm_SH_89 hb7 ?_
        refine jm_iconst jd_Mod_pattern_118 (jm_o32c rfl) ?_
        refine jm_istore (i := 4) jd_Mod_pattern_119 (by decide) (ls2 := [some (jm_R 78), some (jm_I x1), some (jm_I x2), some (jm_I 0), some (jm_I 0)]) rfl ?_
        refine jm_keepG [true, false, false, false, true] (ls2 := [some (jm_R 78), none, none, none, some (jm_I 0)]) (by rfl) (by rfl) ?_
        exact H
      · replace H := H.2 hc4
        refine jm_bipush jd_Mod_pattern_82 jb_m5 ?_
        exact jm_ireturn jd_Mod_pattern_84 rfl (by decide) ⟨rfl, _, rfl, H⟩
set_option maxRecDepth 4000 in
theorem jb_Mod_pattern_121 {E : jm_Env} {x4 : Int} {h : jm_H} {K : Int → jm_H → Prop} (H : ((h 78 1 ≤ x4) → K (jm_w32 ((jm_w32 ((h 78 14) + 1)) - 1)) (jm_up (jm_up h 78 1 0) 78 14 (jm_w32 ((h 78 14) + 1)))) ∧ ((¬ h 78 1 ≤ x4) → (0 ≤ x4 ∧ x4 < 60) ∧ ((0 ≤ jm_w32 ((jm_w32 (12 * (h 78 14))) + x4) ∧ jm_w32 ((jm_w32 (12 * (h 78 14))) + x4) < 192) ∧ (jm_BI E jm_SH jm_m_Mod_pattern 4 121 [some (jm_R 78), none, none, none, some (jm_I (jm_w32 (x4 + 1)))] [] (jm_up h 88 (Int.toNat (jm_w32 ((jm_w32 (12 * (h 78 14))) + x4))) (h 79 (Int.toNat x4))) K)))) : jm_BI E jm_SH jm_m_Mod_pattern 4 121 [some (jm_R 78), none, none, none, some (jm_I x4)] [] h K := by
  refine jm_iload jd_Mod_pattern_121 rfl ?_
  refine jm_aload_n jd_Mod_pattern_123 rfl rfl ?_
  refine jm_gI jd_Mod_pattern_124 jf_Mod_130 jm_SH_78 ?_
  refine jm_icmp_ge (tgt := 158) jd_Mod_pattern_127 rfl (fun hc1 => ?_) (fun hc1 => ?_)
  · replace H := H.1 hc1
    refine jm_aload_n jd_Mod_pattern_158 rfl rfl ?_
    refine jm_iconst jd_Mod_pattern_159 (jm_o32c rfl) ?_
    refine jm_sI jd_Mod_pattern_160 jp_Mod_130 jm_SH_78 ?_
    refine jm_aload_n jd_Mod_pattern_163 rfl rfl ?_
    refine jm_dup jd_Mod_pattern_164 rfl ?_
    refine jm_gI jd_Mod_pattern_165 jf_Mod_186 jm_SH_78 ?_
    refine jm_topI (y := h 78 14) rfl ?_
    refine jm_iconst jd_Mod_pattern_168 (jm_o32c rfl) ?_
    refine jm_iadd jd_Mod_pattern_169 ?_
    refine jm_sI jd_Mod_pattern_170 jp_Mod_186 jm_SH_78 ?_
    refine jm_aload_n jd_Mod_pattern_173 rfl rfl ?_
    refine jm_gI jd_Mod_pattern_174 jf_Mod_186 jm_SH_78 ?_
    refine jm_topI (y := jm_w32 ((h 78 14) + 1)) rfl ?_
    refine jm_iconst jd_Mod_pattern_177 (jm_o32c rfl) ?_
    refine jm_isub jd_Mod_pattern_178 ?_
    exact jm_ireturn jd_Mod_pattern_179 rfl (by decide) ⟨rfl, _, rfl, H⟩
  · replace H := H.2 hc1
    refine jm_aload_n jd_Mod_pattern_130 rfl rfl ?_
    refine jm_gR jd_Mod_pattern_131 jf_Mod_37 jm_SH_78 rfl ?_
    refine jm_bipush jd_Mod_pattern_134 jb_12 ?_
    refine jm_aload_n jd_Mod_pattern_136 rfl rfl ?_
    refine jm_gI jd_Mod_pattern_137 jf_Mod_186 jm_SH_78 ?_
    refine jm_imul jd_Mod_pattern_140 ?_
    refine jm_iload jd_Mod_pattern_141 rfl ?_
    refine jm_iadd jd_Mod_pattern_143 ?_
    refine jm_aload_n jd_Mod_pattern_144 rfl rfl ?_
    refine jm_gR jd_Mod_pattern_145 jf_Mod_7 jm_SH_78 rfl ?_
    refine jm_iload jd_Mod_pattern_148 rfl ?_
    obtain ⟨hb2, H⟩ := H
    refine jm_iaload jd_Mod_pattern_150 jm_SH_79 hb2 ?_
    obtain ⟨hb3, H⟩ := H
    refine jm_iastore jd_Mod_pattern_151 jm_SH_88 hb3 ?_
    refine jm_iinc jd_Mod_pattern_152 rfl (by decide) (ls2 := [some (jm_R 78), none, none, none, some (jm_I (jm_w32 (x4 + 1)))]) rfl ?_
    refine jm_goto (tgt := 121) jd_Mod_pattern_155 rfl ?_
    exact H
set_option maxRecDepth 4000 in
theorem jb_Mod_price {E : jm_Env} {x1 x2 : Int} {h : jm_H} {K : Int → jm_H → Prop} (H : jm_CI E jm_SH jm_m_Mod_in 0 [jm_L x1, jm_L 0, jm_L (jm_w32 ((h 78 14) - 1))] h (fun v1 h1 => ((¬ v1 = 0) → jm_CI E jm_SH jm_m_Mod_in 0 [jm_L x2, jm_L 0, jm_L 20] h1 (fun v3 h3 => ((¬ v3 = 0) → (0 ≤ x1 ∧ x1 < 16) ∧ ((0 ≤ x1 ∧ x1 < 16) ∧ (K (h3 87 (Int.toNat x1)) (jm_up h3 87 (Int.toNat x1) x2)))) ∧ ((v3 = 0) → K (-2) h3))) ∧ ((v1 = 0) → K (-1) h1))) : jm_CI E jm_SH jm_m_Mod_price 1 [jm_R 78, jm_I x1, jm_I x2] h K := by
  refine jm_body (ls0 := [some (jm_R 78), some (jm_I x1), some (jm_I x2), none]) (by decide +kernel) rfl rfl (Nat.le_of_ble_eq_true rfl) ?_
  refine jm_iload_n jd_Mod_price_0 rfl rfl ?_
  refine jm_i2l jd_Mod_price_1 ?_
  refine jm_lconst (x := 0) jd_Mod_price_2 ⟨by decide, jm_o64c rfl⟩ ?_
  refine jm_aload_n jd_Mod_price_3 rfl rfl ?_
  refine jm_gI jd_Mod_price_4 jf_Mod_186 jm_SH_78 ?_
  refine jm_iconst jd_Mod_price_7 (jm_o32c rfl) ?_
  refine jm_isub jd_Mod_price_8 ?_
  refine jm_i2l jd_Mod_price_9 ?_
  refine jm_cS (M' := jm_m_Mod_in) (d' := 0) (av := [jm_L x1, jm_L 0, jm_L (jm_w32 ((h 78 14) - 1))]) jd_Mod_price_10 jk_Mod_in jw_978 rfl (by omega) ⟨rfl, rfl⟩ (by decide) (Nat.le_of_ble_eq_true rfl) (jm_hqI (fun v1 h1 H => ?_)) H
  refine jm_if_ne (tgt := 18) jd_Mod_price_13 rfl (fun hc2 => ?_) (fun hc2 => ?_)
  · replace H := H.1 hc2
    refine jm_iload_n jd_Mod_price_18 rfl rfl ?_
    refine jm_i2l jd_Mod_price_19 ?_
    refine jm_lconst (x := 0) jd_Mod_price_20 ⟨by decide, jm_o64c rfl⟩ ?_
    refine jm_ldc2 (x := 20) jd_Mod_price_21 jc_1044 (jm_o64c rfl) ?_
    refine jm_cS (M' := jm_m_Mod_in) (d' := 0) (av := [jm_L x2, jm_L 0, jm_L 20]) jd_Mod_price_24 jk_Mod_in jw_978 rfl (by omega) ⟨rfl, rfl⟩ (by decide) (Nat.le_of_ble_eq_true rfl) (jm_hqI (fun v3 h3 H => ?_)) H
    refine jm_if_ne (tgt := 33) jd_Mod_price_27 rfl (fun hc4 => ?_) (fun hc4 => ?_)
    · replace H := H.1 hc4
      refine jm_aload_n jd_Mod_price_33 rfl rfl ?_
      refine jm_gR jd_Mod_price_34 jf_Mod_34 jm_SH_78 rfl ?_
      refine jm_iload_n jd_Mod_price_37 rfl rfl ?_
      obtain ⟨hb5, H⟩ := H
      refine jm_iaload jd_Mod_price_38 jm_SH_87 hb5 ?_
      refine jm_istore_n (i := 3) jd_Mod_price_39 rfl (by decide) (ls2 := [some (jm_R 78), some (jm_I x1), some (jm_I x2), some (jm_I (h3 87 (Int.toNat x1)))]) rfl ?_
      refine jm_aload_n jd_Mod_price_40 rfl rfl ?_
      refine jm_gR jd_Mod_price_41 jf_Mod_34 jm_SH_78 rfl ?_
      refine jm_iload_n jd_Mod_price_44 rfl rfl ?_
      refine jm_iload_n jd_Mod_price_45 rfl rfl ?_
      obtain ⟨hb6, H⟩ := H
      refine jm_iastore jd_Mod_price_46 jm_SH_87 hb6 ?_
      refine jm_iload_n jd_Mod_price_47 rfl rfl ?_
      exact jm_ireturn jd_Mod_price_48 rfl (by decide) ⟨rfl, _, rfl, H⟩
    · replace H := H.2 hc4
      refine jm_bipush jd_Mod_price_30 jb_m2 ?_
      exact jm_ireturn jd_Mod_price_32 rfl (by decide) ⟨rfl, _, rfl, H⟩
  · replace H := H.2 hc2
    refine jm_iconst jd_Mod_price_16 (jm_o32c rfl) ?_
    exact jm_ireturn jd_Mod_price_17 rfl (by decide) ⟨rfl, _, rfl, H⟩
set_option maxRecDepth 4000 in
theorem jb_Mod_clear {E : jm_Env} {h : jm_H} {K : Int → jm_H → Prop} (H : K (h 78 14) (jm_up h 78 14 0)) : jm_CI E jm_SH jm_m_Mod_clear 0 [jm_R 78] h K := by
  refine jm_body (ls0 := [some (jm_R 78), none]) (by decide +kernel) rfl rfl (Nat.le_of_ble_eq_true rfl) ?_
  refine jm_aload_n jd_Mod_clear_0 rfl rfl ?_
  refine jm_gI jd_Mod_clear_1 jf_Mod_186 jm_SH_78 ?_
  refine jm_istore_n (i := 1) jd_Mod_clear_4 rfl (by decide) (ls2 := [some (jm_R 78), some (jm_I (h 78 14))]) rfl ?_
  refine jm_aload_n jd_Mod_clear_5 rfl rfl ?_
  refine jm_iconst jd_Mod_clear_6 (jm_o32c rfl) ?_
  refine jm_sI jd_Mod_clear_7 jp_Mod_186 jm_SH_78 ?_
  refine jm_iload_n jd_Mod_clear_10 rfl rfl ?_
  exact jm_ireturn jd_Mod_clear_11 rfl (by decide) ⟨rfl, _, rfl, H⟩
set_option maxRecDepth 4000 in
theorem jb_Mod_isChain {E : jm_Env} {x1 : Int} {h : jm_H} {K : Int → jm_H → Prop} (H : (0 ≤ x1 ∧ x1 < 16) ∧ (((¬ h 89 (Int.toNat x1) = 1) → K 0 h) ∧ ((h 89 (Int.toNat x1) = 1) → (0 ≤ jm_w32 (12 * x1) ∧ jm_w32 (12 * x1) < 192) ∧ (jm_CI E jm_SH jm_m_Mod_headFor 0 [jm_I (h 88 (Int.toNat (jm_w32 (12 * x1))))] h (fun v4 h4 => ((v4 < 0) → K 0 h4) ∧ ((¬ v4 < 0) → K 1 h4)))))) : jm_CI E jm_SH jm_m_Mod_isChain 1 [jm_R 78, jm_I x1] h K := by
  refine jm_body (ls0 := [some (jm_R 78), some (jm_I x1)]) (by decide +kernel) rfl rfl (Nat.le_of_ble_eq_true rfl) ?_
  refine jm_aload_n jd_Mod_isChain_0 rfl rfl ?_
  refine jm_gR jd_Mod_isChain_1 jf_Mod_40 jm_SH_78 rfl ?_
  refine jm_iload_n jd_Mod_isChain_4 rfl rfl ?_
  obtain ⟨hb1, H⟩ := H
  refine jm_iaload jd_Mod_isChain_5 jm_SH_89 hb1 ?_
  refine jm_iconst jd_Mod_isChain_6 (jm_o32c rfl) ?_
  refine jm_icmp_ne (tgt := 29) jd_Mod_isChain_7 rfl (fun hc2 => ?_) (fun hc2 => ?_)
  · replace H := H.1 hc2
    refine jm_iconst jd_Mod_isChain_29 (jm_o32c rfl) ?_
    exact jm_zreturn jd_Mod_isChain_30 rfl (Or.inl rfl) (by decide) ⟨rfl, _, rfl, H⟩
  · replace H := H.2 hc2
    refine jm_aload_n jd_Mod_isChain_10 rfl rfl ?_
    refine jm_gR jd_Mod_isChain_11 jf_Mod_37 jm_SH_78 rfl ?_
    refine jm_bipush jd_Mod_isChain_14 jb_12 ?_
    refine jm_iload_n jd_Mod_isChain_16 rfl rfl ?_
    refine jm_imul jd_Mod_isChain_17 ?_
    obtain ⟨hb3, H⟩ := H
    refine jm_iaload jd_Mod_isChain_18 jm_SH_88 hb3 ?_
    refine jm_cS (M' := jm_m_Mod_headFor) (d' := 0) (av := [jm_I (h 88 (Int.toNat (jm_w32 (12 * x1))))]) jd_Mod_isChain_19 jk_Mod_headFor jw_1045 rfl (by omega) ⟨rfl, rfl⟩ (by decide) (Nat.le_of_ble_eq_true rfl) (jm_hqI (fun v4 h4 H => ?_)) H
    refine jm_if_lt (tgt := 29) jd_Mod_isChain_22 rfl (fun hc5 => ?_) (fun hc5 => ?_)
    · replace H := H.1 hc5
      refine jm_iconst jd_Mod_isChain_29 (jm_o32c rfl) ?_
      exact jm_zreturn jd_Mod_isChain_30 rfl (Or.inl rfl) (by decide) ⟨rfl, _, rfl, H⟩
    · replace H := H.2 hc5
      refine jm_iconst jd_Mod_isChain_25 (jm_o32c rfl) ?_
      refine jm_goto (tgt := 30) jd_Mod_isChain_26 rfl ?_
      exact jm_zreturn jd_Mod_isChain_30 rfl (Or.inr rfl) (by decide) ⟨rfl, _, rfl, H⟩
set_option maxRecDepth 4000 in
theorem jb_Mod_costAt {E : jm_Env} {x1 x2 : Int} {h : jm_H} {K : Int → jm_H → Prop} (H : (0 ≤ x1 ∧ x1 < 16) ∧ (jm_BI E jm_SH jm_m_Mod_costAt 2 13 [some (jm_R 78), some (jm_I x1), none, some (jm_I (h 87 (Int.toNat x1))), some (jm_I x2), some (jm_I 0), none, none, none] [] h K)) : jm_CI E jm_SH jm_m_Mod_costAt 2 [jm_R 78, jm_I x1, jm_I x2] h K := by
  refine jm_body (ls0 := [some (jm_R 78), some (jm_I x1), some (jm_I x2), none, none, none, none, none, none]) (by decide +kernel) rfl rfl (Nat.le_of_ble_eq_true rfl) ?_
  refine jm_aload_n jd_Mod_costAt_0 rfl rfl ?_
  refine jm_gR jd_Mod_costAt_1 jf_Mod_34 jm_SH_78 rfl ?_
  refine jm_iload_n jd_Mod_costAt_4 rfl rfl ?_
  obtain ⟨hb1, H⟩ := H
  refine jm_iaload jd_Mod_costAt_5 jm_SH_87 hb1 ?_
  refine jm_istore_n (i := 3) jd_Mod_costAt_6 rfl (by decide) (ls2 := [some (jm_R 78), some (jm_I x1), some (jm_I x2), some (jm_I (h 87 (Int.toNat x1))), none, none, none, none, none]) rfl ?_
  refine jm_iload_n jd_Mod_costAt_7 rfl rfl ?_
  refine jm_istore (i := 4) jd_Mod_costAt_8 (by decide) (ls2 := [some (jm_R 78), some (jm_I x1), some (jm_I x2), some (jm_I (h 87 (Int.toNat x1))), some (jm_I x2), none, none, none, none]) rfl ?_
  refine jm_iconst jd_Mod_costAt_10 (jm_o32c rfl) ?_
  refine jm_istore (i := 5) jd_Mod_costAt_11 (by decide) (ls2 := [some (jm_R 78), some (jm_I x1), some (jm_I x2), some (jm_I (h 87 (Int.toNat x1))), some (jm_I x2), some (jm_I 0), none, none, none]) rfl ?_
  refine jm_keepG [true, true, false, true, true, true, false, false, false] (ls2 := [some (jm_R 78), some (jm_I x1), none, some (jm_I (h 87 (Int.toNat x1))), some (jm_I x2), some (jm_I 0), none, none, none]) (by rfl) (by rfl) ?_
  exact H
set_option maxRecDepth 4000 in
theorem jb_Mod_costAt_13 {E : jm_Env} {x1 x3 x4 x5 : Int} {h : jm_H} {K : Int → jm_H → Prop} (H : (0 ≤ x1 ∧ x1 < 16) ∧ (((h 89 (Int.toNat x1) ≤ x5) → ((1000000 ≤ x3) → K 1000000 h) ∧ ((¬ 1000000 ≤ x3) → K x3 h)) ∧ ((¬ h 89 (Int.toNat x1) ≤ x5) → (0 ≤ jm_w32 ((jm_w32 (12 * x1)) + x5) ∧ jm_w32 ((jm_w32 (12 * x1)) + x5) < 192) ∧ (jm_CI E jm_SH jm_m_Mod_headFor 0 [jm_I (h 88 (Int.toNat (jm_w32 ((jm_w32 (12 * x1)) + x5))))] h (fun v5 h5 => ((v5 < 0) → ((¬ h 88 (Int.toNat (jm_w32 ((jm_w32 (12 * x1)) + x5))) = 75) → ((¬ h 88 (Int.toNat (jm_w32 ((jm_w32 (12 * x1)) + x5))) = 86) → (0 ≤ x4 ∧ x4 < 60) ∧ (((¬ h 88 (Int.toNat (jm_w32 ((jm_w32 (12 * x1)) + x5))) = h5 80 (Int.toNat x4)) → K 1000000 h5) ∧ ((h 88 (Int.toNat (jm_w32 ((jm_w32 (12 * x1)) + x5))) = h5 80 (Int.toNat x4)) → jm_BI E jm_SH jm_m_Mod_costAt 2 13 [some (jm_R 78), some (jm_I x1), none, some (jm_I x3), some (jm_I (jm_w32 (x4 + 1))), some (jm_I (jm_w32 (x5 + 1))), none, none, none] [] h5 K))) ∧ ((h 88 (Int.toNat (jm_w32 ((jm_w32 (12 * x1)) + x5))) = 86) → (0 ≤ x4 ∧ x4 < 60) ∧ (jm_CI E jm_SH jm_m_Mod_isVariable 1 [jm_I (h5 80 (Int.toNat x4))] h5 (fun v14 h14 => ((¬ v14 = 0) → jm_BI E jm_SH jm_m_Mod_costAt 2 13 [some (jm_R 78), some (jm_I x1), none, some (jm_I x3), some (jm_I (jm_w32 (x4 + 1))), some (jm_I (jm_w32 (x5 + 1))), none, none, none] [] h14 K) ∧ ((v14 = 0) → K 1000000 h14))))) ∧ ((h 88 (Int.toNat (jm_w32 ((jm_w32 (12 * x1)) + x5))) = 75) → (0 ≤ x4 ∧ x4 < 60) ∧ (jm_CI E jm_SH jm_m_Mod_isNumber 1 [jm_I (h5 80 (Int.toNat x4))] h5 (fun v17 h17 => ((¬ v17 = 0) → jm_BI E jm_SH jm_m_Mod_costAt 2 13 [some (jm_R 78), some (jm_I x1), none, some (jm_I x3), some (jm_I (jm_w32 (x4 + 1))), some (jm_I (jm_w32 (x5 + 1))), none, none, none] [] h17 K) ∧ ((v17 = 0) → K 1000000 h17))))) ∧ ((¬ v5 < 0) → (0 ≤ jm_w32 ((jm_w32 (2 * x4)) + v5) ∧ jm_w32 ((jm_w32 (2 * x4)) + v5) < 60) ∧ (jm_CI E jm_SH jm_m_Mod_endOf 1 [jm_R 78, jm_I x4] h5 (fun v20 h20 => jm_BI E jm_SH jm_m_Mod_costAt 2 13 [some (jm_R 78), some (jm_I x1), none, some (jm_I (jm_w32 (x3 + (h5 92 (Int.toNat (jm_w32 ((jm_w32 (2 * x4)) + v5))))))), some (jm_I v20), some (jm_I (jm_w32 (x5 + 1))), none, none, none] [] h20 K)))))))) : jm_BI E jm_SH jm_m_Mod_costAt 2 13 [some (jm_R 78), some (jm_I x1), none, some (jm_I x3), some (jm_I x4), some (jm_I x5), none, none, none] [] h K := by
  refine jm_iload jd_Mod_costAt_13 rfl ?_
  refine jm_aload_n jd_Mod_costAt_15 rfl rfl ?_
  refine jm_gR jd_Mod_costAt_16 jf_Mod_40 jm_SH_78 rfl ?_
  refine jm_iload_n jd_Mod_costAt_19 rfl rfl ?_
  obtain ⟨hb1, H⟩ := H
  refine jm_iaload jd_Mod_costAt_20 jm_SH_89 hb1 ?_
  refine jm_icmp_ge (tgt := 152) jd_Mod_costAt_21 rfl (fun hc2 => ?_) (fun hc2 => ?_)
  · replace H := H.1 hc2
    refine jm_iload_n jd_Mod_costAt_152 rfl rfl ?_
    refine jm_ldc (x := 1000000) jd_Mod_costAt_153 jc_1064 (jm_o32c rfl) ?_
    refine jm_icmp_ge (tgt := 162) jd_Mod_costAt_155 rfl (fun hc3 => ?_) (fun hc3 => ?_)
    · replace H := H.1 hc3
      refine jm_ldc (x := 1000000) jd_Mod_costAt_162 jc_1064 (jm_o32c rfl) ?_
      exact jm_ireturn jd_Mod_costAt_164 rfl (by decide) ⟨rfl, _, rfl, H⟩
    · replace H := H.2 hc3
      refine jm_iload_n jd_Mod_costAt_158 rfl rfl ?_
      refine jm_goto (tgt := 164) jd_Mod_costAt_159 rfl ?_
      exact jm_ireturn jd_Mod_costAt_164 rfl (by decide) ⟨rfl, _, rfl, H⟩
  · replace H := H.2 hc2
    refine jm_aload_n jd_Mod_costAt_24 rfl rfl ?_
    refine jm_gR jd_Mod_costAt_25 jf_Mod_37 jm_SH_78 rfl ?_
    refine jm_bipush jd_Mod_costAt_28 jb_12 ?_
    refine jm_iload_n jd_Mod_costAt_30 rfl rfl ?_
    refine jm_imul jd_Mod_costAt_31 ?_
    refine jm_iload jd_Mod_costAt_32 rfl ?_
    refine jm_iadd jd_Mod_costAt_34 ?_
    obtain ⟨hb4, H⟩ := H
    refine jm_iaload jd_Mod_costAt_35 jm_SH_88 hb4 ?_
    refine jm_istore (i := 6) jd_Mod_costAt_36 (by decide) (ls2 := [some (jm_R 78), some (jm_I x1), none, some (jm_I x3), some (jm_I x4), some (jm_I x5), some (jm_I (h 88 (Int.toNat (jm_w32 ((jm_w32 (12 * x1)) + x5))))), none, none]) rfl ?_
    refine jm_iload jd_Mod_costAt_38 rfl ?_
    refine jm_cS (M' := jm_m_Mod_headFor) (d' := 0) (av := [jm_I (h 88 (Int.toNat (jm_w32 ((jm_w32 (12 * x1)) + x5))))]) jd_Mod_costAt_40 jk_Mod_headFor jw_1045 rfl (by omega) ⟨rfl, rfl⟩ (by decide) (Nat.le_of_ble_eq_true rfl) (jm_hqI (fun v5 h5 H => ?_)) H
    refine jm_istore (i := 7) jd_Mod_costAt_43 (by decide) (ls2 := [some (jm_R 78), some (jm_I x1), none, some (jm_I x3), some (jm_I x4), some (jm_I x5), some (jm_I (h 88 (Int.toNat (jm_w32 ((jm_w32 (12 * x1)) + x5))))), some (jm_I v5), none]) rfl ?_
    refine jm_iload jd_Mod_costAt_45 rfl ?_
    refine jm_if_lt (tgt := 76) jd_Mod_costAt_47 rfl (fun hc6 => ?_) (fun hc6 => ?_)
    · replace H := H.1 hc6
      refine jm_iload jd_Mod_costAt_76 rfl ?_
      refine jm_bipush jd_Mod_costAt_78 jb_75 ?_
      refine jm_icmp_ne (tgt := 96) jd_Mod_costAt_80 rfl (fun hc7 => ?_) (fun hc7 => ?_)
      · replace H := H.1 hc7
        refine jm_iload jd_Mod_costAt_96 rfl ?_
        refine jm_bipush jd_Mod_costAt_98 jb_86 ?_
        refine jm_icmp_ne (tgt := 116) jd_Mod_costAt_100 rfl (fun hc8 => ?_) (fun hc8 => ?_)
        · replace H := H.1 hc8
          refine jm_iload jd_Mod_costAt_116 rfl ?_
          refine jm_aload_n jd_Mod_costAt_118 rfl rfl ?_
          refine jm_gR jd_Mod_costAt_119 jf_Mod_13 jm_SH_78 rfl ?_
          refine jm_iload jd_Mod_costAt_122 rfl ?_
          obtain ⟨hb9, H⟩ := H
          refine jm_iaload jd_Mod_costAt_124 jm_SH_80 hb9 ?_
          refine jm_icmp_ne (tgt := 132) jd_Mod_costAt_125 rfl (fun hc10 => ?_) (fun hc10 => ?_)
          · replace H := H.1 hc10
            refine jm_iconst jd_Mod_costAt_132 (jm_o32c rfl) ?_
            refine jm_istore (i := 8) jd_Mod_costAt_133 (by decide) (ls2 := [some (jm_R 78), some (jm_I x1), none, some (jm_I x3), some (jm_I x4), some (jm_I x5), some (jm_I (h 88 (Int.toNat (jm_w32 ((jm_w32 (12 * x1)) + x5))))), some (jm_I v5), some (jm_I 0)]) rfl ?_
            refine jm_iload jd_Mod_costAt_135 rfl ?_
            refine jm_if_ne (tgt := 143) jd_Mod_costAt_137 rfl (fun hc11 => ?_) (fun hc11 => ?_)
            · exact absurd hc11 (by decide)
            · refine jm_ldc (x := 1000000) jd_Mod_costAt_140 jc_1064 (jm_o32c rfl) ?_
              exact jm_ireturn jd_Mod_costAt_142 rfl (by decide) ⟨rfl, _, rfl, H⟩
          · replace H := H.2 hc10
            refine jm_iconst jd_Mod_costAt_128 (jm_o32c rfl) ?_
            refine jm_goto (tgt := 133) jd_Mod_costAt_129 rfl ?_
            refine jm_istore (i := 8) jd_Mod_costAt_133 (by decide) (ls2 := [some (jm_R 78), some (jm_I x1), none, some (jm_I x3), some (jm_I x4), some (jm_I x5), some (jm_I (h 88 (Int.toNat (jm_w32 ((jm_w32 (12 * x1)) + x5))))), some (jm_I v5), some (jm_I 1)]) rfl ?_
            refine jm_iload jd_Mod_costAt_135 rfl ?_
            refine jm_if_ne (tgt := 143) jd_Mod_costAt_137 rfl (fun hc12 => ?_) (fun hc12 => ?_)
            · refine jm_iinc jd_Mod_costAt_143 rfl (by decide) (ls2 := [some (jm_R 78), some (jm_I x1), none, some (jm_I x3), some (jm_I (jm_w32 (x4 + 1))), some (jm_I x5), some (jm_I (h 88 (Int.toNat (jm_w32 ((jm_w32 (12 * x1)) + x5))))), some (jm_I v5), some (jm_I 1)]) rfl ?_
              refine jm_iinc jd_Mod_costAt_146 rfl (by decide) (ls2 := [some (jm_R 78), some (jm_I x1), none, some (jm_I x3), some (jm_I (jm_w32 (x4 + 1))), some (jm_I (jm_w32 (x5 + 1))), some (jm_I (h 88 (Int.toNat (jm_w32 ((jm_w32 (12 * x1)) + x5))))), some (jm_I v5), some (jm_I 1)]) rfl ?_
              refine jm_goto (tgt := 13) jd_Mod_costAt_149 rfl ?_
              refine jm_keepG [true, true, false, true, true, true, false, false, false] (ls2 := [some (jm_R 78), some (jm_I x1), none, some (jm_I x3), some (jm_I (jm_w32 (x4 + 1))), some (jm_I (jm_w32 (x5 + 1))), none, none, none]) (by rfl) (by rfl) ?_
              exact H
            · exact absurd hc12 (by decide)
        · replace H := H.2 hc8
          refine jm_aload_n jd_Mod_costAt_103 rfl rfl ?_
          refine jm_gR jd_Mod_costAt_104 jf_Mod_13 jm_SH_78 rfl ?_
          refine jm_iload jd_Mod_costAt_107 rfl ?_
          obtain ⟨hb13, H⟩ := H
          refine jm_iaload jd_Mod_costAt_109 jm_SH_80 hb13 ?_
          refine jm_cS (M' := jm_m_Mod_isVariable) (d' := 1) (av := [jm_I (h5 80 (Int.toNat x4))]) jd_Mod_costAt_110 jk_Mod_isVariable jw_1008 rfl (by omega) ⟨rfl, rfl⟩ (by decide) (Nat.le_of_ble_eq_true rfl) (jm_hqI (fun v14 h14 H => ?_)) H
          refine jm_goto (tgt := 133) jd_Mod_costAt_113 rfl ?_
          refine jm_istore (i := 8) jd_Mod_costAt_133 (by decide) (ls2 := [some (jm_R 78), some (jm_I x1), none, some (jm_I x3), some (jm_I x4), some (jm_I x5), some (jm_I (h 88 (Int.toNat (jm_w32 ((jm_w32 (12 * x1)) + x5))))), some (jm_I v5), some (jm_I v14)]) rfl ?_
          refine jm_iload jd_Mod_costAt_135 rfl ?_
          refine jm_if_ne (tgt := 143) jd_Mod_costAt_137 rfl (fun hc15 => ?_) (fun hc15 => ?_)
          · replace H := H.1 hc15
            refine jm_iinc jd_Mod_costAt_143 rfl (by decide) (ls2 := [some (jm_R 78), some (jm_I x1), none, some (jm_I x3), some (jm_I (jm_w32 (x4 + 1))), some (jm_I x5), some (jm_I (h 88 (Int.toNat (jm_w32 ((jm_w32 (12 * x1)) + x5))))), some (jm_I v5), some (jm_I v14)]) rfl ?_
            refine jm_iinc jd_Mod_costAt_146 rfl (by decide) (ls2 := [some (jm_R 78), some (jm_I x1), none, some (jm_I x3), some (jm_I (jm_w32 (x4 + 1))), some (jm_I (jm_w32 (x5 + 1))), some (jm_I (h 88 (Int.toNat (jm_w32 ((jm_w32 (12 * x1)) + x5))))), some (jm_I v5), some (jm_I v14)]) rfl ?_
            refine jm_goto (tgt := 13) jd_Mod_costAt_149 rfl ?_
            refine jm_keepG [true, true, false, true, true, true, false, false, false] (ls2 := [some (jm_R 78), some (jm_I x1), none, some (jm_I x3), some (jm_I (jm_w32 (x4 + 1))), some (jm_I (jm_w32 (x5 + 1))), none, none, none]) (by rfl) (by rfl) ?_
            exact H
          · replace H := H.2 hc15
            refine jm_ldc (x := 1000000) jd_Mod_costAt_140 jc_1064 (jm_o32c rfl) ?_
            exact jm_ireturn jd_Mod_costAt_142 rfl (by decide) ⟨rfl, _, rfl, H⟩
      · replace H := H.2 hc7
        refine jm_aload_n jd_Mod_costAt_83 rfl rfl ?_
        refine jm_gR jd_Mod_costAt_84 jf_Mod_13 jm_SH_78 rfl ?_
        refine jm_iload jd_Mod_costAt_87 rfl ?_
        obtain ⟨hb16, H⟩ := H
        refine jm_iaload jd_Mod_costAt_89 jm_SH_80 hb16 ?_
        refine jm_cS (M' := jm_m_Mod_isNumber) (d' := 1) (av := [jm_I (h5 80 (Int.toNat x4))]) jd_Mod_costAt_90 jk_Mod_isNumber jw_1003 rfl (by omega) ⟨rfl, rfl⟩ (by decide) (Nat.le_of_ble_eq_true rfl) (jm_hqI (fun v17 h17 H => ?_)) H
        refine jm_goto (tgt := 133) jd_Mod_costAt_93 rfl ?_
        refine jm_istore (i := 8) jd_Mod_costAt_133 (by decide) (ls2 := [some (jm_R 78), some (jm_I x1), none, some (jm_I x3), some (jm_I x4), some (jm_I x5), some (jm_I (h 88 (Int.toNat (jm_w32 ((jm_w32 (12 * x1)) + x5))))), some (jm_I v5), some (jm_I v17)]) rfl ?_
        refine jm_iload jd_Mod_costAt_135 rfl ?_
        refine jm_if_ne (tgt := 143) jd_Mod_costAt_137 rfl (fun hc18 => ?_) (fun hc18 => ?_)
        · replace H := H.1 hc18
          refine jm_iinc jd_Mod_costAt_143 rfl (by decide) (ls2 := [some (jm_R 78), some (jm_I x1), none, some (jm_I x3), some (jm_I (jm_w32 (x4 + 1))), some (jm_I x5), some (jm_I (h 88 (Int.toNat (jm_w32 ((jm_w32 (12 * x1)) + x5))))), some (jm_I v5), some (jm_I v17)]) rfl ?_
          refine jm_iinc jd_Mod_costAt_146 rfl (by decide) (ls2 := [some (jm_R 78), some (jm_I x1), none, some (jm_I x3), some (jm_I (jm_w32 (x4 + 1))), some (jm_I (jm_w32 (x5 + 1))), some (jm_I (h 88 (Int.toNat (jm_w32 ((jm_w32 (12 * x1)) + x5))))), some (jm_I v5), some (jm_I v17)]) rfl ?_
          refine jm_goto (tgt := 13) jd_Mod_costAt_149 rfl ?_
          refine jm_keepG [true, true, false, true, true, true, false, false, false] (ls2 := [some (jm_R 78), some (jm_I x1), none, some (jm_I x3), some (jm_I (jm_w32 (x4 + 1))), some (jm_I (jm_w32 (x5 + 1))), none, none, none]) (by rfl) (by rfl) ?_
          exact H
        · replace H := H.2 hc18
          refine jm_ldc (x := 1000000) jd_Mod_costAt_140 jc_1064 (jm_o32c rfl) ?_
          exact jm_ireturn jd_Mod_costAt_142 rfl (by decide) ⟨rfl, _, rfl, H⟩
    · replace H := H.2 hc6
      refine jm_iload_n jd_Mod_costAt_50 rfl rfl ?_
      refine jm_aload_n jd_Mod_costAt_51 rfl rfl ?_
      refine jm_gR jd_Mod_costAt_52 jf_Mod_49 jm_SH_78 rfl ?_
      refine jm_iconst jd_Mod_costAt_55 (jm_o32c rfl) ?_
      refine jm_iload jd_Mod_costAt_56 rfl ?_
      refine jm_imul jd_Mod_costAt_58 ?_
      refine jm_iload jd_Mod_costAt_59 rfl ?_
      refine jm_iadd jd_Mod_costAt_61 ?_
      obtain ⟨hb19, H⟩ := H
      refine jm_iaload jd_Mod_costAt_62 jm_SH_92 hb19 ?_
      refine jm_iadd jd_Mod_costAt_63 ?_
      refine jm_istore_n (i := 3) jd_Mod_costAt_64 rfl (by decide) (ls2 := [some (jm_R 78), some (jm_I x1), none, some (jm_I (jm_w32 (x3 + (h5 92 (Int.toNat (jm_w32 ((jm_w32 (2 * x4)) + v5))))))), some (jm_I x4), some (jm_I x5), some (jm_I (h 88 (Int.toNat (jm_w32 ((jm_w32 (12 * x1)) + x5))))), some (jm_I v5), none]) rfl ?_
      refine jm_aload_n jd_Mod_costAt_65 rfl rfl ?_
      refine jm_iload jd_Mod_costAt_66 rfl ?_
      refine jm_cV (M' := jm_m_Mod_endOf) (d' := 1) (av := [jm_I x4]) jd_Mod_costAt_68 jk_Mod_endOf jw_1033 rfl (by omega) ⟨rfl, rfl⟩ (by decide) (Nat.le_of_ble_eq_true rfl) jm_SH_78 rfl rfl (jm_hqI (fun v20 h20 H => ?_)) H
      refine jm_istore (i := 4) jd_Mod_costAt_71 (by decide) (ls2 := [some (jm_R 78), some (jm_I x1), none, some (jm_I (jm_w32 (x3 + (h5 92 (Int.toNat (jm_w32 ((jm_w32 (2 * x4)) + v5))))))), some (jm_I v20), some (jm_I x5), some (jm_I (h 88 (Int.toNat (jm_w32 ((jm_w32 (12 * x1)) + x5))))), some (jm_I v5), none]) rfl ?_
      refine jm_goto (tgt := 146) jd_Mod_costAt_73 rfl ?_
      refine jm_iinc jd_Mod_costAt_146 rfl (by decide) (ls2 := [some (jm_R 78), some (jm_I x1), none, some (jm_I (jm_w32 (x3 + (h5 92 (Int.toNat (jm_w32 ((jm_w32 (2 * x4)) + v5))))))), some (jm_I v20), some (jm_I (jm_w32 (x5 + 1))), some (jm_I (h 88 (Int.toNat (jm_w32 ((jm_w32 (12 * x1)) + x5))))), some (jm_I v5), none]) rfl ?_
      refine jm_goto (tgt := 13) jd_Mod_costAt_149 rfl ?_
      refine jm_keepG [true, true, false, true, true, true, false, false, false] (ls2 := [some (jm_R 78), some (jm_I x1), none, some (jm_I (jm_w32 (x3 + (h5 92 (Int.toNat (jm_w32 ((jm_w32 (2 * x4)) + v5))))))), some (jm_I v20), some (jm_I (jm_w32 (x5 + 1))), none, none, none]) (by rfl) (by rfl) ?_
      exact H
set_option maxRecDepth 4000 in
theorem jb_Mod_findCover {E : jm_Env} {h : jm_H} {K : jm_H → Prop} (H : jm_BV E jm_SH jm_m_Mod_findCover 3 9 [some (jm_R 78), some (jm_I (jm_w32 ((jm_w32 (2 * (h 78 4))) - 1))), none, none, none] [] h K) : jm_CV E jm_SH jm_m_Mod_findCover 3 [jm_R 78] h K := by
  refine jm_body (ls0 := [some (jm_R 78), none, none, none, none]) (by decide +kernel) rfl rfl (Nat.le_of_ble_eq_true rfl) ?_
  refine jm_iconst jd_Mod_findCover_0 (jm_o32c rfl) ?_
  refine jm_aload_n jd_Mod_findCover_1 rfl rfl ?_
  refine jm_gI jd_Mod_findCover_2 jf_Mod_169 jm_SH_78 ?_
  refine jm_imul jd_Mod_findCover_5 ?_
  refine jm_iconst jd_Mod_findCover_6 (jm_o32c rfl) ?_
  refine jm_isub jd_Mod_findCover_7 ?_
  refine jm_istore_n (i := 1) jd_Mod_findCover_8 rfl (by decide) (ls2 := [some (jm_R 78), some (jm_I (jm_w32 ((jm_w32 (2 * (h 78 4))) - 1))), none, none, none]) rfl ?_
  exact H
set_option maxRecDepth 4000 in
theorem jb_Mod_findCover_9 {E : jm_Env} {x1 : Int} {h : jm_H} {K : jm_H → Prop} (H : ((x1 < 0) → jm_BV E jm_SH jm_m_Mod_findCover 3 58 [some (jm_R 78), some (jm_I (jm_w32 ((h 78 4) - 1))), none, none, none] [] h K) ∧ ((¬ x1 < 0) → (0 ≤ x1 ∧ x1 < 60) ∧ ((0 ≤ x1 ∧ x1 < 60) ∧ ((0 ≤ x1 ∧ x1 < 60) ∧ ((0 ≤ x1 ∧ x1 < 60) ∧ (jm_BV E jm_SH jm_m_Mod_findCover 3 9 [some (jm_R 78), some (jm_I (jm_w32 (x1 + (-1)))), none, none, none] [] (jm_up (jm_up (jm_up (jm_up h 90 (Int.toNat x1) 1000000) 91 (Int.toNat x1) (-6)) 92 (Int.toNat x1) 1000000) 93 (Int.toNat x1) (-6)) K)))))) : jm_BV E jm_SH jm_m_Mod_findCover 3 9 [some (jm_R 78), some (jm_I x1), none, none, none] [] h K := by
  refine jm_iload_n jd_Mod_findCover_9 rfl rfl ?_
  refine jm_if_lt (tgt := 51) jd_Mod_findCover_10 rfl (fun hc1 => ?_) (fun hc1 => ?_)
  · replace H := H.1 hc1
    refine jm_aload_n jd_Mod_findCover_51 rfl rfl ?_
    refine jm_gI jd_Mod_findCover_52 jf_Mod_169 jm_SH_78 ?_
    refine jm_iconst jd_Mod_findCover_55 (jm_o32c rfl) ?_
    refine jm_isub jd_Mod_findCover_56 ?_
    refine jm_istore_n (i := 1) jd_Mod_findCover_57 rfl (by decide) (ls2 := [some (jm_R 78), some (jm_I (jm_w32 ((h 78 4) - 1))), none, none, none]) rfl ?_
    exact H
  · replace H := H.2 hc1
    refine jm_aload_n jd_Mod_findCover_13 rfl rfl ?_
    refine jm_gR jd_Mod_findCover_14 jf_Mod_43 jm_SH_78 rfl ?_
    refine jm_iload_n jd_Mod_findCover_17 rfl rfl ?_
    refine jm_ldc (x := 1000000) jd_Mod_findCover_18 jc_1064 (jm_o32c rfl) ?_
    obtain ⟨hb2, H⟩ := H
    refine jm_iastore jd_Mod_findCover_20 jm_SH_90 hb2 ?_
    refine jm_aload_n jd_Mod_findCover_21 rfl rfl ?_
    refine jm_gR jd_Mod_findCover_22 jf_Mod_46 jm_SH_78 rfl ?_
    refine jm_iload_n jd_Mod_findCover_25 rfl rfl ?_
    refine jm_bipush jd_Mod_findCover_26 jb_m6 ?_
    obtain ⟨hb3, H⟩ := H
    refine jm_iastore jd_Mod_findCover_28 jm_SH_91 hb3 ?_
    refine jm_aload_n jd_Mod_findCover_29 rfl rfl ?_
    refine jm_gR jd_Mod_findCover_30 jf_Mod_49 jm_SH_78 rfl ?_
    refine jm_iload_n jd_Mod_findCover_33 rfl rfl ?_
    refine jm_ldc (x := 1000000) jd_Mod_findCover_34 jc_1064 (jm_o32c rfl) ?_
    obtain ⟨hb4, H⟩ := H
    refine jm_iastore jd_Mod_findCover_36 jm_SH_92 hb4 ?_
    refine jm_aload_n jd_Mod_findCover_37 rfl rfl ?_
    refine jm_gR jd_Mod_findCover_38 jf_Mod_52 jm_SH_78 rfl ?_
    refine jm_iload_n jd_Mod_findCover_41 rfl rfl ?_
    refine jm_bipush jd_Mod_findCover_42 jb_m6 ?_
    obtain ⟨hb5, H⟩ := H
    refine jm_iastore jd_Mod_findCover_44 jm_SH_93 hb5 ?_
    refine jm_iinc jd_Mod_findCover_45 rfl (by decide) (ls2 := [some (jm_R 78), some (jm_I (jm_w32 (x1 + (-1)))), none, none, none]) rfl ?_
    refine jm_goto (tgt := 9) jd_Mod_findCover_48 rfl ?_
    exact H
set_option maxRecDepth 4000 in
theorem jb_Mod_findCover_58 {E : jm_Env} {x1 : Int} {h : jm_H} {K : jm_H → Prop} (H : ((x1 < 0) → K h) ∧ ((¬ x1 < 0) → jm_BV E jm_SH jm_m_Mod_findCover 3 64 [some (jm_R 78), some (jm_I x1), some (jm_I 0), none, none] [] h K)) : jm_BV E jm_SH jm_m_Mod_findCover 3 58 [some (jm_R 78), some (jm_I x1), none, none, none] [] h K := by
  refine jm_iload_n jd_Mod_findCover_58 rfl rfl ?_
  refine jm_if_lt (tgt := 258) jd_Mod_findCover_59 rfl (fun hc1 => ?_) (fun hc1 => ?_)
  · replace H := H.1 hc1
    exact jm_vreturn jd_Mod_findCover_258 rfl (by decide) ⟨rfl, rfl, H⟩
  · replace H := H.2 hc1
    refine jm_iconst jd_Mod_findCover_62 (jm_o32c rfl) ?_
    refine jm_istore_n (i := 2) jd_Mod_findCover_63 rfl (by decide) (ls2 := [some (jm_R 78), some (jm_I x1), some (jm_I 0), none, none]) rfl ?_
    exact H
set_option maxRecDepth 4000 in
theorem jb_Mod_findCover_64 {E : jm_Env} {x1 x2 : Int} {h : jm_H} {K : jm_H → Prop} (H : ((h 78 14 ≤ x2) → jm_BV E jm_SH jm_m_Mod_findCover 3 139 [some (jm_R 78), some (jm_I x1), some (jm_I 0), none, none] [] h K) ∧ ((¬ h 78 14 ≤ x2) → jm_CI E jm_SH jm_m_Mod_isChain 1 [jm_R 78, jm_I x2] h (fun v2 h2 => ((v2 = 0) → jm_CI E jm_SH jm_m_Mod_costAt 2 [jm_R 78, jm_I x2, jm_I x1] h2 (fun v4 h4 => (0 ≤ x2 ∧ x2 < 16) ∧ ((0 ≤ jm_w32 ((jm_w32 (2 * x1)) + (h4 86 (Int.toNat x2))) ∧ jm_w32 ((jm_w32 (2 * x1)) + (h4 86 (Int.toNat x2))) < 60) ∧ (((h4 90 (Int.toNat (jm_w32 ((jm_w32 (2 * x1)) + (h4 86 (Int.toNat x2))))) ≤ v4) → jm_BV E jm_SH jm_m_Mod_findCover 3 64 [some (jm_R 78), some (jm_I x1), some (jm_I (jm_w32 (x2 + 1))), none, none] [] h4 K) ∧ ((¬ h4 90 (Int.toNat (jm_w32 ((jm_w32 (2 * x1)) + (h4 86 (Int.toNat x2))))) ≤ v4) → (0 ≤ jm_w32 ((jm_w32 (2 * x1)) + (h4 86 (Int.toNat x2))) ∧ jm_w32 ((jm_w32 (2 * x1)) + (h4 86 (Int.toNat x2))) < 60) ∧ ((0 ≤ jm_w32 ((jm_w32 (2 * x1)) + (h4 86 (Int.toNat x2))) ∧ jm_w32 ((jm_w32 (2 * x1)) + (h4 86 (Int.toNat x2))) < 60) ∧ (jm_BV E jm_SH jm_m_Mod_findCover 3 64 [some (jm_R 78), some (jm_I x1), some (jm_I (jm_w32 (x2 + 1))), none, none] [] (jm_up (jm_up h4 90 (Int.toNat (jm_w32 ((jm_w32 (2 * x1)) + (h4 86 (Int.toNat x2))))) v4) 91 (Int.toNat (jm_w32 ((jm_w32 (2 * x1)) + (h4 86 (Int.toNat x2))))) x2) K))))))) ∧ ((¬ v2 = 0) → (0 ≤ x2 ∧ x2 < 16) ∧ ((0 ≤ jm_w32 ((jm_w32 (2 * x1)) + (h2 86 (Int.toNat x2))) ∧ jm_w32 ((jm_w32 (2 * x1)) + (h2 86 (Int.toNat x2))) < 60) ∧ (((h2 90 (Int.toNat (jm_w32 ((jm_w32 (2 * x1)) + (h2 86 (Int.toNat x2))))) ≤ 1000000) → jm_BV E jm_SH jm_m_Mod_findCover 3 64 [some (jm_R 78), some (jm_I x1), some (jm_I (jm_w32 (x2 + 1))), none, none] [] h2 K) ∧ ((¬ h2 90 (Int.toNat (jm_w32 ((jm_w32 (2 * x1)) + (h2 86 (Int.toNat x2))))) ≤ 1000000) → (0 ≤ jm_w32 ((jm_w32 (2 * x1)) + (h2 86 (Int.toNat x2))) ∧ jm_w32 ((jm_w32 (2 * x1)) + (h2 86 (Int.toNat x2))) < 60) ∧ ((0 ≤ jm_w32 ((jm_w32 (2 * x1)) + (h2 86 (Int.toNat x2))) ∧ jm_w32 ((jm_w32 (2 * x1)) + (h2 86 (Int.toNat x2))) < 60) ∧ (jm_BV E jm_SH jm_m_Mod_findCover 3 64 [some (jm_R 78), some (jm_I x1), some (jm_I (jm_w32 (x2 + 1))), none, none] [] (jm_up (jm_up h2 90 (Int.toNat (jm_w32 ((jm_w32 (2 * x1)) + (h2 86 (Int.toNat x2))))) 1000000) 91 (Int.toNat (jm_w32 ((jm_w32 (2 * x1)) + (h2 86 (Int.toNat x2))))) x2) K))))))))) : jm_BV E jm_SH jm_m_Mod_findCover 3 64 [some (jm_R 78), some (jm_I x1), some (jm_I x2), none, none] [] h K := by
  refine jm_iload_n jd_Mod_findCover_64 rfl rfl ?_
  refine jm_aload_n jd_Mod_findCover_65 rfl rfl ?_
  refine jm_gI jd_Mod_findCover_66 jf_Mod_186 jm_SH_78 ?_
  refine jm_icmp_ge (tgt := 137) jd_Mod_findCover_69 rfl (fun hc1 => ?_) (fun hc1 => ?_)
  · replace H := H.1 hc1
    refine jm_iconst jd_Mod_findCover_137 (jm_o32c rfl) ?_
    refine jm_istore_n (i := 2) jd_Mod_findCover_138 rfl (by decide) (ls2 := [some (jm_R 78), some (jm_I x1), some (jm_I 0), none, none]) rfl ?_
    exact H
  · replace H := H.2 hc1
    refine jm_aload_n jd_Mod_findCover_72 rfl rfl ?_
    refine jm_iload_n jd_Mod_findCover_73 rfl rfl ?_
    refine jm_cV (M' := jm_m_Mod_isChain) (d' := 1) (av := [jm_I x2]) jd_Mod_findCover_74 jk_Mod_isChain jw_1065 rfl (by omega) ⟨rfl, rfl⟩ (by decide) (Nat.le_of_ble_eq_true rfl) jm_SH_78 rfl rfl (jm_hqI (fun v2 h2 H => ?_)) H
    refine jm_if_eq (tgt := 85) jd_Mod_findCover_77 rfl (fun hc3 => ?_) (fun hc3 => ?_)
    · replace H := H.1 hc3
      refine jm_aload_n jd_Mod_findCover_85 rfl rfl ?_
      refine jm_iload_n jd_Mod_findCover_86 rfl rfl ?_
      refine jm_iload_n jd_Mod_findCover_87 rfl rfl ?_
      refine jm_cV (M' := jm_m_Mod_costAt) (d' := 2) (av := [jm_I x2, jm_I x1]) jd_Mod_findCover_88 jk_Mod_costAt jw_1069 rfl (by omega) ⟨rfl, rfl⟩ (by decide) (Nat.le_of_ble_eq_true rfl) jm_SH_78 rfl rfl (jm_hqI (fun v4 h4 H => ?_)) H
      refine jm_istore_n (i := 3) jd_Mod_findCover_91 rfl (by decide) (ls2 := [some (jm_R 78), some (jm_I x1), some (jm_I x2), some (jm_I v4), none]) rfl ?_
      refine jm_iconst jd_Mod_findCover_92 (jm_o32c rfl) ?_
      refine jm_iload_n jd_Mod_findCover_93 rfl rfl ?_
      refine jm_imul jd_Mod_findCover_94 ?_
      refine jm_aload_n jd_Mod_findCover_95 rfl rfl ?_
      refine jm_gR jd_Mod_findCover_96 jf_Mod_31 jm_SH_78 rfl ?_
      refine jm_iload_n jd_Mod_findCover_99 rfl rfl ?_
      obtain ⟨hb5, H⟩ := H
      refine jm_iaload jd_Mod_findCover_100 jm_SH_86 hb5 ?_
      refine jm_iadd jd_Mod_findCover_101 ?_
      refine jm_istore (i := 4) jd_Mod_findCover_102 (by decide) (ls2 := [some (jm_R 78), some (jm_I x1), some (jm_I x2), some (jm_I v4), some (jm_I (jm_w32 ((jm_w32 (2 * x1)) + (h4 86 (Int.toNat x2)))))]) rfl ?_
      refine jm_iload_n jd_Mod_findCover_104 rfl rfl ?_
      refine jm_aload_n jd_Mod_findCover_105 rfl rfl ?_
      refine jm_gR jd_Mod_findCover_106 jf_Mod_43 jm_SH_78 rfl ?_
      refine jm_iload jd_Mod_findCover_109 rfl ?_
      obtain ⟨hb6, H⟩ := H
      refine jm_iaload jd_Mod_findCover_111 jm_SH_90 hb6 ?_
      refine jm_icmp_ge (tgt := 131) jd_Mod_findCover_112 rfl (fun hc7 => ?_) (fun hc7 => ?_)
      · replace H := H.1 hc7
        refine jm_iinc jd_Mod_findCover_131 rfl (by decide) (ls2 := [some (jm_R 78), some (jm_I x1), some (jm_I (jm_w32 (x2 + 1))), some (jm_I v4), some (jm_I (jm_w32 ((jm_w32 (2 * x1)) + (h4 86 (Int.toNat x2)))))]) rfl ?_
        refine jm_goto (tgt := 64) jd_Mod_findCover_134 rfl ?_
        refine jm_keepG [true, true, true, false, false] (ls2 := [some (jm_R 78), some (jm_I x1), some (jm_I (jm_w32 (x2 + 1))), none, none]) (by rfl) (by rfl) ?_
        exact H
      · replace H := H.2 hc7
        refine jm_aload_n jd_Mod_findCover_115 rfl rfl ?_
        refine jm_gR jd_Mod_findCover_116 jf_Mod_43 jm_SH_78 rfl ?_
        refine jm_iload jd_Mod_findCover_119 rfl ?_
        refine jm_iload_n jd_Mod_findCover_121 rfl rfl ?_
        obtain ⟨hb8, H⟩ := H
        refine jm_iastore jd_Mod_findCover_122 jm_SH_90 hb8 ?_
        refine jm_aload_n jd_Mod_findCover_123 rfl rfl ?_
        refine jm_gR jd_Mod_findCover_124 jf_Mod_46 jm_SH_78 rfl ?_
        refine jm_iload jd_Mod_findCover_127 rfl ?_
        refine jm_iload_n jd_Mod_findCover_129 rfl rfl ?_
        obtain ⟨hb9, H⟩ := H
        refine jm_iastore jd_Mod_findCover_130 jm_SH_91 hb9 ?_
        refine jm_iinc jd_Mod_findCover_131 rfl (by decide) (ls2 := [some (jm_R 78), some (jm_I x1), some (jm_I (jm_w32 (x2 + 1))), some (jm_I v4), some (jm_I (jm_w32 ((jm_w32 (2 * x1)) + (h4 86 (Int.toNat x2)))))]) rfl ?_
        refine jm_goto (tgt := 64) jd_Mod_findCover_134 rfl ?_
        refine jm_keepG [true, true, true, false, false] (ls2 := [some (jm_R 78), some (jm_I x1), some (jm_I (jm_w32 (x2 + 1))), none, none]) (by rfl) (by rfl) ?_
        exact H
    · replace H := H.2 hc3
      refine jm_ldc (x := 1000000) jd_Mod_findCover_80 jc_1064 (jm_o32c rfl) ?_
      refine jm_goto (tgt := 91) jd_Mod_findCover_82 rfl ?_
      refine jm_istore_n (i := 3) jd_Mod_findCover_91 rfl (by decide) (ls2 := [some (jm_R 78), some (jm_I x1), some (jm_I x2), some (jm_I 1000000), none]) rfl ?_
      refine jm_iconst jd_Mod_findCover_92 (jm_o32c rfl) ?_
      refine jm_iload_n jd_Mod_findCover_93 rfl rfl ?_
      refine jm_imul jd_Mod_findCover_94 ?_
      refine jm_aload_n jd_Mod_findCover_95 rfl rfl ?_
      refine jm_gR jd_Mod_findCover_96 jf_Mod_31 jm_SH_78 rfl ?_
      refine jm_iload_n jd_Mod_findCover_99 rfl rfl ?_
      obtain ⟨hb10, H⟩ := H
      refine jm_iaload jd_Mod_findCover_100 jm_SH_86 hb10 ?_
      refine jm_iadd jd_Mod_findCover_101 ?_
      refine jm_istore (i := 4) jd_Mod_findCover_102 (by decide) (ls2 := [some (jm_R 78), some (jm_I x1), some (jm_I x2), some (jm_I 1000000), some (jm_I (jm_w32 ((jm_w32 (2 * x1)) + (h2 86 (Int.toNat x2)))))]) rfl ?_
      refine jm_iload_n jd_Mod_findCover_104 rfl rfl ?_
      refine jm_aload_n jd_Mod_findCover_105 rfl rfl ?_
      refine jm_gR jd_Mod_findCover_106 jf_Mod_43 jm_SH_78 rfl ?_
      refine jm_iload jd_Mod_findCover_109 rfl ?_
      obtain ⟨hb11, H⟩ := H
      refine jm_iaload jd_Mod_findCover_111 jm_SH_90 hb11 ?_
      refine jm_icmp_ge (tgt := 131) jd_Mod_findCover_112 rfl (fun hc12 => ?_) (fun hc12 => ?_)
      · replace H := H.1 hc12
        refine jm_iinc jd_Mod_findCover_131 rfl (by decide) (ls2 := [some (jm_R 78), some (jm_I x1), some (jm_I (jm_w32 (x2 + 1))), some (jm_I 1000000), some (jm_I (jm_w32 ((jm_w32 (2 * x1)) + (h2 86 (Int.toNat x2)))))]) rfl ?_
        refine jm_goto (tgt := 64) jd_Mod_findCover_134 rfl ?_
        refine jm_keepG [true, true, true, false, false] (ls2 := [some (jm_R 78), some (jm_I x1), some (jm_I (jm_w32 (x2 + 1))), none, none]) (by rfl) (by rfl) ?_
        exact H
      · replace H := H.2 hc12
        refine jm_aload_n jd_Mod_findCover_115 rfl rfl ?_
        refine jm_gR jd_Mod_findCover_116 jf_Mod_43 jm_SH_78 rfl ?_
        refine jm_iload jd_Mod_findCover_119 rfl ?_
        refine jm_iload_n jd_Mod_findCover_121 rfl rfl ?_
        obtain ⟨hb13, H⟩ := H
        refine jm_iastore jd_Mod_findCover_122 jm_SH_90 hb13 ?_
        refine jm_aload_n jd_Mod_findCover_123 rfl rfl ?_
        refine jm_gR jd_Mod_findCover_124 jf_Mod_46 jm_SH_78 rfl ?_
        refine jm_iload jd_Mod_findCover_127 rfl ?_
        refine jm_iload_n jd_Mod_findCover_129 rfl rfl ?_
        obtain ⟨hb14, H⟩ := H
        refine jm_iastore jd_Mod_findCover_130 jm_SH_91 hb14 ?_
        refine jm_iinc jd_Mod_findCover_131 rfl (by decide) (ls2 := [some (jm_R 78), some (jm_I x1), some (jm_I (jm_w32 (x2 + 1))), some (jm_I 1000000), some (jm_I (jm_w32 ((jm_w32 (2 * x1)) + (h2 86 (Int.toNat x2)))))]) rfl ?_
        refine jm_goto (tgt := 64) jd_Mod_findCover_134 rfl ?_
        refine jm_keepG [true, true, true, false, false] (ls2 := [some (jm_R 78), some (jm_I x1), some (jm_I (jm_w32 (x2 + 1))), none, none]) (by rfl) (by rfl) ?_
        exact H
set_option maxRecDepth 4000 in
theorem jb_Mod_findCover_139 {E : jm_Env} {x1 x2 : Int} {h : jm_H} {K : jm_H → Prop} (H : ((h 78 14 ≤ x2) → jm_BV E jm_SH jm_m_Mod_findCover 3 58 [some (jm_R 78), some (jm_I (jm_w32 (x1 + (-1)))), none, none, none] [] h K) ∧ ((¬ h 78 14 ≤ x2) → (0 ≤ x2 ∧ x2 < 16) ∧ (jm_CI E jm_SH jm_m_Mod_isChain 1 [jm_R 78, jm_I x2] h (fun v3 h3 => ((v3 = 0) → (0 ≤ jm_w32 ((jm_w32 (2 * x1)) + (h 86 (Int.toNat x2))) ∧ jm_w32 ((jm_w32 (2 * x1)) + (h 86 (Int.toNat x2))) < 60) ∧ (((¬ h3 91 (Int.toNat (jm_w32 ((jm_w32 (2 * x1)) + (h 86 (Int.toNat x2))))) = x2) → jm_BV E jm_SH jm_m_Mod_findCover 3 218 [some (jm_R 78), some (jm_I x1), some (jm_I x2), some (jm_I (jm_w32 ((jm_w32 (2 * x1)) + (h 86 (Int.toNat x2))))), none] [jm_I 1000000] h3 K) ∧ ((h3 91 (Int.toNat (jm_w32 ((jm_w32 (2 * x1)) + (h 86 (Int.toNat x2))))) = x2) → (0 ≤ jm_w32 ((jm_w32 (2 * x1)) + (h 86 (Int.toNat x2))) ∧ jm_w32 ((jm_w32 (2 * x1)) + (h 86 (Int.toNat x2))) < 60) ∧ (jm_BV E jm_SH jm_m_Mod_findCover 3 218 [some (jm_R 78), some (jm_I x1), some (jm_I x2), some (jm_I (jm_w32 ((jm_w32 (2 * x1)) + (h 86 (Int.toNat x2))))), none] [jm_I (h3 90 (Int.toNat (jm_w32 ((jm_w32 (2 * x1)) + (h 86 (Int.toNat x2))))))] h3 K)))) ∧ ((¬ v3 = 0) → (0 ≤ x2 ∧ x2 < 16) ∧ ((0 ≤ jm_w32 (12 * x2) ∧ jm_w32 (12 * x2) < 192) ∧ (jm_CI E jm_SH jm_m_Mod_headFor 0 [jm_I (h3 88 (Int.toNat (jm_w32 (12 * x2))))] h3 (fun v10 h10 => (0 ≤ jm_w32 ((jm_w32 (2 * x1)) + v10) ∧ jm_w32 ((jm_w32 (2 * x1)) + v10) < 60) ∧ (jm_BV E jm_SH jm_m_Mod_findCover 3 218 [some (jm_R 78), some (jm_I x1), some (jm_I x2), some (jm_I (jm_w32 ((jm_w32 (2 * x1)) + (h 86 (Int.toNat x2))))), none] [jm_I (jm_w32 ((h3 87 (Int.toNat x2)) + (h10 90 (Int.toNat (jm_w32 ((jm_w32 (2 * x1)) + v10))))))] h10 K))))))))) : jm_BV E jm_SH jm_m_Mod_findCover 3 139 [some (jm_R 78), some (jm_I x1), some (jm_I x2), none, none] [] h K := by
  refine jm_iload_n jd_Mod_findCover_139 rfl rfl ?_
  refine jm_aload_n jd_Mod_findCover_140 rfl rfl ?_
  refine jm_gI jd_Mod_findCover_141 jf_Mod_186 jm_SH_78 ?_
  refine jm_icmp_ge (tgt := 252) jd_Mod_findCover_144 rfl (fun hc1 => ?_) (fun hc1 => ?_)
  · replace H := H.1 hc1
    refine jm_iinc jd_Mod_findCover_252 rfl (by decide) (ls2 := [some (jm_R 78), some (jm_I (jm_w32 (x1 + (-1)))), some (jm_I x2), none, none]) rfl ?_
    refine jm_goto (tgt := 58) jd_Mod_findCover_255 rfl ?_
    refine jm_keepG [true, true, false, false, false] (ls2 := [some (jm_R 78), some (jm_I (jm_w32 (x1 + (-1)))), none, none, none]) (by rfl) (by rfl) ?_
    exact H
  · replace H := H.2 hc1
    refine jm_iconst jd_Mod_findCover_147 (jm_o32c rfl) ?_
    refine jm_iload_n jd_Mod_findCover_148 rfl rfl ?_
    refine jm_imul jd_Mod_findCover_149 ?_
    refine jm_aload_n jd_Mod_findCover_150 rfl rfl ?_
    refine jm_gR jd_Mod_findCover_151 jf_Mod_31 jm_SH_78 rfl ?_
    refine jm_iload_n jd_Mod_findCover_154 rfl rfl ?_
    obtain ⟨hb2, H⟩ := H
    refine jm_iaload jd_Mod_findCover_155 jm_SH_86 hb2 ?_
    refine jm_iadd jd_Mod_findCover_156 ?_
    refine jm_istore_n (i := 3) jd_Mod_findCover_157 rfl (by decide) (ls2 := [some (jm_R 78), some (jm_I x1), some (jm_I x2), some (jm_I (jm_w32 ((jm_w32 (2 * x1)) + (h 86 (Int.toNat x2))))), none]) rfl ?_
    refine jm_aload_n jd_Mod_findCover_158 rfl rfl ?_
    refine jm_iload_n jd_Mod_findCover_159 rfl rfl ?_
    refine jm_cV (M' := jm_m_Mod_isChain) (d' := 1) (av := [jm_I x2]) jd_Mod_findCover_160 jk_Mod_isChain jw_1065 rfl (by omega) ⟨rfl, rfl⟩ (by decide) (Nat.le_of_ble_eq_true rfl) jm_SH_78 rfl rfl (jm_hqI (fun v3 h3 H => ?_)) H
    refine jm_if_eq (tgt := 197) jd_Mod_findCover_163 rfl (fun hc4 => ?_) (fun hc4 => ?_)
    · replace H := H.1 hc4
      refine jm_aload_n jd_Mod_findCover_197 rfl rfl ?_
      refine jm_gR jd_Mod_findCover_198 jf_Mod_46 jm_SH_78 rfl ?_
      refine jm_iload_n jd_Mod_findCover_201 rfl rfl ?_
      obtain ⟨hb5, H⟩ := H
      refine jm_iaload jd_Mod_findCover_202 jm_SH_91 hb5 ?_
      refine jm_iload_n jd_Mod_findCover_203 rfl rfl ?_
      refine jm_icmp_ne (tgt := 216) jd_Mod_findCover_204 rfl (fun hc6 => ?_) (fun hc6 => ?_)
      · replace H := H.1 hc6
        refine jm_ldc (x := 1000000) jd_Mod_findCover_216 jc_1064 (jm_o32c rfl) ?_
        exact H
      · replace H := H.2 hc6
        refine jm_aload_n jd_Mod_findCover_207 rfl rfl ?_
        refine jm_gR jd_Mod_findCover_208 jf_Mod_43 jm_SH_78 rfl ?_
        refine jm_iload_n jd_Mod_findCover_211 rfl rfl ?_
        obtain ⟨hb7, H⟩ := H
        refine jm_iaload jd_Mod_findCover_212 jm_SH_90 hb7 ?_
        refine jm_goto (tgt := 218) jd_Mod_findCover_213 rfl ?_
        exact H
    · replace H := H.2 hc4
      refine jm_aload_n jd_Mod_findCover_166 rfl rfl ?_
      refine jm_gR jd_Mod_findCover_167 jf_Mod_34 jm_SH_78 rfl ?_
      refine jm_iload_n jd_Mod_findCover_170 rfl rfl ?_
      obtain ⟨hb8, H⟩ := H
      refine jm_iaload jd_Mod_findCover_171 jm_SH_87 hb8 ?_
      refine jm_aload_n jd_Mod_findCover_172 rfl rfl ?_
      refine jm_gR jd_Mod_findCover_173 jf_Mod_43 jm_SH_78 rfl ?_
      refine jm_iconst jd_Mod_findCover_176 (jm_o32c rfl) ?_
      refine jm_iload_n jd_Mod_findCover_177 rfl rfl ?_
      refine jm_imul jd_Mod_findCover_178 ?_
      refine jm_aload_n jd_Mod_findCover_179 rfl rfl ?_
      refine jm_gR jd_Mod_findCover_180 jf_Mod_37 jm_SH_78 rfl ?_
      refine jm_bipush jd_Mod_findCover_183 jb_12 ?_
      refine jm_iload_n jd_Mod_findCover_185 rfl rfl ?_
      refine jm_imul jd_Mod_findCover_186 ?_
      obtain ⟨hb9, H⟩ := H
      refine jm_iaload jd_Mod_findCover_187 jm_SH_88 hb9 ?_
      refine jm_cS (M' := jm_m_Mod_headFor) (d' := 0) (av := [jm_I (h3 88 (Int.toNat (jm_w32 (12 * x2))))]) jd_Mod_findCover_188 jk_Mod_headFor jw_1045 rfl (by omega) ⟨rfl, rfl⟩ (by decide) (Nat.le_of_ble_eq_true rfl) (jm_hqI (fun v10 h10 H => ?_)) H
      refine jm_iadd jd_Mod_findCover_191 ?_
      obtain ⟨hb11, H⟩ := H
      refine jm_iaload jd_Mod_findCover_192 jm_SH_90 hb11 ?_
      refine jm_iadd jd_Mod_findCover_193 ?_
      refine jm_goto (tgt := 218) jd_Mod_findCover_194 rfl ?_
      exact H
set_option maxRecDepth 4000 in
theorem jb_Mod_findCover_218 {E : jm_Env} {x1 x2 x3 s0 : Int} {h : jm_H} {K : jm_H → Prop} (H : (0 ≤ x3 ∧ x3 < 60) ∧ (((h 92 (Int.toNat x3) ≤ s0) → jm_BV E jm_SH jm_m_Mod_findCover 3 139 [some (jm_R 78), some (jm_I x1), some (jm_I (jm_w32 (x2 + 1))), none, none] [] h K) ∧ ((¬ h 92 (Int.toNat x3) ≤ s0) → (0 ≤ x3 ∧ x3 < 60) ∧ ((0 ≤ x3 ∧ x3 < 60) ∧ (jm_BV E jm_SH jm_m_Mod_findCover 3 139 [some (jm_R 78), some (jm_I x1), some (jm_I (jm_w32 (x2 + 1))), none, none] [] (jm_up (jm_up h 92 (Int.toNat x3) s0) 93 (Int.toNat x3) x2) K))))) : jm_BV E jm_SH jm_m_Mod_findCover 3 218 [some (jm_R 78), some (jm_I x1), some (jm_I x2), some (jm_I x3), none] [jm_I s0] h K := by
  refine jm_istore (i := 4) jd_Mod_findCover_218 (by decide) (ls2 := [some (jm_R 78), some (jm_I x1), some (jm_I x2), some (jm_I x3), some (jm_I s0)]) rfl ?_
  refine jm_iload jd_Mod_findCover_220 rfl ?_
  refine jm_aload_n jd_Mod_findCover_222 rfl rfl ?_
  refine jm_gR jd_Mod_findCover_223 jf_Mod_49 jm_SH_78 rfl ?_
  refine jm_iload_n jd_Mod_findCover_226 rfl rfl ?_
  obtain ⟨hb1, H⟩ := H
  refine jm_iaload jd_Mod_findCover_227 jm_SH_92 hb1 ?_
  refine jm_icmp_ge (tgt := 246) jd_Mod_findCover_228 rfl (fun hc2 => ?_) (fun hc2 => ?_)
  · replace H := H.1 hc2
    refine jm_iinc jd_Mod_findCover_246 rfl (by decide) (ls2 := [some (jm_R 78), some (jm_I x1), some (jm_I (jm_w32 (x2 + 1))), some (jm_I x3), some (jm_I s0)]) rfl ?_
    refine jm_goto (tgt := 139) jd_Mod_findCover_249 rfl ?_
    refine jm_keepG [true, true, true, false, false] (ls2 := [some (jm_R 78), some (jm_I x1), some (jm_I (jm_w32 (x2 + 1))), none, none]) (by rfl) (by rfl) ?_
    exact H
  · replace H := H.2 hc2
    refine jm_aload_n jd_Mod_findCover_231 rfl rfl ?_
    refine jm_gR jd_Mod_findCover_232 jf_Mod_49 jm_SH_78 rfl ?_
    refine jm_iload_n jd_Mod_findCover_235 rfl rfl ?_
    refine jm_iload jd_Mod_findCover_236 rfl ?_
    obtain ⟨hb3, H⟩ := H
    refine jm_iastore jd_Mod_findCover_238 jm_SH_92 hb3 ?_
    refine jm_aload_n jd_Mod_findCover_239 rfl rfl ?_
    refine jm_gR jd_Mod_findCover_240 jf_Mod_52 jm_SH_78 rfl ?_
    refine jm_iload_n jd_Mod_findCover_243 rfl rfl ?_
    refine jm_iload_n jd_Mod_findCover_244 rfl rfl ?_
    obtain ⟨hb4, H⟩ := H
    refine jm_iastore jd_Mod_findCover_245 jm_SH_93 hb4 ?_
    refine jm_iinc jd_Mod_findCover_246 rfl (by decide) (ls2 := [some (jm_R 78), some (jm_I x1), some (jm_I (jm_w32 (x2 + 1))), some (jm_I x3), some (jm_I s0)]) rfl ?_
    refine jm_goto (tgt := 139) jd_Mod_findCover_249 rfl ?_
    refine jm_keepG [true, true, true, false, false] (ls2 := [some (jm_R 78), some (jm_I x1), some (jm_I (jm_w32 (x2 + 1))), none, none]) (by rfl) (by rfl) ?_
    exact H
