set_option maxRecDepth 4000 in
theorem jb_Mod_cover {E : jm_Env} {x1 x2 x3 : Int} {h : jm_H} {K : Int → jm_H → Prop} (H : jm_CI E jm_SH jm_m_Mod_isNode 1 [jm_R 78, jm_I x1] h (fun v1 h1 => ((¬ v1 = 0) → jm_CI E jm_SH jm_m_Mod_isHead 1 [jm_I x2] h1 (fun v3 h3 => ((v3 = 0) → K (-2) h3) ∧ ((¬ v3 = 0) → jm_CI E jm_SH jm_m_Mod_in 0 [jm_L x3, jm_L 0, jm_L 1] h3 (fun v5 h5 => ((¬ v5 = 0) → jm_CV E jm_SH jm_m_Mod_findCover 3 [jm_R 78] h5 (fun h7 => (0 ≤ jm_w32 ((jm_w32 (2 * x1)) + x2) ∧ jm_w32 ((jm_w32 (2 * x1)) + x2) < 60) ∧ (((0 ≤ h7 93 (Int.toNat (jm_w32 ((jm_w32 (2 * x1)) + x2)))) → ((¬ x3 = 0) → (0 ≤ jm_w32 ((jm_w32 (2 * x1)) + x2) ∧ jm_w32 ((jm_w32 (2 * x1)) + x2) < 60) ∧ (K (h7 93 (Int.toNat (jm_w32 ((jm_w32 (2 * x1)) + x2)))) h7)) ∧ ((x3 = 0) → (0 ≤ jm_w32 ((jm_w32 (2 * x1)) + x2) ∧ jm_w32 ((jm_w32 (2 * x1)) + x2) < 60) ∧ (K (h7 92 (Int.toNat (jm_w32 ((jm_w32 (2 * x1)) + x2)))) h7))) ∧ ((¬ 0 ≤ h7 93 (Int.toNat (jm_w32 ((jm_w32 (2 * x1)) + x2)))) → K (-6) h7)))) ∧ ((v5 = 0) → K (-2) h5))))) ∧ ((v1 = 0) → K (-1) h1))) : jm_CI E jm_SH jm_m_Mod_cover 4 [jm_R 78, jm_I x1, jm_I x2, jm_I x3] h K := by
  refine jm_body (ls0 := [some (jm_R 78), some (jm_I x1), some (jm_I x2), some (jm_I x3), none]) (by decide +kernel) rfl rfl (Nat.le_of_ble_eq_true rfl) ?_
  refine jm_aload_n jd_Mod_cover_0 rfl rfl ?_
  refine jm_iload_n jd_Mod_cover_1 rfl rfl ?_
  refine jm_cV (M' := jm_m_Mod_isNode) (d' := 1) (av := [jm_I x1]) jd_Mod_cover_2 jk_Mod_isNode jw_1025 rfl (by omega) ⟨rfl, rfl⟩ (by decide) (Nat.le_of_ble_eq_true rfl) jm_SH_78 rfl rfl (jm_hqI (fun v1 h1 H => ?_)) H
  refine jm_if_ne (tgt := 10) jd_Mod_cover_5 rfl (fun hc2 => ?_) (fun hc2 => ?_)
  · replace H := H.1 hc2
    refine jm_iload_n jd_Mod_cover_10 rfl rfl ?_
    refine jm_cS (M' := jm_m_Mod_isHead) (d' := 1) (av := [jm_I x2]) jd_Mod_cover_11 jk_Mod_isHead jw_1041 rfl (by omega) ⟨rfl, rfl⟩ (by decide) (Nat.le_of_ble_eq_true rfl) (jm_hqI (fun v3 h3 H => ?_)) H
    refine jm_if_eq (tgt := 27) jd_Mod_cover_14 rfl (fun hc4 => ?_) (fun hc4 => ?_)
    · replace H := H.1 hc4
      refine jm_bipush jd_Mod_cover_27 jb_m2 ?_
      exact jm_ireturn jd_Mod_cover_29 rfl (by decide) ⟨rfl, _, rfl, H⟩
    · replace H := H.2 hc4
      refine jm_iload_n jd_Mod_cover_17 rfl rfl ?_
      refine jm_i2l jd_Mod_cover_18 ?_
      refine jm_lconst (x := 0) jd_Mod_cover_19 ⟨by decide, jm_o64c rfl⟩ ?_
      refine jm_lconst (x := 1) jd_Mod_cover_20 ⟨by decide, jm_o64c rfl⟩ ?_
      refine jm_cS (M' := jm_m_Mod_in) (d' := 0) (av := [jm_L x3, jm_L 0, jm_L 1]) jd_Mod_cover_21 jk_Mod_in jw_978 rfl (by omega) ⟨rfl, rfl⟩ (by decide) (Nat.le_of_ble_eq_true rfl) (jm_hqI (fun v5 h5 H => ?_)) H
      refine jm_if_ne (tgt := 30) jd_Mod_cover_24 rfl (fun hc6 => ?_) (fun hc6 => ?_)
      · replace H := H.1 hc6
        refine jm_aload_n jd_Mod_cover_30 rfl rfl ?_
        refine jm_cV (M' := jm_m_Mod_findCover) (d' := 3) (av := []) jd_Mod_cover_31 jk_Mod_findCover jw_1060 rfl (by omega) ⟨rfl, rfl⟩ (by decide) (Nat.le_of_ble_eq_true rfl) jm_SH_78 rfl rfl (jm_hqV (fun h7 H => ?_)) H
        refine jm_iconst jd_Mod_cover_34 (jm_o32c rfl) ?_
        refine jm_iload_n jd_Mod_cover_35 rfl rfl ?_
        refine jm_imul jd_Mod_cover_36 ?_
        refine jm_iload_n jd_Mod_cover_37 rfl rfl ?_
        refine jm_iadd jd_Mod_cover_38 ?_
        refine jm_istore (i := 4) jd_Mod_cover_39 (by decide) (ls2 := [some (jm_R 78), some (jm_I x1), some (jm_I x2), some (jm_I x3), some (jm_I (jm_w32 ((jm_w32 (2 * x1)) + x2)))]) rfl ?_
        refine jm_aload_n jd_Mod_cover_41 rfl rfl ?_
        refine jm_gR jd_Mod_cover_42 jf_Mod_52 jm_SH_78 rfl ?_
        refine jm_iload jd_Mod_cover_45 rfl ?_
        obtain ⟨hb8, H⟩ := H
        refine jm_iaload jd_Mod_cover_47 jm_SH_93 hb8 ?_
        refine jm_if_ge (tgt := 56) jd_Mod_cover_48 rfl (fun hc9 => ?_) (fun hc9 => ?_)
        · replace H := H.1 hc9
          refine jm_iload_n jd_Mod_cover_56 rfl rfl ?_
          refine jm_if_ne (tgt := 70) jd_Mod_cover_57 rfl (fun hc10 => ?_) (fun hc10 => ?_)
          · replace H := H.1 hc10
            refine jm_aload_n jd_Mod_cover_70 rfl rfl ?_
            refine jm_gR jd_Mod_cover_71 jf_Mod_52 jm_SH_78 rfl ?_
            refine jm_iload jd_Mod_cover_74 rfl ?_
            obtain ⟨hb11, H⟩ := H
            refine jm_iaload jd_Mod_cover_76 jm_SH_93 hb11 ?_
            exact jm_ireturn jd_Mod_cover_77 rfl (by decide) ⟨rfl, _, rfl, H⟩
          · replace H := H.2 hc10
            refine jm_aload_n jd_Mod_cover_60 rfl rfl ?_
            refine jm_gR jd_Mod_cover_61 jf_Mod_49 jm_SH_78 rfl ?_
            refine jm_iload jd_Mod_cover_64 rfl ?_
            obtain ⟨hb12, H⟩ := H
            refine jm_iaload jd_Mod_cover_66 jm_SH_92 hb12 ?_
            refine jm_goto (tgt := 77) jd_Mod_cover_67 rfl ?_
            exact jm_ireturn jd_Mod_cover_77 rfl (by decide) ⟨rfl, _, rfl, H⟩
        · replace H := H.2 hc9
          refine jm_bipush jd_Mod_cover_51 jb_m6 ?_
          refine jm_goto (tgt := 77) jd_Mod_cover_53 rfl ?_
          exact jm_ireturn jd_Mod_cover_77 rfl (by decide) ⟨rfl, _, rfl, H⟩
      · replace H := H.2 hc6
        refine jm_bipush jd_Mod_cover_27 jb_m2 ?_
        exact jm_ireturn jd_Mod_cover_29 rfl (by decide) ⟨rfl, _, rfl, H⟩
  · replace H := H.2 hc2
    refine jm_iconst jd_Mod_cover_8 (jm_o32c rfl) ?_
    exact jm_ireturn jd_Mod_cover_9 rfl (by decide) ⟨rfl, _, rfl, H⟩
set_option maxRecDepth 4000 in
theorem jb_Mod_later {E : jm_Env} {x1 x2 x3 : Int} {h : jm_H} {K : jm_H → Prop} (H : (0 ≤ h 78 22 ∧ h 78 22 < 200) ∧ ((0 ≤ h 78 22 ∧ h 78 22 < 200) ∧ ((0 ≤ h 78 22 ∧ h 78 22 < 200) ∧ (K (jm_up (jm_up (jm_up (jm_up h 94 (Int.toNat (h 78 22)) x1) 95 (Int.toNat (h 78 22)) x2) 96 (Int.toNat (h 78 22)) x3) 78 22 (jm_w32 ((h 78 22) + 1))))))) : jm_CV E jm_SH jm_m_Mod_later 0 [jm_R 78, jm_I x1, jm_I x2, jm_I x3] h K := by
  refine jm_body (ls0 := [some (jm_R 78), some (jm_I x1), some (jm_I x2), some (jm_I x3)]) (by decide +kernel) rfl rfl (Nat.le_of_ble_eq_true rfl) ?_
  refine jm_aload_n jd_Mod_later_0 rfl rfl ?_
  refine jm_gR jd_Mod_later_1 jf_Mod_55 jm_SH_78 rfl ?_
  refine jm_aload_n jd_Mod_later_4 rfl rfl ?_
  refine jm_gI jd_Mod_later_5 jf_Mod_203 jm_SH_78 ?_
  refine jm_iload_n jd_Mod_later_8 rfl rfl ?_
  obtain ⟨hb1, H⟩ := H
  refine jm_iastore jd_Mod_later_9 jm_SH_94 hb1 ?_
  refine jm_aload_n jd_Mod_later_10 rfl rfl ?_
  refine jm_gR jd_Mod_later_11 jf_Mod_58 jm_SH_78 rfl ?_
  refine jm_aload_n jd_Mod_later_14 rfl rfl ?_
  refine jm_gI jd_Mod_later_15 jf_Mod_203 jm_SH_78 ?_
  refine jm_topI (y := h 78 22) rfl ?_
  refine jm_iload_n jd_Mod_later_18 rfl rfl ?_
  obtain ⟨hb2, H⟩ := H
  refine jm_iastore jd_Mod_later_19 jm_SH_95 hb2 ?_
  refine jm_aload_n jd_Mod_later_20 rfl rfl ?_
  refine jm_gR jd_Mod_later_21 jf_Mod_61 jm_SH_78 rfl ?_
  refine jm_aload_n jd_Mod_later_24 rfl rfl ?_
  refine jm_gI jd_Mod_later_25 jf_Mod_203 jm_SH_78 ?_
  refine jm_topI (y := h 78 22) rfl ?_
  refine jm_iload_n jd_Mod_later_28 rfl rfl ?_
  obtain ⟨hb3, H⟩ := H
  refine jm_iastore jd_Mod_later_29 jm_SH_96 hb3 ?_
  refine jm_aload_n jd_Mod_later_30 rfl rfl ?_
  refine jm_dup jd_Mod_later_31 rfl ?_
  refine jm_gI jd_Mod_later_32 jf_Mod_203 jm_SH_78 ?_
  refine jm_topI (y := h 78 22) rfl ?_
  refine jm_iconst jd_Mod_later_35 (jm_o32c rfl) ?_
  refine jm_iadd jd_Mod_later_36 ?_
  refine jm_sI jd_Mod_later_37 jp_Mod_203 jm_SH_78 ?_
  exact jm_vreturn jd_Mod_later_40 rfl (by decide) ⟨rfl, rfl, H⟩
set_option maxRecDepth 4000 in
theorem jb_Mod_laterParts {E : jm_Env} {x1 x2 : Int} {h : jm_H} {K : jm_H → Prop} (H : jm_CI E jm_SH jm_m_Mod_isChain 1 [jm_R 78, jm_I x1] h (fun v1 h1 => ((v1 = 0) → jm_BV E jm_SH jm_m_Mod_laterParts 2 41 [some (jm_R 78), some (jm_I x1), none, some (jm_I (h1 78 22)), some (jm_I x2), some (jm_I 0), none, none, none] [] h1 K) ∧ ((¬ v1 = 0) → (0 ≤ jm_w32 (12 * x1) ∧ jm_w32 (12 * x1) < 192) ∧ (jm_CI E jm_SH jm_m_Mod_headFor 0 [jm_I (h1 88 (Int.toNat (jm_w32 (12 * x1))))] h1 (fun v4 h4 => jm_CV E jm_SH jm_m_Mod_later 0 [jm_R 78, jm_I x2, jm_I (jm_w32 (2 + v4)), jm_I (-6)] h4 (fun h5 => K h5)))))) : jm_CV E jm_SH jm_m_Mod_laterParts 2 [jm_R 78, jm_I x1, jm_I x2] h K := by
  refine jm_body (ls0 := [some (jm_R 78), some (jm_I x1), some (jm_I x2), none, none, none, none, none, none]) (by decide +kernel) rfl rfl (Nat.le_of_ble_eq_true rfl) ?_
  refine jm_aload_n jd_Mod_laterParts_0 rfl rfl ?_
  refine jm_iload_n jd_Mod_laterParts_1 rfl rfl ?_
  refine jm_cV (M' := jm_m_Mod_isChain) (d' := 1) (av := [jm_I x1]) jd_Mod_laterParts_2 jk_Mod_isChain jw_1065 rfl (by omega) ⟨rfl, rfl⟩ (by decide) (Nat.le_of_ble_eq_true rfl) jm_SH_78 rfl rfl (jm_hqI (fun v1 h1 H => ?_)) H
  refine jm_if_eq (tgt := 30) jd_Mod_laterParts_5 rfl (fun hc2 => ?_) (fun hc2 => ?_)
  · replace H := H.1 hc2
    refine jm_aload_n jd_Mod_laterParts_30 rfl rfl ?_
    refine jm_gI jd_Mod_laterParts_31 jf_Mod_203 jm_SH_78 ?_
    refine jm_istore_n (i := 3) jd_Mod_laterParts_34 rfl (by decide) (ls2 := [some (jm_R 78), some (jm_I x1), some (jm_I x2), some (jm_I (h1 78 22)), none, none, none, none, none]) rfl ?_
    refine jm_iload_n jd_Mod_laterParts_35 rfl rfl ?_
    refine jm_istore (i := 4) jd_Mod_laterParts_36 (by decide) (ls2 := [some (jm_R 78), some (jm_I x1), some (jm_I x2), some (jm_I (h1 78 22)), some (jm_I x2), none, none, none, none]) rfl ?_
    refine jm_iconst jd_Mod_laterParts_38 (jm_o32c rfl) ?_
    refine jm_istore (i := 5) jd_Mod_laterParts_39 (by decide) (ls2 := [some (jm_R 78), some (jm_I x1), some (jm_I x2), some (jm_I (h1 78 22)), some (jm_I x2), some (jm_I 0), none, none, none]) rfl ?_
    refine jm_keepG [true, true, false, true, true, true, false, false, false] (ls2 := [some (jm_R 78), some (jm_I x1), none, some (jm_I (h1 78 22)), some (jm_I x2), some (jm_I 0), none, none, none]) (by rfl) (by rfl) ?_
    exact H
  · replace H := H.2 hc2
    refine jm_aload_n jd_Mod_laterParts_8 rfl rfl ?_
    refine jm_iload_n jd_Mod_laterParts_9 rfl rfl ?_
    refine jm_iconst jd_Mod_laterParts_10 (jm_o32c rfl) ?_
    refine jm_aload_n jd_Mod_laterParts_11 rfl rfl ?_
    refine jm_gR jd_Mod_laterParts_12 jf_Mod_37 jm_SH_78 rfl ?_
    refine jm_bipush jd_Mod_laterParts_15 jb_12 ?_
    refine jm_iload_n jd_Mod_laterParts_17 rfl rfl ?_
    refine jm_imul jd_Mod_laterParts_18 ?_
    obtain ⟨hb3, H⟩ := H
    refine jm_iaload jd_Mod_laterParts_19 jm_SH_88 hb3 ?_
    refine jm_cS (M' := jm_m_Mod_headFor) (d' := 0) (av := [jm_I (h1 88 (Int.toNat (jm_w32 (12 * x1))))]) jd_Mod_laterParts_20 jk_Mod_headFor jw_1045 rfl (by omega) ⟨rfl, rfl⟩ (by decide) (Nat.le_of_ble_eq_true rfl) (jm_hqI (fun v4 h4 H => ?_)) H
    refine jm_iadd jd_Mod_laterParts_23 ?_
    refine jm_bipush jd_Mod_laterParts_24 jb_m6 ?_
    refine jm_cV (M' := jm_m_Mod_later) (d' := 0) (av := [jm_I x2, jm_I (jm_w32 (2 + v4)), jm_I (-6)]) jd_Mod_laterParts_26 jk_Mod_later jw_1081 rfl (by omega) ⟨rfl, rfl⟩ (by decide) (Nat.le_of_ble_eq_true rfl) jm_SH_78 rfl rfl (jm_hqV (fun h5 H => ?_)) H
    exact jm_vreturn jd_Mod_laterParts_29 rfl (by decide) ⟨rfl, rfl, H⟩
set_option maxRecDepth 4000 in
theorem jb_Mod_laterParts_41 {E : jm_Env} {x1 x3 x4 x5 : Int} {h : jm_H} {K : jm_H → Prop} (H : (0 ≤ x1 ∧ x1 < 16) ∧ (((h 89 (Int.toNat x1) ≤ x5) → jm_BV E jm_SH jm_m_Mod_laterParts 2 115 [some (jm_R 78), none, none, none, none, some (jm_I x3), some (jm_I (jm_w32 ((h 78 22) - 1))), none, none] [] h K) ∧ ((¬ h 89 (Int.toNat x1) ≤ x5) → (0 ≤ jm_w32 ((jm_w32 (12 * x1)) + x5) ∧ jm_w32 ((jm_w32 (12 * x1)) + x5) < 192) ∧ (jm_CI E jm_SH jm_m_Mod_headFor 0 [jm_I (h 88 (Int.toNat (jm_w32 ((jm_w32 (12 * x1)) + x5))))] h (fun v4 h4 => ((v4 < 0) → jm_BV E jm_SH jm_m_Mod_laterParts 2 41 [some (jm_R 78), some (jm_I x1), none, some (jm_I x3), some (jm_I (jm_w32 (x4 + 1))), some (jm_I (jm_w32 (x5 + 1))), none, none, none] [] h4 K) ∧ ((¬ v4 < 0) → jm_CV E jm_SH jm_m_Mod_later 0 [jm_R 78, jm_I x4, jm_I v4, jm_I (-6)] h4 (fun h6 => jm_CI E jm_SH jm_m_Mod_endOf 1 [jm_R 78, jm_I x4] h6 (fun v7 h7 => jm_BV E jm_SH jm_m_Mod_laterParts 2 41 [some (jm_R 78), some (jm_I x1), none, some (jm_I x3), some (jm_I v7), some (jm_I (jm_w32 (x5 + 1))), none, none, none] [] h7 K)))))))) : jm_BV E jm_SH jm_m_Mod_laterParts 2 41 [some (jm_R 78), some (jm_I x1), none, some (jm_I x3), some (jm_I x4), some (jm_I x5), none, none, none] [] h K := by
  refine jm_iload jd_Mod_laterParts_41 rfl ?_
  refine jm_aload_n jd_Mod_laterParts_43 rfl rfl ?_
  refine jm_gR jd_Mod_laterParts_44 jf_Mod_40 jm_SH_78 rfl ?_
  refine jm_iload_n jd_Mod_laterParts_47 rfl rfl ?_
  obtain ⟨hb1, H⟩ := H
  refine jm_iaload jd_Mod_laterParts_48 jm_SH_89 hb1 ?_
  refine jm_icmp_ge (tgt := 104) jd_Mod_laterParts_49 rfl (fun hc2 => ?_) (fun hc2 => ?_)
  · replace H := H.1 hc2
    refine jm_iload_n jd_Mod_laterParts_104 rfl rfl ?_
    refine jm_istore (i := 5) jd_Mod_laterParts_105 (by decide) (ls2 := [some (jm_R 78), some (jm_I x1), none, some (jm_I x3), some (jm_I x4), some (jm_I x3), none, none, none]) rfl ?_
    refine jm_aload_n jd_Mod_laterParts_107 rfl rfl ?_
    refine jm_gI jd_Mod_laterParts_108 jf_Mod_203 jm_SH_78 ?_
    refine jm_iconst jd_Mod_laterParts_111 (jm_o32c rfl) ?_
    refine jm_isub jd_Mod_laterParts_112 ?_
    refine jm_istore (i := 6) jd_Mod_laterParts_113 (by decide) (ls2 := [some (jm_R 78), some (jm_I x1), none, some (jm_I x3), some (jm_I x4), some (jm_I x3), some (jm_I (jm_w32 ((h 78 22) - 1))), none, none]) rfl ?_
    refine jm_keepG [true, false, false, false, false, true, true, false, false] (ls2 := [some (jm_R 78), none, none, none, none, some (jm_I x3), some (jm_I (jm_w32 ((h 78 22) - 1))), none, none]) (by rfl) (by rfl) ?_
    exact H
  · replace H := H.2 hc2
    refine jm_aload_n jd_Mod_laterParts_52 rfl rfl ?_
    refine jm_gR jd_Mod_laterParts_53 jf_Mod_37 jm_SH_78 rfl ?_
    refine jm_bipush jd_Mod_laterParts_56 jb_12 ?_
    refine jm_iload_n jd_Mod_laterParts_58 rfl rfl ?_
    refine jm_imul jd_Mod_laterParts_59 ?_
    refine jm_iload jd_Mod_laterParts_60 rfl ?_
    refine jm_iadd jd_Mod_laterParts_62 ?_
    obtain ⟨hb3, H⟩ := H
    refine jm_iaload jd_Mod_laterParts_63 jm_SH_88 hb3 ?_
    refine jm_cS (M' := jm_m_Mod_headFor) (d' := 0) (av := [jm_I (h 88 (Int.toNat (jm_w32 ((jm_w32 (12 * x1)) + x5))))]) jd_Mod_laterParts_64 jk_Mod_headFor jw_1045 rfl (by omega) ⟨rfl, rfl⟩ (by decide) (Nat.le_of_ble_eq_true rfl) (jm_hqI (fun v4 h4 H => ?_)) H
    refine jm_istore (i := 6) jd_Mod_laterParts_67 (by decide) (ls2 := [some (jm_R 78), some (jm_I x1), none, some (jm_I x3), some (jm_I x4), some (jm_I x5), some (jm_I v4), none, none]) rfl ?_
    refine jm_iload jd_Mod_laterParts_69 rfl ?_
    refine jm_if_lt (tgt := 95) jd_Mod_laterParts_71 rfl (fun hc5 => ?_) (fun hc5 => ?_)
    · replace H := H.1 hc5
      refine jm_iinc jd_Mod_laterParts_95 rfl (by decide) (ls2 := [some (jm_R 78), some (jm_I x1), none, some (jm_I x3), some (jm_I (jm_w32 (x4 + 1))), some (jm_I x5), some (jm_I v4), none, none]) rfl ?_
      refine jm_iinc jd_Mod_laterParts_98 rfl (by decide) (ls2 := [some (jm_R 78), some (jm_I x1), none, some (jm_I x3), some (jm_I (jm_w32 (x4 + 1))), some (jm_I (jm_w32 (x5 + 1))), some (jm_I v4), none, none]) rfl ?_
      refine jm_goto (tgt := 41) jd_Mod_laterParts_101 rfl ?_
      refine jm_keepG [true, true, false, true, true, true, false, false, false] (ls2 := [some (jm_R 78), some (jm_I x1), none, some (jm_I x3), some (jm_I (jm_w32 (x4 + 1))), some (jm_I (jm_w32 (x5 + 1))), none, none, none]) (by rfl) (by rfl) ?_
      exact H
    · replace H := H.2 hc5
      refine jm_aload_n jd_Mod_laterParts_74 rfl rfl ?_
      refine jm_iload jd_Mod_laterParts_75 rfl ?_
      refine jm_iload jd_Mod_laterParts_77 rfl ?_
      refine jm_bipush jd_Mod_laterParts_79 jb_m6 ?_
      refine jm_cV (M' := jm_m_Mod_later) (d' := 0) (av := [jm_I x4, jm_I v4, jm_I (-6)]) jd_Mod_laterParts_81 jk_Mod_later jw_1081 rfl (by omega) ⟨rfl, rfl⟩ (by decide) (Nat.le_of_ble_eq_true rfl) jm_SH_78 rfl rfl (jm_hqV (fun h6 H => ?_)) H
      refine jm_aload_n jd_Mod_laterParts_84 rfl rfl ?_
      refine jm_iload jd_Mod_laterParts_85 rfl ?_
      refine jm_cV (M' := jm_m_Mod_endOf) (d' := 1) (av := [jm_I x4]) jd_Mod_laterParts_87 jk_Mod_endOf jw_1033 rfl (by omega) ⟨rfl, rfl⟩ (by decide) (Nat.le_of_ble_eq_true rfl) jm_SH_78 rfl rfl (jm_hqI (fun v7 h7 H => ?_)) H
      refine jm_istore (i := 4) jd_Mod_laterParts_90 (by decide) (ls2 := [some (jm_R 78), some (jm_I x1), none, some (jm_I x3), some (jm_I v7), some (jm_I x5), some (jm_I v4), none, none]) rfl ?_
      refine jm_goto (tgt := 98) jd_Mod_laterParts_92 rfl ?_
      refine jm_iinc jd_Mod_laterParts_98 rfl (by decide) (ls2 := [some (jm_R 78), some (jm_I x1), none, some (jm_I x3), some (jm_I v7), some (jm_I (jm_w32 (x5 + 1))), some (jm_I v4), none, none]) rfl ?_
      refine jm_goto (tgt := 41) jd_Mod_laterParts_101 rfl ?_
      refine jm_keepG [true, true, false, true, true, true, false, false, false] (ls2 := [some (jm_R 78), some (jm_I x1), none, some (jm_I x3), some (jm_I v7), some (jm_I (jm_w32 (x5 + 1))), none, none, none]) (by rfl) (by rfl) ?_
      exact H
set_option maxRecDepth 4000 in
theorem jb_Mod_laterParts_115 {E : jm_Env} {x5 x6 : Int} {h : jm_H} {K : jm_H → Prop} (H : ((x6 ≤ x5) → K h) ∧ ((¬ x6 ≤ x5) → (0 ≤ x5 ∧ x5 < 200) ∧ ((0 ≤ x5 ∧ x5 < 200) ∧ ((0 ≤ x6 ∧ x6 < 200) ∧ ((0 ≤ x5 ∧ x5 < 200) ∧ ((0 ≤ x6 ∧ x6 < 200) ∧ ((0 ≤ x5 ∧ x5 < 200) ∧ ((0 ≤ x6 ∧ x6 < 200) ∧ ((0 ≤ x6 ∧ x6 < 200) ∧ (jm_BV E jm_SH jm_m_Mod_laterParts 2 115 [some (jm_R 78), none, none, none, none, some (jm_I (jm_w32 (x5 + 1))), some (jm_I (jm_w32 (x6 + (-1)))), none, none] [] (jm_up (jm_up (jm_up (jm_up h 94 (Int.toNat x5) (h 94 (Int.toNat x6))) 95 (Int.toNat x5) (h 95 (Int.toNat x6))) 94 (Int.toNat x6) (h 94 (Int.toNat x5))) 95 (Int.toNat x6) (h 95 (Int.toNat x5))) K)))))))))) : jm_BV E jm_SH jm_m_Mod_laterParts 2 115 [some (jm_R 78), none, none, none, none, some (jm_I x5), some (jm_I x6), none, none] [] h K := by
  refine jm_iload jd_Mod_laterParts_115 rfl ?_
  refine jm_iload jd_Mod_laterParts_117 rfl ?_
  refine jm_icmp_ge (tgt := 195) jd_Mod_laterParts_119 rfl (fun hc1 => ?_) (fun hc1 => ?_)
  · replace H := H.1 hc1
    exact jm_vreturn jd_Mod_laterParts_195 rfl (by decide) ⟨rfl, rfl, H⟩
  · replace H := H.2 hc1
    refine jm_aload_n jd_Mod_laterParts_122 rfl rfl ?_
    refine jm_gR jd_Mod_laterParts_123 jf_Mod_55 jm_SH_78 rfl ?_
    refine jm_iload jd_Mod_laterParts_126 rfl ?_
    obtain ⟨hb2, H⟩ := H
    refine jm_iaload jd_Mod_laterParts_128 jm_SH_94 hb2 ?_
    refine jm_istore (i := 7) jd_Mod_laterParts_129 (by decide) (ls2 := [some (jm_R 78), none, none, none, none, some (jm_I x5), some (jm_I x6), some (jm_I (h 94 (Int.toNat x5))), none]) rfl ?_
    refine jm_aload_n jd_Mod_laterParts_131 rfl rfl ?_
    refine jm_gR jd_Mod_laterParts_132 jf_Mod_58 jm_SH_78 rfl ?_
    refine jm_iload jd_Mod_laterParts_135 rfl ?_
    obtain ⟨hb3, H⟩ := H
    refine jm_iaload jd_Mod_laterParts_137 jm_SH_95 hb3 ?_
    refine jm_istore (i := 8) jd_Mod_laterParts_138 (by decide) (ls2 := [some (jm_R 78), none, none, none, none, some (jm_I x5), some (jm_I x6), some (jm_I (h 94 (Int.toNat x5))), some (jm_I (h 95 (Int.toNat x5)))]) rfl ?_
    refine jm_aload_n jd_Mod_laterParts_140 rfl rfl ?_
    refine jm_gR jd_Mod_laterParts_141 jf_Mod_55 jm_SH_78 rfl ?_
    refine jm_iload jd_Mod_laterParts_144 rfl ?_
    refine jm_aload_n jd_Mod_laterParts_146 rfl rfl ?_
    refine jm_gR jd_Mod_laterParts_147 jf_Mod_55 jm_SH_78 rfl ?_
    refine jm_iload jd_Mod_laterParts_150 rfl ?_
    obtain ⟨hb4, H⟩ := H
    refine jm_iaload jd_Mod_laterParts_152 jm_SH_94 hb4 ?_
    obtain ⟨hb5, H⟩ := H
    refine jm_iastore jd_Mod_laterParts_153 jm_SH_94 hb5 ?_
    refine jm_aload_n jd_Mod_laterParts_154 rfl rfl ?_
    refine jm_gR jd_Mod_laterParts_155 jf_Mod_58 jm_SH_78 rfl ?_
    refine jm_iload jd_Mod_laterParts_158 rfl ?_
    refine jm_aload_n jd_Mod_laterParts_160 rfl rfl ?_
    refine jm_gR jd_Mod_laterParts_161 jf_Mod_58 jm_SH_78 rfl ?_
    refine jm_iload jd_Mod_laterParts_164 rfl ?_
    obtain ⟨hb6, H⟩ := H
    refine jm_iaload jd_Mod_laterParts_166 jm_SH_95 hb6 ?_
    refine jm_topI (y := h 95 (Int.toNat x6)) rfl ?_
    obtain ⟨hb7, H⟩ := H
    refine jm_iastore jd_Mod_laterParts_167 jm_SH_95 hb7 ?_
    refine jm_aload_n jd_Mod_laterParts_168 rfl rfl ?_
    refine jm_gR jd_Mod_laterParts_169 jf_Mod_55 jm_SH_78 rfl ?_
    refine jm_iload jd_Mod_laterParts_172 rfl ?_
    refine jm_iload jd_Mod_laterParts_174 rfl ?_
    obtain ⟨hb8, H⟩ := H
    refine jm_iastore jd_Mod_laterParts_176 jm_SH_94 hb8 ?_
    refine jm_aload_n jd_Mod_laterParts_177 rfl rfl ?_
    refine jm_gR jd_Mod_laterParts_178 jf_Mod_58 jm_SH_78 rfl ?_
    refine jm_iload jd_Mod_laterParts_181 rfl ?_
    refine jm_iload jd_Mod_laterParts_183 rfl ?_
    obtain ⟨hb9, H⟩ := H
    refine jm_iastore jd_Mod_laterParts_185 jm_SH_95 hb9 ?_
    refine jm_iinc jd_Mod_laterParts_186 rfl (by decide) (ls2 := [some (jm_R 78), none, none, none, none, some (jm_I (jm_w32 (x5 + 1))), some (jm_I x6), some (jm_I (h 94 (Int.toNat x5))), some (jm_I (h 95 (Int.toNat x5)))]) rfl ?_
    refine jm_iinc jd_Mod_laterParts_189 rfl (by decide) (ls2 := [some (jm_R 78), none, none, none, none, some (jm_I (jm_w32 (x5 + 1))), some (jm_I (jm_w32 (x6 + (-1)))), some (jm_I (h 94 (Int.toNat x5))), some (jm_I (h 95 (Int.toNat x5)))]) rfl ?_
    refine jm_goto (tgt := 115) jd_Mod_laterParts_192 rfl ?_
    refine jm_keepG [true, false, false, false, false, true, true, false, false] (ls2 := [some (jm_R 78), none, none, none, none, some (jm_I (jm_w32 (x5 + 1))), some (jm_I (jm_w32 (x6 + (-1)))), none, none]) (by rfl) (by rfl) ?_
    exact H
set_option maxRecDepth 4000 in
theorem jb_Mod_findCode {E : jm_Env} {h : jm_H} {K : jm_H → Prop} (H : jm_CV E jm_SH jm_m_Mod_later 0 [jm_R 78, jm_I 0, jm_I 0, jm_I (-6)] (jm_up (jm_up h 78 25 0) 78 22 0) (fun h1 => jm_BV E jm_SH jm_m_Mod_findCode 3 18 [some (jm_R 78), none, none, none] [] h1 K)) : jm_CV E jm_SH jm_m_Mod_findCode 3 [jm_R 78] h K := by
  refine jm_body (ls0 := [some (jm_R 78), none, none, none]) (by decide +kernel) rfl rfl (Nat.le_of_ble_eq_true rfl) ?_
  refine jm_aload_n jd_Mod_findCode_0 rfl rfl ?_
  refine jm_iconst jd_Mod_findCode_1 (jm_o32c rfl) ?_
  refine jm_sI jd_Mod_findCode_2 jp_Mod_210 jm_SH_78 ?_
  refine jm_aload_n jd_Mod_findCode_5 rfl rfl ?_
  refine jm_iconst jd_Mod_findCode_6 (jm_o32c rfl) ?_
  refine jm_sI jd_Mod_findCode_7 jp_Mod_203 jm_SH_78 ?_
  refine jm_aload_n jd_Mod_findCode_10 rfl rfl ?_
  refine jm_iconst jd_Mod_findCode_11 (jm_o32c rfl) ?_
  refine jm_iconst jd_Mod_findCode_12 (jm_o32c rfl) ?_
  refine jm_bipush jd_Mod_findCode_13 jb_m6 ?_
  refine jm_cV (M' := jm_m_Mod_later) (d' := 0) (av := [jm_I 0, jm_I 0, jm_I (-6)]) jd_Mod_findCode_15 jk_Mod_later jw_1081 rfl (by omega) ⟨rfl, rfl⟩ (by decide) (Nat.le_of_ble_eq_true rfl) jm_SH_78 rfl rfl (jm_hqV (fun h1 H => ?_)) H
  exact H
set_option maxRecDepth 4000 in
theorem jb_Mod_findCode_18 {E : jm_Env} {h : jm_H} {K : jm_H → Prop} (H : ((h 78 22 ≤ 0) → K h) ∧ ((¬ h 78 22 ≤ 0) → (0 ≤ jm_w32 ((h 78 22) - 1) ∧ jm_w32 ((h 78 22) - 1) < 200) ∧ ((0 ≤ jm_w32 ((h 78 22) - 1) ∧ jm_w32 ((h 78 22) - 1) < 200) ∧ (((0 ≤ h 95 (Int.toNat (jm_w32 ((h 78 22) - 1)))) → ((2 ≤ h 95 (Int.toNat (jm_w32 ((h 78 22) - 1)))) → (0 ≤ jm_w32 ((jm_w32 ((jm_w32 (2 * (h 94 (Int.toNat (jm_w32 ((h 78 22) - 1)))))) + (h 95 (Int.toNat (jm_w32 ((h 78 22) - 1)))))) - 2) ∧ jm_w32 ((jm_w32 ((jm_w32 (2 * (h 94 (Int.toNat (jm_w32 ((h 78 22) - 1)))))) + (h 95 (Int.toNat (jm_w32 ((h 78 22) - 1)))))) - 2) < 60) ∧ (jm_CV E jm_SH jm_m_Mod_later 0 [jm_R 78, jm_I (h 94 (Int.toNat (jm_w32 ((h 78 22) - 1)))), jm_I (-1), jm_I (h 91 (Int.toNat (jm_w32 ((jm_w32 ((jm_w32 (2 * (h 94 (Int.toNat (jm_w32 ((h 78 22) - 1)))))) + (h 95 (Int.toNat (jm_w32 ((h 78 22) - 1)))))) - 2))))] (jm_up h 78 22 (jm_w32 ((h 78 22) - 1))) (fun h7 => jm_CV E jm_SH jm_m_Mod_laterParts 2 [jm_R 78, jm_I (h 91 (Int.toNat (jm_w32 ((jm_w32 ((jm_w32 (2 * (h 94 (Int.toNat (jm_w32 ((h 78 22) - 1)))))) + (h 95 (Int.toNat (jm_w32 ((h 78 22) - 1)))))) - 2)))), jm_I (h 94 (Int.toNat (jm_w32 ((h 78 22) - 1))))] h7 (fun h8 => jm_BV E jm_SH jm_m_Mod_findCode 3 18 [some (jm_R 78), none, none, none] [] h8 K)))) ∧ ((¬ 2 ≤ h 95 (Int.toNat (jm_w32 ((h 78 22) - 1)))) → (0 ≤ jm_w32 ((jm_w32 (2 * (h 94 (Int.toNat (jm_w32 ((h 78 22) - 1)))))) + (h 95 (Int.toNat (jm_w32 ((h 78 22) - 1))))) ∧ jm_w32 ((jm_w32 (2 * (h 94 (Int.toNat (jm_w32 ((h 78 22) - 1)))))) + (h 95 (Int.toNat (jm_w32 ((h 78 22) - 1))))) < 60) ∧ (jm_CV E jm_SH jm_m_Mod_later 0 [jm_R 78, jm_I (h 94 (Int.toNat (jm_w32 ((h 78 22) - 1)))), jm_I (-1), jm_I (h 93 (Int.toNat (jm_w32 ((jm_w32 (2 * (h 94 (Int.toNat (jm_w32 ((h 78 22) - 1)))))) + (h 95 (Int.toNat (jm_w32 ((h 78 22) - 1))))))))] (jm_up h 78 22 (jm_w32 ((h 78 22) - 1))) (fun h10 => jm_CV E jm_SH jm_m_Mod_laterParts 2 [jm_R 78, jm_I (h 93 (Int.toNat (jm_w32 ((jm_w32 (2 * (h 94 (Int.toNat (jm_w32 ((h 78 22) - 1)))))) + (h 95 (Int.toNat (jm_w32 ((h 78 22) - 1)))))))), jm_I (h 94 (Int.toNat (jm_w32 ((h 78 22) - 1))))] h10 (fun h11 => jm_BV E jm_SH jm_m_Mod_findCode 3 18 [some (jm_R 78), none, none, none] [] h11 K))))) ∧ ((¬ 0 ≤ h 95 (Int.toNat (jm_w32 ((h 78 22) - 1)))) → (0 ≤ jm_w32 ((h 78 22) - 1) ∧ jm_w32 ((h 78 22) - 1) < 200) ∧ ((0 ≤ h 78 25 ∧ h 78 25 < 100) ∧ ((0 ≤ h 78 25 ∧ h 78 25 < 100) ∧ (jm_BV E jm_SH jm_m_Mod_findCode 3 18 [some (jm_R 78), none, none, none] [] (jm_up (jm_up (jm_up (jm_up h 78 22 (jm_w32 ((h 78 22) - 1))) 97 (Int.toNat (h 78 25)) (h 96 (Int.toNat (jm_w32 ((h 78 22) - 1))))) 98 (Int.toNat (h 78 25)) (h 94 (Int.toNat (jm_w32 ((h 78 22) - 1))))) 78 25 (jm_w32 ((h 78 25) + 1))) K)))))))) : jm_BV E jm_SH jm_m_Mod_findCode 3 18 [some (jm_R 78), none, none, none] [] h K := by
  refine jm_aload_n jd_Mod_findCode_18 rfl rfl ?_
  refine jm_gI jd_Mod_findCode_19 jf_Mod_203 jm_SH_78 ?_
  refine jm_if_le (tgt := 147) jd_Mod_findCode_22 rfl (fun hc1 => ?_) (fun hc1 => ?_)
  · replace H := H.1 hc1
    exact jm_vreturn jd_Mod_findCode_147 rfl (by decide) ⟨rfl, rfl, H⟩
  · replace H := H.2 hc1
    refine jm_aload_n jd_Mod_findCode_25 rfl rfl ?_
    refine jm_dup jd_Mod_findCode_26 rfl ?_
    refine jm_gI jd_Mod_findCode_27 jf_Mod_203 jm_SH_78 ?_
    refine jm_iconst jd_Mod_findCode_30 (jm_o32c rfl) ?_
    refine jm_isub jd_Mod_findCode_31 ?_
    refine jm_sI jd_Mod_findCode_32 jp_Mod_203 jm_SH_78 ?_
    refine jm_aload_n jd_Mod_findCode_35 rfl rfl ?_
    refine jm_gR jd_Mod_findCode_36 jf_Mod_55 jm_SH_78 rfl ?_
    refine jm_aload_n jd_Mod_findCode_39 rfl rfl ?_
    refine jm_gI jd_Mod_findCode_40 jf_Mod_203 jm_SH_78 ?_
    refine jm_topI (y := jm_w32 ((h 78 22) - 1)) rfl ?_
    obtain ⟨hb2, H⟩ := H
    refine jm_iaload jd_Mod_findCode_43 jm_SH_94 hb2 ?_
    refine jm_topI (y := h 94 (Int.toNat (jm_w32 ((h 78 22) - 1)))) rfl ?_
    refine jm_istore_n (i := 1) jd_Mod_findCode_44 rfl (by decide) (ls2 := [some (jm_R 78), some (jm_I (h 94 (Int.toNat (jm_w32 ((h 78 22) - 1))))), none, none]) rfl ?_
    refine jm_aload_n jd_Mod_findCode_45 rfl rfl ?_
    refine jm_gR jd_Mod_findCode_46 jf_Mod_58 jm_SH_78 rfl ?_
    refine jm_aload_n jd_Mod_findCode_49 rfl rfl ?_
    refine jm_gI jd_Mod_findCode_50 jf_Mod_203 jm_SH_78 ?_
    refine jm_topI (y := jm_w32 ((h 78 22) - 1)) rfl ?_
    obtain ⟨hb3, H⟩ := H
    refine jm_iaload jd_Mod_findCode_53 jm_SH_95 hb3 ?_
    refine jm_topI (y := h 95 (Int.toNat (jm_w32 ((h 78 22) - 1)))) rfl ?_
    refine jm_istore_n (i := 2) jd_Mod_findCode_54 rfl (by decide) (ls2 := [some (jm_R 78), some (jm_I (h 94 (Int.toNat (jm_w32 ((h 78 22) - 1))))), some (jm_I (h 95 (Int.toNat (jm_w32 ((h 78 22) - 1))))), none]) rfl ?_
    refine jm_iload_n jd_Mod_findCode_55 rfl rfl ?_
    refine jm_if_ge (tgt := 100) jd_Mod_findCode_56 rfl (fun hc4 => ?_) (fun hc4 => ?_)
    · replace H := H.1 hc4
      refine jm_iload_n jd_Mod_findCode_100 rfl rfl ?_
      refine jm_iconst jd_Mod_findCode_101 (jm_o32c rfl) ?_
      refine jm_icmp_ge (tgt := 118) jd_Mod_findCode_102 rfl (fun hc5 => ?_) (fun hc5 => ?_)
      · replace H := H.1 hc5
        refine jm_aload_n jd_Mod_findCode_118 rfl rfl ?_
        refine jm_gR jd_Mod_findCode_119 jf_Mod_46 jm_SH_78 rfl ?_
        refine jm_iconst jd_Mod_findCode_122 (jm_o32c rfl) ?_
        refine jm_iload_n jd_Mod_findCode_123 rfl rfl ?_
        refine jm_imul jd_Mod_findCode_124 ?_
        refine jm_iload_n jd_Mod_findCode_125 rfl rfl ?_
        refine jm_iadd jd_Mod_findCode_126 ?_
        refine jm_iconst jd_Mod_findCode_127 (jm_o32c rfl) ?_
        refine jm_isub jd_Mod_findCode_128 ?_
        obtain ⟨hb6, H⟩ := H
        refine jm_iaload jd_Mod_findCode_129 jm_SH_91 hb6 ?_
        refine jm_topI (y := h 91 (Int.toNat (jm_w32 ((jm_w32 ((jm_w32 (2 * (h 94 (Int.toNat (jm_w32 ((h 78 22) - 1)))))) + (h 95 (Int.toNat (jm_w32 ((h 78 22) - 1)))))) - 2)))) rfl ?_
        refine jm_istore_n (i := 3) jd_Mod_findCode_130 rfl (by decide) (ls2 := [some (jm_R 78), some (jm_I (h 94 (Int.toNat (jm_w32 ((h 78 22) - 1))))), some (jm_I (h 95 (Int.toNat (jm_w32 ((h 78 22) - 1))))), some (jm_I (h 91 (Int.toNat (jm_w32 ((jm_w32 ((jm_w32 (2 * (h 94 (Int.toNat (jm_w32 ((h 78 22) - 1)))))) + (h 95 (Int.toNat (jm_w32 ((h 78 22) - 1)))))) - 2)))))]) rfl ?_
        refine jm_aload_n jd_Mod_findCode_131 rfl rfl ?_
        refine jm_iload_n jd_Mod_findCode_132 rfl rfl ?_
        refine jm_iconst jd_Mod_findCode_133 (jm_o32c rfl) ?_
        refine jm_iload_n jd_Mod_findCode_134 rfl rfl ?_
        refine jm_cV (M' := jm_m_Mod_later) (d' := 0) (av := [jm_I (h 94 (Int.toNat (jm_w32 ((h 78 22) - 1)))), jm_I (-1), jm_I (h 91 (Int.toNat (jm_w32 ((jm_w32 ((jm_w32 (2 * (h 94 (Int.toNat (jm_w32 ((h 78 22) - 1)))))) + (h 95 (Int.toNat (jm_w32 ((h 78 22) - 1)))))) - 2))))]) jd_Mod_findCode_135 jk_Mod_later jw_1081 rfl (by omega) ⟨rfl, rfl⟩ (by decide) (Nat.le_of_ble_eq_true rfl) jm_SH_78 rfl rfl (jm_hqV (fun h7 H => ?_)) H
        refine jm_aload_n jd_Mod_findCode_138 rfl rfl ?_
        refine jm_iload_n jd_Mod_findCode_139 rfl rfl ?_
        refine jm_iload_n jd_Mod_findCode_140 rfl rfl ?_
        refine jm_cV (M' := jm_m_Mod_laterParts) (d' := 2) (av := [jm_I (h 91 (Int.toNat (jm_w32 ((jm_w32 ((jm_w32 (2 * (h 94 (Int.toNat (jm_w32 ((h 78 22) - 1)))))) + (h 95 (Int.toNat (jm_w32 ((h 78 22) - 1)))))) - 2)))), jm_I (h 94 (Int.toNat (jm_w32 ((h 78 22) - 1))))]) jd_Mod_findCode_141 jk_Mod_laterParts jw_1085 rfl (by omega) ⟨rfl, rfl⟩ (by decide) (Nat.le_of_ble_eq_true rfl) jm_SH_78 rfl rfl (jm_hqV (fun h8 H => ?_)) H
        refine jm_goto (tgt := 18) jd_Mod_findCode_144 rfl ?_
        refine jm_keepG [true, false, false, false] (ls2 := [some (jm_R 78), none, none, none]) (by rfl) (by rfl) ?_
        exact H
      · replace H := H.2 hc5
        refine jm_aload_n jd_Mod_findCode_105 rfl rfl ?_
        refine jm_gR jd_Mod_findCode_106 jf_Mod_52 jm_SH_78 rfl ?_
        refine jm_iconst jd_Mod_findCode_109 (jm_o32c rfl) ?_
        refine jm_iload_n jd_Mod_findCode_110 rfl rfl ?_
        refine jm_imul jd_Mod_findCode_111 ?_
        refine jm_iload_n jd_Mod_findCode_112 rfl rfl ?_
        refine jm_iadd jd_Mod_findCode_113 ?_
        obtain ⟨hb9, H⟩ := H
        refine jm_iaload jd_Mod_findCode_114 jm_SH_93 hb9 ?_
        refine jm_topI (y := h 93 (Int.toNat (jm_w32 ((jm_w32 (2 * (h 94 (Int.toNat (jm_w32 ((h 78 22) - 1)))))) + (h 95 (Int.toNat (jm_w32 ((h 78 22) - 1)))))))) rfl ?_
        refine jm_goto (tgt := 130) jd_Mod_findCode_115 rfl ?_
        refine jm_istore_n (i := 3) jd_Mod_findCode_130 rfl (by decide) (ls2 := [some (jm_R 78), some (jm_I (h 94 (Int.toNat (jm_w32 ((h 78 22) - 1))))), some (jm_I (h 95 (Int.toNat (jm_w32 ((h 78 22) - 1))))), some (jm_I (h 93 (Int.toNat (jm_w32 ((jm_w32 (2 * (h 94 (Int.toNat (jm_w32 ((h 78 22) - 1)))))) + (h 95 (Int.toNat (jm_w32 ((h 78 22) - 1)))))))))]) rfl ?_
        refine jm_aload_n jd_Mod_findCode_131 rfl rfl ?_
        refine jm_iload_n jd_Mod_findCode_132 rfl rfl ?_
        refine jm_iconst jd_Mod_findCode_133 (jm_o32c rfl) ?_
        refine jm_iload_n jd_Mod_findCode_134 rfl rfl ?_
        refine jm_cV (M' := jm_m_Mod_later) (d' := 0) (av := [jm_I (h 94 (Int.toNat (jm_w32 ((h 78 22) - 1)))), jm_I (-1), jm_I (h 93 (Int.toNat (jm_w32 ((jm_w32 (2 * (h 94 (Int.toNat (jm_w32 ((h 78 22) - 1)))))) + (h 95 (Int.toNat (jm_w32 ((h 78 22) - 1))))))))]) jd_Mod_findCode_135 jk_Mod_later jw_1081 rfl (by omega) ⟨rfl, rfl⟩ (by decide) (Nat.le_of_ble_eq_true rfl) jm_SH_78 rfl rfl (jm_hqV (fun h10 H => ?_)) H
        refine jm_aload_n jd_Mod_findCode_138 rfl rfl ?_
        refine jm_iload_n jd_Mod_findCode_139 rfl rfl ?_
        refine jm_iload_n jd_Mod_findCode_140 rfl rfl ?_
        refine jm_cV (M' := jm_m_Mod_laterParts) (d' := 2) (av := [jm_I (h 93 (Int.toNat (jm_w32 ((jm_w32 (2 * (h 94 (Int.toNat (jm_w32 ((h 78 22) - 1)))))) + (h 95 (Int.toNat (jm_w32 ((h 78 22) - 1)))))))), jm_I (h 94 (Int.toNat (jm_w32 ((h 78 22) - 1))))]) jd_Mod_findCode_141 jk_Mod_laterParts jw_1085 rfl (by omega) ⟨rfl, rfl⟩ (by decide) (Nat.le_of_ble_eq_true rfl) jm_SH_78 rfl rfl (jm_hqV (fun h11 H => ?_)) H
        refine jm_goto (tgt := 18) jd_Mod_findCode_144 rfl ?_
        refine jm_keepG [true, false, false, false] (ls2 := [some (jm_R 78), none, none, none]) (by rfl) (by rfl) ?_
        exact H
    · replace H := H.2 hc4
      refine jm_aload_n jd_Mod_findCode_59 rfl rfl ?_
      refine jm_gR jd_Mod_findCode_60 jf_Mod_64 jm_SH_78 rfl ?_
      refine jm_aload_n jd_Mod_findCode_63 rfl rfl ?_
      refine jm_gI jd_Mod_findCode_64 jf_Mod_210 jm_SH_78 ?_
      refine jm_topI (y := h 78 25) rfl ?_
      refine jm_aload_n jd_Mod_findCode_67 rfl rfl ?_
      refine jm_gR jd_Mod_findCode_68 jf_Mod_61 jm_SH_78 rfl ?_
      refine jm_aload_n jd_Mod_findCode_71 rfl rfl ?_
      refine jm_gI jd_Mod_findCode_72 jf_Mod_203 jm_SH_78 ?_
      refine jm_topI (y := jm_w32 ((h 78 22) - 1)) rfl ?_
      obtain ⟨hb12, H⟩ := H
      refine jm_iaload jd_Mod_findCode_75 jm_SH_96 hb12 ?_
      refine jm_topI (y := h 96 (Int.toNat (jm_w32 ((h 78 22) - 1)))) rfl ?_
      obtain ⟨hb13, H⟩ := H
      refine jm_iastore jd_Mod_findCode_76 jm_SH_97 hb13 ?_
      refine jm_aload_n jd_Mod_findCode_77 rfl rfl ?_
      refine jm_gR jd_Mod_findCode_78 jf_Mod_67 jm_SH_78 rfl ?_
      refine jm_aload_n jd_Mod_findCode_81 rfl rfl ?_
      refine jm_gI jd_Mod_findCode_82 jf_Mod_210 jm_SH_78 ?_
      refine jm_topI (y := h 78 25) rfl ?_
      refine jm_iload_n jd_Mod_findCode_85 rfl rfl ?_
      obtain ⟨hb14, H⟩ := H
      refine jm_iastore jd_Mod_findCode_86 jm_SH_98 hb14 ?_
      refine jm_aload_n jd_Mod_findCode_87 rfl rfl ?_
      refine jm_dup jd_Mod_findCode_88 rfl ?_
      refine jm_gI jd_Mod_findCode_89 jf_Mod_210 jm_SH_78 ?_
      refine jm_topI (y := h 78 25) rfl ?_
      refine jm_iconst jd_Mod_findCode_92 (jm_o32c rfl) ?_
      refine jm_iadd jd_Mod_findCode_93 ?_
      refine jm_sI jd_Mod_findCode_94 jp_Mod_210 jm_SH_78 ?_
      refine jm_goto (tgt := 144) jd_Mod_findCode_97 rfl ?_
      refine jm_goto (tgt := 18) jd_Mod_findCode_144 rfl ?_
      refine jm_keepG [true, false, false, false] (ls2 := [some (jm_R 78), none, none, none]) (by rfl) (by rfl) ?_
      exact H
set_option maxRecDepth 4000 in
theorem jb_Mod_code {E : jm_Env} {x1 x2 : Int} {h : jm_H} {K : Int → jm_H → Prop} (H : jm_CI E jm_SH jm_m_Mod_in 0 [jm_L x2, jm_L 0, jm_L 1] h (fun v1 h1 => ((¬ v1 = 0) → ((¬ h1 78 4 = 0) → jm_CV E jm_SH jm_m_Mod_findCover 3 [jm_R 78] h1 (fun h4 => ((0 ≤ h4 93 0) → jm_CV E jm_SH jm_m_Mod_findCode 3 [jm_R 78] h4 (fun h6 => ((¬ x1 = -1) → jm_CI E jm_SH jm_m_Mod_in 0 [jm_L x1, jm_L 0, jm_L (jm_w32 ((h6 78 25) - 1))] h6 (fun v8 h8 => ((¬ v8 = 0) → ((¬ x2 = 0) → (0 ≤ x1 ∧ x1 < 100) ∧ (K (h8 98 (Int.toNat x1)) h8)) ∧ ((x2 = 0) → (0 ≤ x1 ∧ x1 < 100) ∧ (K (h8 97 (Int.toNat x1)) h8))) ∧ ((v8 = 0) → K (-6) h8))) ∧ ((x1 = -1) → K (h6 78 25) h6))) ∧ ((¬ 0 ≤ h4 93 0) → K (-5) h4))) ∧ ((h1 78 4 = 0) → K (-3) h1)) ∧ ((v1 = 0) → K (-2) h1))) : jm_CI E jm_SH jm_m_Mod_code 4 [jm_R 78, jm_I x1, jm_I x2] h K := by
  refine jm_body (ls0 := [some (jm_R 78), some (jm_I x1), some (jm_I x2)]) (by decide +kernel) rfl rfl (Nat.le_of_ble_eq_true rfl) ?_
  refine jm_iload_n jd_Mod_code_0 rfl rfl ?_
  refine jm_i2l jd_Mod_code_1 ?_
  refine jm_lconst (x := 0) jd_Mod_code_2 ⟨by decide, jm_o64c rfl⟩ ?_
  refine jm_lconst (x := 1) jd_Mod_code_3 ⟨by decide, jm_o64c rfl⟩ ?_
  refine jm_cS (M' := jm_m_Mod_in) (d' := 0) (av := [jm_L x2, jm_L 0, jm_L 1]) jd_Mod_code_4 jk_Mod_in jw_978 rfl (by omega) ⟨rfl, rfl⟩ (by decide) (Nat.le_of_ble_eq_true rfl) (jm_hqI (fun v1 h1 H => ?_)) H
  refine jm_if_ne (tgt := 13) jd_Mod_code_7 rfl (fun hc2 => ?_) (fun hc2 => ?_)
  · replace H := H.1 hc2
    refine jm_aload_n jd_Mod_code_13 rfl rfl ?_
    refine jm_gI jd_Mod_code_14 jf_Mod_169 jm_SH_78 ?_
    refine jm_if_ne (tgt := 23) jd_Mod_code_17 rfl (fun hc3 => ?_) (fun hc3 => ?_)
    · replace H := H.1 hc3
      refine jm_aload_n jd_Mod_code_23 rfl rfl ?_
      refine jm_cV (M' := jm_m_Mod_findCover) (d' := 3) (av := []) jd_Mod_code_24 jk_Mod_findCover jw_1060 rfl (by omega) ⟨rfl, rfl⟩ (by decide) (Nat.le_of_ble_eq_true rfl) jm_SH_78 rfl rfl (jm_hqV (fun h4 H => ?_)) H
      refine jm_aload_n jd_Mod_code_27 rfl rfl ?_
      refine jm_gR jd_Mod_code_28 jf_Mod_52 jm_SH_78 rfl ?_
      refine jm_iconst jd_Mod_code_31 (jm_o32c rfl) ?_
      refine jm_iaload jd_Mod_code_32 jm_SH_93 (by decide) ?_
      refine jm_topI (y := h4 93 0) rfl ?_
      refine jm_if_ge (tgt := 39) jd_Mod_code_33 rfl (fun hc5 => ?_) (fun hc5 => ?_)
      · replace H := H.1 hc5
        refine jm_aload_n jd_Mod_code_39 rfl rfl ?_
        refine jm_cV (M' := jm_m_Mod_findCode) (d' := 3) (av := []) jd_Mod_code_40 jk_Mod_findCode jw_1077 rfl (by omega) ⟨rfl, rfl⟩ (by decide) (Nat.le_of_ble_eq_true rfl) jm_SH_78 rfl rfl (jm_hqV (fun h6 H => ?_)) H
        refine jm_iload_n jd_Mod_code_43 rfl rfl ?_
        refine jm_iconst jd_Mod_code_44 (jm_o32c rfl) ?_
        refine jm_icmp_ne (tgt := 53) jd_Mod_code_45 rfl (fun hc7 => ?_) (fun hc7 => ?_)
        · replace H := H.1 hc7
          refine jm_iload_n jd_Mod_code_53 rfl rfl ?_
          refine jm_i2l jd_Mod_code_54 ?_
          refine jm_lconst (x := 0) jd_Mod_code_55 ⟨by decide, jm_o64c rfl⟩ ?_
          refine jm_aload_n jd_Mod_code_56 rfl rfl ?_
          refine jm_gI jd_Mod_code_57 jf_Mod_210 jm_SH_78 ?_
          refine jm_iconst jd_Mod_code_60 (jm_o32c rfl) ?_
          refine jm_isub jd_Mod_code_61 ?_
          refine jm_i2l jd_Mod_code_62 ?_
          refine jm_cS (M' := jm_m_Mod_in) (d' := 0) (av := [jm_L x1, jm_L 0, jm_L (jm_w32 ((h6 78 25) - 1))]) jd_Mod_code_63 jk_Mod_in jw_978 rfl (by omega) ⟨rfl, rfl⟩ (by decide) (Nat.le_of_ble_eq_true rfl) (jm_hqI (fun v8 h8 H => ?_)) H
          refine jm_if_ne (tgt := 74) jd_Mod_code_66 rfl (fun hc9 => ?_) (fun hc9 => ?_)
          · replace H := H.1 hc9
            refine jm_iload_n jd_Mod_code_74 rfl rfl ?_
            refine jm_if_ne (tgt := 87) jd_Mod_code_75 rfl (fun hc10 => ?_) (fun hc10 => ?_)
            · replace H := H.1 hc10
              refine jm_aload_n jd_Mod_code_87 rfl rfl ?_
              refine jm_gR jd_Mod_code_88 jf_Mod_67 jm_SH_78 rfl ?_
              refine jm_iload_n jd_Mod_code_91 rfl rfl ?_
              obtain ⟨hb11, H⟩ := H
              refine jm_iaload jd_Mod_code_92 jm_SH_98 hb11 ?_
              exact jm_ireturn jd_Mod_code_93 rfl (by decide) ⟨rfl, _, rfl, H⟩
            · replace H := H.2 hc10
              refine jm_aload_n jd_Mod_code_78 rfl rfl ?_
              refine jm_gR jd_Mod_code_79 jf_Mod_64 jm_SH_78 rfl ?_
              refine jm_iload_n jd_Mod_code_82 rfl rfl ?_
              obtain ⟨hb12, H⟩ := H
              refine jm_iaload jd_Mod_code_83 jm_SH_97 hb12 ?_
              refine jm_goto (tgt := 93) jd_Mod_code_84 rfl ?_
              exact jm_ireturn jd_Mod_code_93 rfl (by decide) ⟨rfl, _, rfl, H⟩
          · replace H := H.2 hc9
            refine jm_bipush jd_Mod_code_69 jb_m6 ?_
            refine jm_goto (tgt := 93) jd_Mod_code_71 rfl ?_
            exact jm_ireturn jd_Mod_code_93 rfl (by decide) ⟨rfl, _, rfl, H⟩
        · replace H := H.2 hc7
          refine jm_aload_n jd_Mod_code_48 rfl rfl ?_
          refine jm_gI jd_Mod_code_49 jf_Mod_210 jm_SH_78 ?_
          exact jm_ireturn jd_Mod_code_52 rfl (by decide) ⟨rfl, _, rfl, H⟩
      · replace H := H.2 hc5
        refine jm_bipush jd_Mod_code_36 jb_m5 ?_
        exact jm_ireturn jd_Mod_code_38 rfl (by decide) ⟨rfl, _, rfl, H⟩
    · replace H := H.2 hc3
      refine jm_bipush jd_Mod_code_20 jb_m3 ?_
      exact jm_ireturn jd_Mod_code_22 rfl (by decide) ⟨rfl, _, rfl, H⟩
  · replace H := H.2 hc2
    refine jm_bipush jd_Mod_code_10 jb_m2 ?_
    exact jm_ireturn jd_Mod_code_12 rfl (by decide) ⟨rfl, _, rfl, H⟩
