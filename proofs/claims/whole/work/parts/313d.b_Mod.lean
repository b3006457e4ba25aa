set_option maxRecDepth 4000 in
theorem jb_Mod_stores {E : jm_Env} {x1 : Int} {h : jm_H} {K : Int → jm_H → Prop} (H : jm_CI E jm_SH jm_m_Mod_in 0 [jm_L x1, jm_L 2, jm_L 8] h (fun v1 h1 => ((¬ v1 = 0) → ((¬ h1 78 4 = 0) → jm_BI E jm_SH jm_m_Mod_stores 2 36 [some (jm_R 78), some (jm_I x1), some (jm_I 0), some (jm_I (jm_w32 ((h1 78 4) - 1))), none, none, none, none] [] h1 K) ∧ ((h1 78 4 = 0) → K (-3) h1)) ∧ ((v1 = 0) → K (-2) h1))) : jm_CI E jm_SH jm_m_Mod_stores 2 [jm_R 78, jm_I x1] h K := by
  refine jm_body (ls0 := [some (jm_R 78), some (jm_I x1), none, none, none, none, none, none]) (by decide +kernel) rfl rfl (Nat.le_of_ble_eq_true rfl) ?_
  refine jm_iload_n jd_Mod_stores_0 rfl rfl ?_
  refine jm_i2l jd_Mod_stores_1 ?_
  refine jm_ldc2 (x := 2) jd_Mod_stores_2 jc_1093 (jm_o64c rfl) ?_
  refine jm_ldc2 (x := 8) jd_Mod_stores_5 jc_1094 (jm_o64c rfl) ?_
  refine jm_cS (M' := jm_m_Mod_in) (d' := 0) (av := [jm_L x1, jm_L 2, jm_L 8]) jd_Mod_stores_8 jk_Mod_in jw_978 rfl (by omega) ⟨rfl, rfl⟩ (by decide) (Nat.le_of_ble_eq_true rfl) (jm_hqI (fun v1 h1 H => ?_)) H
  refine jm_if_ne (tgt := 17) jd_Mod_stores_11 rfl (fun hc2 => ?_) (fun hc2 => ?_)
  · replace H := H.1 hc2
    refine jm_aload_n jd_Mod_stores_17 rfl rfl ?_
    refine jm_gI jd_Mod_stores_18 jf_Mod_169 jm_SH_78 ?_
    refine jm_if_ne (tgt := 27) jd_Mod_stores_21 rfl (fun hc3 => ?_) (fun hc3 => ?_)
    · replace H := H.1 hc3
      refine jm_iconst jd_Mod_stores_27 (jm_o32c rfl) ?_
      refine jm_istore_n (i := 2) jd_Mod_stores_28 rfl (by decide) (ls2 := [some (jm_R 78), some (jm_I x1), some (jm_I 0), none, none, none, none, none]) rfl ?_
      refine jm_aload_n jd_Mod_stores_29 rfl rfl ?_
      refine jm_gI jd_Mod_stores_30 jf_Mod_169 jm_SH_78 ?_
      refine jm_iconst jd_Mod_stores_33 (jm_o32c rfl) ?_
      refine jm_isub jd_Mod_stores_34 ?_
      refine jm_istore_n (i := 3) jd_Mod_stores_35 rfl (by decide) (ls2 := [some (jm_R 78), some (jm_I x1), some (jm_I 0), some (jm_I (jm_w32 ((h1 78 4) - 1))), none, none, none, none]) rfl ?_
      exact H
    · replace H := H.2 hc3
      refine jm_bipush jd_Mod_stores_24 jb_m3 ?_
      exact jm_ireturn jd_Mod_stores_26 rfl (by decide) ⟨rfl, _, rfl, H⟩
  · replace H := H.2 hc2
    refine jm_bipush jd_Mod_stores_14 jb_m2 ?_
    exact jm_ireturn jd_Mod_stores_16 rfl (by decide) ⟨rfl, _, rfl, H⟩
set_option maxRecDepth 4000 in
theorem jb_Mod_stores_36 {E : jm_Env} {x1 x2 x3 : Int} {h : jm_H} {K : Int → jm_H → Prop} (H : ((x3 < 0) → K x2 h) ∧ ((¬ x3 < 0) → (0 ≤ x3 ∧ x3 < 60) ∧ (jm_CI E jm_SH jm_m_Mod_partsOf 0 [jm_I (h 80 (Int.toNat x3))] h (fun v3 h3 => ((v3 ≤ 0) → ((v3 ≤ 1) → jm_BI E jm_SH jm_m_Mod_stores 2 92 [some (jm_R 78), some (jm_I x1), some (jm_I x2), some (jm_I x3), some (jm_I v3), some (jm_I 1), none, none] [jm_I 0] h3 K) ∧ ((¬ v3 ≤ 1) → jm_CI E jm_SH jm_m_Mod_endOf 1 [jm_R 78, jm_I (jm_w32 (x3 + 1))] h3 (fun v6 h6 => (0 ≤ v6 ∧ v6 < 60) ∧ (jm_BI E jm_SH jm_m_Mod_stores 2 92 [some (jm_R 78), some (jm_I x1), some (jm_I x2), some (jm_I x3), some (jm_I v3), some (jm_I 1), none, none] [jm_I (h6 85 (Int.toNat v6))] h6 K)))) ∧ ((¬ v3 ≤ 0) → (0 ≤ jm_w32 (x3 + 1) ∧ jm_w32 (x3 + 1) < 60) ∧ (((v3 ≤ 1) → jm_BI E jm_SH jm_m_Mod_stores 2 92 [some (jm_R 78), some (jm_I x1), some (jm_I x2), some (jm_I x3), some (jm_I v3), some (jm_I (h3 85 (Int.toNat (jm_w32 (x3 + 1))))), none, none] [jm_I 0] h3 K) ∧ ((¬ v3 ≤ 1) → jm_CI E jm_SH jm_m_Mod_endOf 1 [jm_R 78, jm_I (jm_w32 (x3 + 1))] h3 (fun v10 h10 => (0 ≤ v10 ∧ v10 < 60) ∧ (jm_BI E jm_SH jm_m_Mod_stores 2 92 [some (jm_R 78), some (jm_I x1), some (jm_I x2), some (jm_I x3), some (jm_I v3), some (jm_I (h3 85 (Int.toNat (jm_w32 (x3 + 1))))), none, none] [jm_I (h10 85 (Int.toNat v10))] h10 K))))))))) : jm_BI E jm_SH jm_m_Mod_stores 2 36 [some (jm_R 78), some (jm_I x1), some (jm_I x2), some (jm_I x3), none, none, none, none] [] h K := by
  refine jm_iload_n jd_Mod_stores_36 rfl rfl ?_
  refine jm_if_lt (tgt := 174) jd_Mod_stores_37 rfl (fun hc1 => ?_) (fun hc1 => ?_)
  · replace H := H.1 hc1
    refine jm_iload_n jd_Mod_stores_174 rfl rfl ?_
    exact jm_ireturn jd_Mod_stores_175 rfl (by decide) ⟨rfl, _, rfl, H⟩
  · replace H := H.2 hc1
    refine jm_aload_n jd_Mod_stores_40 rfl rfl ?_
    refine jm_gR jd_Mod_stores_41 jf_Mod_13 jm_SH_78 rfl ?_
    refine jm_iload_n jd_Mod_stores_44 rfl rfl ?_
    obtain ⟨hb2, H⟩ := H
    refine jm_iaload jd_Mod_stores_45 jm_SH_80 hb2 ?_
    refine jm_cS (M' := jm_m_Mod_partsOf) (d' := 0) (av := [jm_I (h 80 (Int.toNat x3))]) jd_Mod_stores_46 jk_Mod_partsOf jw_993 rfl (by omega) ⟨rfl, rfl⟩ (by decide) (Nat.le_of_ble_eq_true rfl) (jm_hqI (fun v3 h3 H => ?_)) H
    refine jm_istore (i := 4) jd_Mod_stores_49 (by decide) (ls2 := [some (jm_R 78), some (jm_I x1), some (jm_I x2), some (jm_I x3), some (jm_I v3), none, none, none]) rfl ?_
    refine jm_iload jd_Mod_stores_51 rfl ?_
    refine jm_if_le (tgt := 67) jd_Mod_stores_53 rfl (fun hc4 => ?_) (fun hc4 => ?_)
    · replace H := H.1 hc4
      refine jm_iconst jd_Mod_stores_67 (jm_o32c rfl) ?_
      refine jm_istore (i := 5) jd_Mod_stores_68 (by decide) (ls2 := [some (jm_R 78), some (jm_I x1), some (jm_I x2), some (jm_I x3), some (jm_I v3), some (jm_I 1), none, none]) rfl ?_
      refine jm_iload jd_Mod_stores_70 rfl ?_
      refine jm_iconst jd_Mod_stores_72 (jm_o32c rfl) ?_
      refine jm_icmp_le (tgt := 91) jd_Mod_stores_73 rfl (fun hc5 => ?_) (fun hc5 => ?_)
      · replace H := H.1 hc5
        refine jm_iconst jd_Mod_stores_91 (jm_o32c rfl) ?_
        exact H
      · replace H := H.2 hc5
        refine jm_aload_n jd_Mod_stores_76 rfl rfl ?_
        refine jm_gR jd_Mod_stores_77 jf_Mod_28 jm_SH_78 rfl ?_
        refine jm_aload_n jd_Mod_stores_80 rfl rfl ?_
        refine jm_iload_n jd_Mod_stores_81 rfl rfl ?_
        refine jm_iconst jd_Mod_stores_82 (jm_o32c rfl) ?_
        refine jm_iadd jd_Mod_stores_83 ?_
        refine jm_cV (M' := jm_m_Mod_endOf) (d' := 1) (av := [jm_I (jm_w32 (x3 + 1))]) jd_Mod_stores_84 jk_Mod_endOf jw_1033 rfl (by omega) ⟨rfl, rfl⟩ (by decide) (Nat.le_of_ble_eq_true rfl) jm_SH_78 rfl rfl (jm_hqI (fun v6 h6 H => ?_)) H
        obtain ⟨hb7, H⟩ := H
        refine jm_iaload jd_Mod_stores_87 jm_SH_85 hb7 ?_
        refine jm_goto (tgt := 92) jd_Mod_stores_88 rfl ?_
        exact H
    · replace H := H.2 hc4
      refine jm_aload_n jd_Mod_stores_56 rfl rfl ?_
      refine jm_gR jd_Mod_stores_57 jf_Mod_28 jm_SH_78 rfl ?_
      refine jm_iload_n jd_Mod_stores_60 rfl rfl ?_
      refine jm_iconst jd_Mod_stores_61 (jm_o32c rfl) ?_
      refine jm_iadd jd_Mod_stores_62 ?_
      obtain ⟨hb8, H⟩ := H
      refine jm_iaload jd_Mod_stores_63 jm_SH_85 hb8 ?_
      refine jm_goto (tgt := 68) jd_Mod_stores_64 rfl ?_
      refine jm_istore (i := 5) jd_Mod_stores_68 (by decide) (ls2 := [some (jm_R 78), some (jm_I x1), some (jm_I x2), some (jm_I x3), some (jm_I v3), some (jm_I (h3 85 (Int.toNat (jm_w32 (x3 + 1))))), none, none]) rfl ?_
      refine jm_iload jd_Mod_stores_70 rfl ?_
      refine jm_iconst jd_Mod_stores_72 (jm_o32c rfl) ?_
      refine jm_icmp_le (tgt := 91) jd_Mod_stores_73 rfl (fun hc9 => ?_) (fun hc9 => ?_)
      · replace H := H.1 hc9
        refine jm_iconst jd_Mod_stores_91 (jm_o32c rfl) ?_
        exact H
      · replace H := H.2 hc9
        refine jm_aload_n jd_Mod_stores_76 rfl rfl ?_
        refine jm_gR jd_Mod_stores_77 jf_Mod_28 jm_SH_78 rfl ?_
        refine jm_aload_n jd_Mod_stores_80 rfl rfl ?_
        refine jm_iload_n jd_Mod_stores_81 rfl rfl ?_
        refine jm_iconst jd_Mod_stores_82 (jm_o32c rfl) ?_
        refine jm_iadd jd_Mod_stores_83 ?_
        refine jm_cV (M' := jm_m_Mod_endOf) (d' := 1) (av := [jm_I (jm_w32 (x3 + 1))]) jd_Mod_stores_84 jk_Mod_endOf jw_1033 rfl (by omega) ⟨rfl, rfl⟩ (by decide) (Nat.le_of_ble_eq_true rfl) jm_SH_78 rfl rfl (jm_hqI (fun v10 h10 H => ?_)) H
        obtain ⟨hb11, H⟩ := H
        refine jm_iaload jd_Mod_stores_87 jm_SH_85 hb11 ?_
        refine jm_goto (tgt := 92) jd_Mod_stores_88 rfl ?_
        exact H
set_option maxRecDepth 4000 in
theorem jb_Mod_stores_92 {E : jm_Env} {x1 x2 x3 x4 x5 s0 : Int} {h : jm_H} {K : Int → jm_H → Prop} (H : ((x4 ≤ 1) → jm_BI E jm_SH jm_m_Mod_stores 2 118 [some (jm_R 78), some (jm_I x1), none, some (jm_I x3), none, some (jm_I x5), some (jm_I s0), none] [jm_I 0, jm_I x2] h K) ∧ ((¬ x4 ≤ 1) → ((x5 < x1) → jm_BI E jm_SH jm_m_Mod_stores 2 118 [some (jm_R 78), some (jm_I x1), none, some (jm_I x3), none, some (jm_I x5), some (jm_I s0), none] [jm_I 0, jm_I x2] h K) ∧ ((¬ x5 < x1) → ((s0 < x1) → jm_BI E jm_SH jm_m_Mod_stores 2 118 [some (jm_R 78), some (jm_I x1), none, some (jm_I x3), none, some (jm_I x5), some (jm_I s0), none] [jm_I 0, jm_I x2] h K) ∧ ((¬ s0 < x1) → jm_BI E jm_SH jm_m_Mod_stores 2 118 [some (jm_R 78), some (jm_I x1), none, some (jm_I x3), none, some (jm_I x5), some (jm_I s0), none] [jm_I 1, jm_I x2] h K)))) : jm_BI E jm_SH jm_m_Mod_stores 2 92 [some (jm_R 78), some (jm_I x1), some (jm_I x2), some (jm_I x3), some (jm_I x4), some (jm_I x5), none, none] [jm_I s0] h K := by
  refine jm_istore (i := 6) jd_Mod_stores_92 (by decide) (ls2 := [some (jm_R 78), some (jm_I x1), some (jm_I x2), some (jm_I x3), some (jm_I x4), some (jm_I x5), some (jm_I s0), none]) rfl ?_
  refine jm_iload_n jd_Mod_stores_94 rfl rfl ?_
  refine jm_iload jd_Mod_stores_95 rfl ?_
  refine jm_iconst jd_Mod_stores_97 (jm_o32c rfl) ?_
  refine jm_icmp_le (tgt := 117) jd_Mod_stores_98 rfl (fun hc1 => ?_) (fun hc1 => ?_)
  · replace H := H.1 hc1
    refine jm_iconst jd_Mod_stores_117 (jm_o32c rfl) ?_
    refine jm_keepG [true, true, false, true, false, true, true, false] (ls2 := [some (jm_R 78), some (jm_I x1), none, some (jm_I x3), none, some (jm_I x5), some (jm_I s0), none]) (by rfl) (by rfl) ?_
    exact H
  · replace H := H.2 hc1
    refine jm_iload jd_Mod_stores_101 rfl ?_
    refine jm_iload_n jd_Mod_stores_103 rfl rfl ?_
    refine jm_icmp_lt (tgt := 117) jd_Mod_stores_104 rfl (fun hc2 => ?_) (fun hc2 => ?_)
    · replace H := H.1 hc2
      refine jm_iconst jd_Mod_stores_117 (jm_o32c rfl) ?_
      refine jm_keepG [true, true, false, true, false, true, true, false] (ls2 := [some (jm_R 78), some (jm_I x1), none, some (jm_I x3), none, some (jm_I x5), some (jm_I s0), none]) (by rfl) (by rfl) ?_
      exact H
    · replace H := H.2 hc2
      refine jm_iload jd_Mod_stores_107 rfl ?_
      refine jm_iload_n jd_Mod_stores_109 rfl rfl ?_
      refine jm_icmp_lt (tgt := 117) jd_Mod_stores_110 rfl (fun hc3 => ?_) (fun hc3 => ?_)
      · replace H := H.1 hc3
        refine jm_iconst jd_Mod_stores_117 (jm_o32c rfl) ?_
        refine jm_keepG [true, true, false, true, false, true, true, false] (ls2 := [some (jm_R 78), some (jm_I x1), none, some (jm_I x3), none, some (jm_I x5), some (jm_I s0), none]) (by rfl) (by rfl) ?_
        exact H
      · replace H := H.2 hc3
        refine jm_iconst jd_Mod_stores_113 (jm_o32c rfl) ?_
        refine jm_goto (tgt := 118) jd_Mod_stores_114 rfl ?_
        refine jm_keepG [true, true, false, true, false, true, true, false] (ls2 := [some (jm_R 78), some (jm_I x1), none, some (jm_I x3), none, some (jm_I x5), some (jm_I s0), none]) (by rfl) (by rfl) ?_
        exact H
set_option maxRecDepth 4000 in
theorem jb_Mod_stores_118 {E : jm_Env} {x1 x3 x5 x6 s0 s1 : Int} {h : jm_H} {K : Int → jm_H → Prop} (H : ((¬ x5 = x6) → ((x5 ≤ x6) → ((x6 ≤ x1) → (0 ≤ x3 ∧ x3 < 60) ∧ (jm_BI E jm_SH jm_m_Mod_stores 2 36 [some (jm_R 78), some (jm_I x1), some (jm_I (jm_w32 (s0 + s1))), some (jm_I (jm_w32 (x3 + (-1)))), none, none, none, none] [] (jm_up h 85 (Int.toNat x3) x6) K)) ∧ ((¬ x6 ≤ x1) → (0 ≤ x3 ∧ x3 < 60) ∧ (jm_BI E jm_SH jm_m_Mod_stores 2 36 [some (jm_R 78), some (jm_I x1), some (jm_I (jm_w32 (s0 + s1))), some (jm_I (jm_w32 (x3 + (-1)))), none, none, none, none] [] (jm_up h 85 (Int.toNat x3) x1) K))) ∧ ((¬ x5 ≤ x6) → ((x5 ≤ x1) → (0 ≤ x3 ∧ x3 < 60) ∧ (jm_BI E jm_SH jm_m_Mod_stores 2 36 [some (jm_R 78), some (jm_I x1), some (jm_I (jm_w32 (s0 + s1))), some (jm_I (jm_w32 (x3 + (-1)))), none, none, none, none] [] (jm_up h 85 (Int.toNat x3) x5) K)) ∧ ((¬ x5 ≤ x1) → (0 ≤ x3 ∧ x3 < 60) ∧ (jm_BI E jm_SH jm_m_Mod_stores 2 36 [some (jm_R 78), some (jm_I x1), some (jm_I (jm_w32 (s0 + s1))), some (jm_I (jm_w32 (x3 + (-1)))), none, none, none, none] [] (jm_up h 85 (Int.toNat x3) x1) K)))) ∧ ((x5 = x6) → ((jm_w32 (x5 + 1) ≤ x1) → (0 ≤ x3 ∧ x3 < 60) ∧ (jm_BI E jm_SH jm_m_Mod_stores 2 36 [some (jm_R 78), some (jm_I x1), some (jm_I (jm_w32 (s0 + s1))), some (jm_I (jm_w32 (x3 + (-1)))), none, none, none, none] [] (jm_up h 85 (Int.toNat x3) (jm_w32 (x5 + 1))) K)) ∧ ((¬ jm_w32 (x5 + 1) ≤ x1) → (0 ≤ x3 ∧ x3 < 60) ∧ (jm_BI E jm_SH jm_m_Mod_stores 2 36 [some (jm_R 78), some (jm_I x1), some (jm_I (jm_w32 (s0 + s1))), some (jm_I (jm_w32 (x3 + (-1)))), none, none, none, none] [] (jm_up h 85 (Int.toNat x3) x1) K)))) : jm_BI E jm_SH jm_m_Mod_stores 2 118 [some (jm_R 78), some (jm_I x1), none, some (jm_I x3), none, some (jm_I x5), some (jm_I x6), none] [jm_I s1, jm_I s0] h K := by
  refine jm_iadd jd_Mod_stores_118 ?_
  refine jm_istore_n (i := 2) jd_Mod_stores_119 rfl (by decide) (ls2 := [some (jm_R 78), some (jm_I x1), some (jm_I (jm_w32 (s0 + s1))), some (jm_I x3), none, some (jm_I x5), some (jm_I x6), none]) rfl ?_
  refine jm_iload jd_Mod_stores_120 rfl ?_
  refine jm_iload jd_Mod_stores_122 rfl ?_
  refine jm_icmp_ne (tgt := 134) jd_Mod_stores_124 rfl (fun hc1 => ?_) (fun hc1 => ?_)
  · replace H := H.1 hc1
    refine jm_iload jd_Mod_stores_134 rfl ?_
    refine jm_iload jd_Mod_stores_136 rfl ?_
    refine jm_icmp_le (tgt := 146) jd_Mod_stores_138 rfl (fun hc2 => ?_) (fun hc2 => ?_)
    · replace H := H.1 hc2
      refine jm_iload jd_Mod_stores_146 rfl ?_
      refine jm_istore (i := 7) jd_Mod_stores_148 (by decide) (ls2 := [some (jm_R 78), some (jm_I x1), some (jm_I (jm_w32 (s0 + s1))), some (jm_I x3), none, some (jm_I x5), some (jm_I x6), some (jm_I x6)]) rfl ?_
      refine jm_aload_n jd_Mod_stores_150 rfl rfl ?_
      refine jm_gR jd_Mod_stores_151 jf_Mod_28 jm_SH_78 rfl ?_
      refine jm_iload_n jd_Mod_stores_154 rfl rfl ?_
      refine jm_iload jd_Mod_stores_155 rfl ?_
      refine jm_iload_n jd_Mod_stores_157 rfl rfl ?_
      refine jm_icmp_le (tgt := 165) jd_Mod_stores_158 rfl (fun hc3 => ?_) (fun hc3 => ?_)
      · replace H := H.1 hc3
        refine jm_iload jd_Mod_stores_165 rfl ?_
        obtain ⟨hb4, H⟩ := H
        refine jm_iastore jd_Mod_stores_167 jm_SH_85 hb4 ?_
        refine jm_iinc jd_Mod_stores_168 rfl (by decide) (ls2 := [some (jm_R 78), some (jm_I x1), some (jm_I (jm_w32 (s0 + s1))), some (jm_I (jm_w32 (x3 + (-1)))), none, some (jm_I x5), some (jm_I x6), some (jm_I x6)]) rfl ?_
        refine jm_goto (tgt := 36) jd_Mod_stores_171 rfl ?_
        refine jm_keepG [true, true, true, true, false, false, false, false] (ls2 := [some (jm_R 78), some (jm_I x1), some (jm_I (jm_w32 (s0 + s1))), some (jm_I (jm_w32 (x3 + (-1)))), none, none, none, none]) (by rfl) (by rfl) ?_
        exact H
      · replace H := H.2 hc3
        refine jm_iload_n jd_Mod_stores_161 rfl rfl ?_
        refine jm_goto (tgt := 167) jd_Mod_stores_162 rfl ?_
        obtain ⟨hb5, H⟩ := H
        refine jm_iastore jd_Mod_stores_167 jm_SH_85 hb5 ?_
        refine jm_iinc jd_Mod_stores_168 rfl (by decide) (ls2 := [some (jm_R 78), some (jm_I x1), some (jm_I (jm_w32 (s0 + s1))), some (jm_I (jm_w32 (x3 + (-1)))), none, some (jm_I x5), some (jm_I x6), some (jm_I x6)]) rfl ?_
        refine jm_goto (tgt := 36) jd_Mod_stores_171 rfl ?_
        refine jm_keepG [true, true, true, true, false, false, false, false] (ls2 := [some (jm_R 78), some (jm_I x1), some (jm_I (jm_w32 (s0 + s1))), some (jm_I (jm_w32 (x3 + (-1)))), none, none, none, none]) (by rfl) (by rfl) ?_
        exact H
    · replace H := H.2 hc2
      refine jm_iload jd_Mod_stores_141 rfl ?_
      refine jm_goto (tgt := 148) jd_Mod_stores_143 rfl ?_
      refine jm_istore (i := 7) jd_Mod_stores_148 (by decide) (ls2 := [some (jm_R 78), some (jm_I x1), some (jm_I (jm_w32 (s0 + s1))), some (jm_I x3), none, some (jm_I x5), some (jm_I x6), some (jm_I x5)]) rfl ?_
      refine jm_aload_n jd_Mod_stores_150 rfl rfl ?_
      refine jm_gR jd_Mod_stores_151 jf_Mod_28 jm_SH_78 rfl ?_
      refine jm_iload_n jd_Mod_stores_154 rfl rfl ?_
      refine jm_iload jd_Mod_stores_155 rfl ?_
      refine jm_iload_n jd_Mod_stores_157 rfl rfl ?_
      refine jm_icmp_le (tgt := 165) jd_Mod_stores_158 rfl (fun hc6 => ?_) (fun hc6 => ?_)
      · replace H := H.1 hc6
        refine jm_iload jd_Mod_stores_165 rfl ?_
        obtain ⟨hb7, H⟩ := H
        refine jm_iastore jd_Mod_stores_167 jm_SH_85 hb7 ?_
        refine jm_iinc jd_Mod_stores_168 rfl (by decide) (ls2 := [some (jm_R 78), some (jm_I x1), some (jm_I (jm_w32 (s0 + s1))), some (jm_I (jm_w32 (x3 + (-1)))), none, some (jm_I x5), some (jm_I x6), some (jm_I x5)]) rfl ?_
        refine jm_goto (tgt := 36) jd_Mod_stores_171 rfl ?_
        refine jm_keepG [true, true, true, true, false, false, false, false] (ls2 := [some (jm_R 78), some (jm_I x1), some (jm_I (jm_w32 (s0 + s1))), some (jm_I (jm_w32 (x3 + (-1)))), none, none, none, none]) (by rfl) (by rfl) ?_
        exact H
      · replace H := H.2 hc6
        refine jm_iload_n jd_Mod_stores_161 rfl rfl ?_
        refine jm_goto (tgt := 167) jd_Mod_stores_162 rfl ?_
        obtain ⟨hb8, H⟩ := H
        refine jm_iastore jd_Mod_stores_167 jm_SH_85 hb8 ?_
        refine jm_iinc jd_Mod_stores_168 rfl (by decide) (ls2 := [some (jm_R 78), some (jm_I x1), some (jm_I (jm_w32 (s0 + s1))), some (jm_I (jm_w32 (x3 + (-1)))), none, some (jm_I x5), some (jm_I x6), some (jm_I x5)]) rfl ?_
        refine jm_goto (tgt := 36) jd_Mod_stores_171 rfl ?_
        refine jm_keepG [true, true, true, true, false, false, false, false] (ls2 := [some (jm_R 78), some (jm_I x1), some (jm_I (jm_w32 (s0 + s1))), some (jm_I (jm_w32 (x3 + (-1)))), none, none, none, none]) (by rfl) (by rfl) ?_
        exact H
  · replace H := H.2 hc1
    refine jm_iload jd_Mod_stores_127 rfl ?_
    refine jm_iconst jd_Mod_stores_129 (jm_o32c rfl) ?_
    refine jm_iadd jd_Mod_stores_130 ?_
    refine jm_goto (tgt := 148) jd_Mod_stores_131 rfl ?_
    refine jm_istore (i := 7) jd_Mod_stores_148 (by decide) (ls2 := [some (jm_R 78), some (jm_I x1), some (jm_I (jm_w32 (s0 + s1))), some (jm_I x3), none, some (jm_I x5), some (jm_I x6), some (jm_I (jm_w32 (x5 + 1)))]) rfl ?_
    refine jm_aload_n jd_Mod_stores_150 rfl rfl ?_
    refine jm_gR jd_Mod_stores_151 jf_Mod_28 jm_SH_78 rfl ?_
    refine jm_iload_n jd_Mod_stores_154 rfl rfl ?_
    refine jm_iload jd_Mod_stores_155 rfl ?_
    refine jm_iload_n jd_Mod_stores_157 rfl rfl ?_
    refine jm_icmp_le (tgt := 165) jd_Mod_stores_158 rfl (fun hc9 => ?_) (fun hc9 => ?_)
    · replace H := H.1 hc9
      refine jm_iload jd_Mod_stores_165 rfl ?_
      obtain ⟨hb10, H⟩ := H
      refine jm_iastore jd_Mod_stores_167 jm_SH_85 hb10 ?_
      refine jm_iinc jd_Mod_stores_168 rfl (by decide) (ls2 := [some (jm_R 78), some (jm_I x1), some (jm_I (jm_w32 (s0 + s1))), some (jm_I (jm_w32 (x3 + (-1)))), none, some (jm_I x5), some (jm_I x6), some (jm_I (jm_w32 (x5 + 1)))]) rfl ?_
      refine jm_goto (tgt := 36) jd_Mod_stores_171 rfl ?_
      refine jm_keepG [true, true, true, true, false, false, false, false] (ls2 := [some (jm_R 78), some (jm_I x1), some (jm_I (jm_w32 (s0 + s1))), some (jm_I (jm_w32 (x3 + (-1)))), none, none, none, none]) (by rfl) (by rfl) ?_
      exact H
    · replace H := H.2 hc9
      refine jm_iload_n jd_Mod_stores_161 rfl rfl ?_
      refine jm_goto (tgt := 167) jd_Mod_stores_162 rfl ?_
      obtain ⟨hb11, H⟩ := H
      refine jm_iastore jd_Mod_stores_167 jm_SH_85 hb11 ?_
      refine jm_iinc jd_Mod_stores_168 rfl (by decide) (ls2 := [some (jm_R 78), some (jm_I x1), some (jm_I (jm_w32 (s0 + s1))), some (jm_I (jm_w32 (x3 + (-1)))), none, some (jm_I x5), some (jm_I x6), some (jm_I (jm_w32 (x5 + 1)))]) rfl ?_
      refine jm_goto (tgt := 36) jd_Mod_stores_171 rfl ?_
      refine jm_keepG [true, true, true, true, false, false, false, false] (ls2 := [some (jm_R 78), some (jm_I x1), some (jm_I (jm_w32 (s0 + s1))), some (jm_I (jm_w32 (x3 + (-1)))), none, none, none, none]) (by rfl) (by rfl) ?_
      exact H
set_option maxRecDepth 4000 in
theorem jb_Mod_isRegister {E : jm_Env} {x0 : Int} {h : jm_H} {K : Int → jm_H → Prop} (H : jm_CI E jm_SH jm_m_Mod_in 0 [jm_L x0, jm_L 0, jm_L 5] h (fun v1 h1 => (v1 = 0 ∨ v1 = 1) ∧ K v1 h1)) : jm_CI E jm_SH jm_m_Mod_isRegister 1 [jm_I x0] h K := by
  refine jm_body (ls0 := [some (jm_I x0)]) (by decide +kernel) rfl rfl (Nat.le_of_ble_eq_true rfl) ?_
  refine jm_iload_n jd_Mod_isRegister_0 rfl rfl ?_
  refine jm_i2l jd_Mod_isRegister_1 ?_
  refine jm_lconst (x := 0) jd_Mod_isRegister_2 ⟨by decide, jm_o64c rfl⟩ ?_
  refine jm_ldc2 (x := 5) jd_Mod_isRegister_3 jc_1103 (jm_o64c rfl) ?_
  refine jm_cS (M' := jm_m_Mod_in) (d' := 0) (av := [jm_L x0, jm_L 0, jm_L 5]) jd_Mod_isRegister_6 jk_Mod_in jw_978 rfl (by omega) ⟨rfl, rfl⟩ (by decide) (Nat.le_of_ble_eq_true rfl) (jm_hqI (fun v1 h1 H => ?_)) H
  exact jm_zreturn jd_Mod_isRegister_9 rfl H.1 (by decide) ⟨rfl, _, rfl, H.2⟩
set_option maxRecDepth 4000 in
theorem jb_Mod_add {E : jm_Env} {x1 x2 x3 x4 x5 : Int} {h : jm_H} {K : Int → jm_H → Prop} (H : jm_CI E jm_SH jm_m_Mod_in 0 [jm_L x1, jm_L 0, jm_L 6] h (fun v1 h1 => ((v1 = 0) → K (-2) h1) ∧ ((¬ v1 = 0) → jm_CI E jm_SH jm_m_Mod_isRegister 1 [jm_I x2] h1 (fun v3 h3 => ((v3 = 0) → K (-2) h3) ∧ ((¬ v3 = 0) → jm_CI E jm_SH jm_m_Mod_isRegister 1 [jm_I x3] h3 (fun v5 h5 => ((v5 = 0) → K (-2) h5) ∧ ((¬ v5 = 0) → jm_CI E jm_SH jm_m_Mod_isRegister 1 [jm_I x4] h5 (fun v7 h7 => ((v7 = 0) → K (-2) h7) ∧ ((¬ v7 = 0) → jm_CI E jm_SH jm_m_Mod_in 0 [jm_L x5, jm_L 1, jm_L 5] h7 (fun v9 h9 => ((v9 = 0) → K (-2) h9) ∧ ((¬ v9 = 0) → ((x1 ≤ 4) → jm_BI E jm_SH jm_m_Mod_add 2 60 [some (jm_R 78), some (jm_I x1), some (jm_I x2), some (jm_I x3), some (jm_I x4), some (jm_I x5)] [] h9 K) ∧ ((¬ x1 ≤ 4) → ((x4 = 0) → jm_BI E jm_SH jm_m_Mod_add 2 60 [some (jm_R 78), some (jm_I x1), some (jm_I x2), some (jm_I x3), some (jm_I x4), some (jm_I x5)] [] h9 K) ∧ ((¬ x4 = 0) → K (-2) h9))))))))))))) : jm_CI E jm_SH jm_m_Mod_add 2 [jm_R 78, jm_I x1, jm_I x2, jm_I x3, jm_I x4, jm_I x5] h K := by
  refine jm_body (ls0 := [some (jm_R 78), some (jm_I x1), some (jm_I x2), some (jm_I x3), some (jm_I x4), some (jm_I x5)]) (by decide +kernel) rfl rfl (Nat.le_of_ble_eq_true rfl) ?_
  refine jm_iload_n jd_Mod_add_0 rfl rfl ?_
  refine jm_i2l jd_Mod_add_1 ?_
  refine jm_lconst (x := 0) jd_Mod_add_2 ⟨by decide, jm_o64c rfl⟩ ?_
  refine jm_ldc2 (x := 6) jd_Mod_add_3 jc_1099 (jm_o64c rfl) ?_
  refine jm_cS (M' := jm_m_Mod_in) (d' := 0) (av := [jm_L x1, jm_L 0, jm_L 6]) jd_Mod_add_6 jk_Mod_in jw_978 rfl (by omega) ⟨rfl, rfl⟩ (by decide) (Nat.le_of_ble_eq_true rfl) (jm_hqI (fun v1 h1 H => ?_)) H
  refine jm_if_eq (tgt := 57) jd_Mod_add_9 rfl (fun hc2 => ?_) (fun hc2 => ?_)
  · replace H := H.1 hc2
    refine jm_bipush jd_Mod_add_57 jb_m2 ?_
    exact jm_ireturn jd_Mod_add_59 rfl (by decide) ⟨rfl, _, rfl, H⟩
  · replace H := H.2 hc2
    refine jm_iload_n jd_Mod_add_12 rfl rfl ?_
    refine jm_cS (M' := jm_m_Mod_isRegister) (d' := 1) (av := [jm_I x2]) jd_Mod_add_13 jk_Mod_isRegister jw_1100 rfl (by omega) ⟨rfl, rfl⟩ (by decide) (Nat.le_of_ble_eq_true rfl) (jm_hqI (fun v3 h3 H => ?_)) H
    refine jm_if_eq (tgt := 57) jd_Mod_add_16 rfl (fun hc4 => ?_) (fun hc4 => ?_)
    · replace H := H.1 hc4
      refine jm_bipush jd_Mod_add_57 jb_m2 ?_
      exact jm_ireturn jd_Mod_add_59 rfl (by decide) ⟨rfl, _, rfl, H⟩
    · replace H := H.2 hc4
      refine jm_iload_n jd_Mod_add_19 rfl rfl ?_
      refine jm_cS (M' := jm_m_Mod_isRegister) (d' := 1) (av := [jm_I x3]) jd_Mod_add_20 jk_Mod_isRegister jw_1100 rfl (by omega) ⟨rfl, rfl⟩ (by decide) (Nat.le_of_ble_eq_true rfl) (jm_hqI (fun v5 h5 H => ?_)) H
      refine jm_if_eq (tgt := 57) jd_Mod_add_23 rfl (fun hc6 => ?_) (fun hc6 => ?_)
      · replace H := H.1 hc6
        refine jm_bipush jd_Mod_add_57 jb_m2 ?_
        exact jm_ireturn jd_Mod_add_59 rfl (by decide) ⟨rfl, _, rfl, H⟩
      · replace H := H.2 hc6
        refine jm_iload jd_Mod_add_26 rfl ?_
        refine jm_cS (M' := jm_m_Mod_isRegister) (d' := 1) (av := [jm_I x4]) jd_Mod_add_28 jk_Mod_isRegister jw_1100 rfl (by omega) ⟨rfl, rfl⟩ (by decide) (Nat.le_of_ble_eq_true rfl) (jm_hqI (fun v7 h7 H => ?_)) H
        refine jm_if_eq (tgt := 57) jd_Mod_add_31 rfl (fun hc8 => ?_) (fun hc8 => ?_)
        · replace H := H.1 hc8
          refine jm_bipush jd_Mod_add_57 jb_m2 ?_
          exact jm_ireturn jd_Mod_add_59 rfl (by decide) ⟨rfl, _, rfl, H⟩
        · replace H := H.2 hc8
          refine jm_iload jd_Mod_add_34 rfl ?_
          refine jm_i2l jd_Mod_add_36 ?_
          refine jm_lconst (x := 1) jd_Mod_add_37 ⟨by decide, jm_o64c rfl⟩ ?_
          refine jm_ldc2 (x := 5) jd_Mod_add_38 jc_1103 (jm_o64c rfl) ?_
          refine jm_cS (M' := jm_m_Mod_in) (d' := 0) (av := [jm_L x5, jm_L 1, jm_L 5]) jd_Mod_add_41 jk_Mod_in jw_978 rfl (by omega) ⟨rfl, rfl⟩ (by decide) (Nat.le_of_ble_eq_true rfl) (jm_hqI (fun v9 h9 H => ?_)) H
          refine jm_if_eq (tgt := 57) jd_Mod_add_44 rfl (fun hc10 => ?_) (fun hc10 => ?_)
          · replace H := H.1 hc10
            refine jm_bipush jd_Mod_add_57 jb_m2 ?_
            exact jm_ireturn jd_Mod_add_59 rfl (by decide) ⟨rfl, _, rfl, H⟩
          · replace H := H.2 hc10
            refine jm_iload_n jd_Mod_add_47 rfl rfl ?_
            refine jm_iconst jd_Mod_add_48 (jm_o32c rfl) ?_
            refine jm_icmp_le (tgt := 60) jd_Mod_add_49 rfl (fun hc11 => ?_) (fun hc11 => ?_)
            · replace H := H.1 hc11
              exact H
            · replace H := H.2 hc11
              refine jm_iload jd_Mod_add_52 rfl ?_
              refine jm_if_eq (tgt := 60) jd_Mod_add_54 rfl (fun hc12 => ?_) (fun hc12 => ?_)
              · replace H := H.1 hc12
                exact H
              · replace H := H.2 hc12
                refine jm_bipush jd_Mod_add_57 jb_m2 ?_
                exact jm_ireturn jd_Mod_add_59 rfl (by decide) ⟨rfl, _, rfl, H⟩
set_option maxRecDepth 4000 in
theorem jb_Mod_add_60 {E : jm_Env} {x1 x2 x3 x4 x5 : Int} {h : jm_H} {K : Int → jm_H → Prop} (H : ((¬ h 78 32 = 12) → (0 ≤ h 78 32 ∧ h 78 32 < 12) ∧ ((0 ≤ h 78 32 ∧ h 78 32 < 12) ∧ ((0 ≤ h 78 32 ∧ h 78 32 < 12) ∧ ((0 ≤ h 78 32 ∧ h 78 32 < 12) ∧ ((0 ≤ h 78 32 ∧ h 78 32 < 12) ∧ ((0 ≤ h 78 32 ∧ h 78 32 < 12) ∧ (K (jm_w32 ((jm_w32 ((h 78 32) + 1)) - 1)) (jm_up (jm_up (jm_up (jm_up (jm_up (jm_up (jm_up h 99 (Int.toNat (h 78 32)) x1) 100 (Int.toNat (h 78 32)) x2) 101 (Int.toNat (h 78 32)) x3) 102 (Int.toNat (h 78 32)) x4) 103 (Int.toNat (h 78 32)) x5) 104 (Int.toNat (h 78 32)) 1) 78 32 (jm_w32 ((h 78 32) + 1)))))))))) ∧ ((h 78 32 = 12) → K (-4) h)) : jm_BI E jm_SH jm_m_Mod_add 2 60 [some (jm_R 78), some (jm_I x1), some (jm_I x2), some (jm_I x3), some (jm_I x4), some (jm_I x5)] [] h K := by
  refine jm_aload_n jd_Mod_add_60 rfl rfl ?_
  refine jm_gI jd_Mod_add_61 jf_Mod_231 jm_SH_78 ?_
  refine jm_bipush jd_Mod_add_64 jb_12 ?_
  refine jm_icmp_ne (tgt := 72) jd_Mod_add_66 rfl (fun hc1 => ?_) (fun hc1 => ?_)
  · replace H := H.1 hc1
    refine jm_aload_n jd_Mod_add_72 rfl rfl ?_
    refine jm_gR jd_Mod_add_73 jf_Mod_70 jm_SH_78 rfl ?_
    refine jm_aload_n jd_Mod_add_76 rfl rfl ?_
    refine jm_gI jd_Mod_add_77 jf_Mod_231 jm_SH_78 ?_
    refine jm_iload_n jd_Mod_add_80 rfl rfl ?_
    obtain ⟨hb2, H⟩ := H
    refine jm_iastore jd_Mod_add_81 jm_SH_99 hb2 ?_
    refine jm_aload_n jd_Mod_add_82 rfl rfl ?_
    refine jm_gR jd_Mod_add_83 jf_Mod_73 jm_SH_78 rfl ?_
    refine jm_aload_n jd_Mod_add_86 rfl rfl ?_
    refine jm_gI jd_Mod_add_87 jf_Mod_231 jm_SH_78 ?_
    refine jm_topI (y := h 78 32) rfl ?_
    refine jm_iload_n jd_Mod_add_90 rfl rfl ?_
    obtain ⟨hb3, H⟩ := H
    refine jm_iastore jd_Mod_add_91 jm_SH_100 hb3 ?_
    refine jm_aload_n jd_Mod_add_92 rfl rfl ?_
    refine jm_gR jd_Mod_add_93 jf_Mod_76 jm_SH_78 rfl ?_
    refine jm_aload_n jd_Mod_add_96 rfl rfl ?_
    refine jm_gI jd_Mod_add_97 jf_Mod_231 jm_SH_78 ?_
    refine jm_topI (y := h 78 32) rfl ?_
    refine jm_iload_n jd_Mod_add_100 rfl rfl ?_
    obtain ⟨hb4, H⟩ := H
    refine jm_iastore jd_Mod_add_101 jm_SH_101 hb4 ?_
    refine jm_aload_n jd_Mod_add_102 rfl rfl ?_
    refine jm_gR jd_Mod_add_103 jf_Mod_79 jm_SH_78 rfl ?_
    refine jm_aload_n jd_Mod_add_106 rfl rfl ?_
    refine jm_gI jd_Mod_add_107 jf_Mod_231 jm_SH_78 ?_
    refine jm_topI (y := h 78 32) rfl ?_
    refine jm_iload jd_Mod_add_110 rfl ?_
    obtain ⟨hb5, H⟩ := H
    refine jm_iastore jd_Mod_add_112 jm_SH_102 hb5 ?_
    refine jm_aload_n jd_Mod_add_113 rfl rfl ?_
    refine jm_gR jd_Mod_add_114 jf_Mod_82 jm_SH_78 rfl ?_
    refine jm_aload_n jd_Mod_add_117 rfl rfl ?_
    refine jm_gI jd_Mod_add_118 jf_Mod_231 jm_SH_78 ?_
    refine jm_topI (y := h 78 32) rfl ?_
    refine jm_iload jd_Mod_add_121 rfl ?_
    obtain ⟨hb6, H⟩ := H
    refine jm_iastore jd_Mod_add_123 jm_SH_103 hb6 ?_
    refine jm_aload_n jd_Mod_add_124 rfl rfl ?_
    refine jm_gR jd_Mod_add_125 jf_Mod_85 jm_SH_78 rfl ?_
    refine jm_aload_n jd_Mod_add_128 rfl rfl ?_
    refine jm_gI jd_Mod_add_129 jf_Mod_231 jm_SH_78 ?_
    refine jm_topI (y := h 78 32) rfl ?_
    refine jm_iconst jd_Mod_add_132 (jm_o32c rfl) ?_
    obtain ⟨hb7, H⟩ := H
    refine jm_iastore jd_Mod_add_133 jm_SH_104 hb7 ?_
    refine jm_aload_n jd_Mod_add_134 rfl rfl ?_
    refine jm_dup jd_Mod_add_135 rfl ?_
    refine jm_gI jd_Mod_add_136 jf_Mod_231 jm_SH_78 ?_
    refine jm_topI (y := h 78 32) rfl ?_
    refine jm_iconst jd_Mod_add_139 (jm_o32c rfl) ?_
    refine jm_iadd jd_Mod_add_140 ?_
    refine jm_sI jd_Mod_add_141 jp_Mod_231 jm_SH_78 ?_
    refine jm_aload_n jd_Mod_add_144 rfl rfl ?_
    refine jm_gI jd_Mod_add_145 jf_Mod_231 jm_SH_78 ?_
    refine jm_topI (y := jm_w32 ((h 78 32) + 1)) rfl ?_
    refine jm_iconst jd_Mod_add_148 (jm_o32c rfl) ?_
    refine jm_isub jd_Mod_add_149 ?_
    exact jm_ireturn jd_Mod_add_150 rfl (by decide) ⟨rfl, _, rfl, H⟩
  · replace H := H.2 hc1
    refine jm_bipush jd_Mod_add_69 jb_m4 ?_
    exact jm_ireturn jd_Mod_add_71 rfl (by decide) ⟨rfl, _, rfl, H⟩
set_option maxRecDepth 4000 in
theorem jb_Mod_drop {E : jm_Env} {h : jm_H} {K : Int → jm_H → Prop} (H : K (h 78 32) (jm_up h 78 32 0)) : jm_CI E jm_SH jm_m_Mod_drop 0 [jm_R 78] h K := by
  refine jm_body (ls0 := [some (jm_R 78), none]) (by decide +kernel) rfl rfl (Nat.le_of_ble_eq_true rfl) ?_
  refine jm_aload_n jd_Mod_drop_0 rfl rfl ?_
  refine jm_gI jd_Mod_drop_1 jf_Mod_231 jm_SH_78 ?_
  refine jm_istore_n (i := 1) jd_Mod_drop_4 rfl (by decide) (ls2 := [some (jm_R 78), some (jm_I (h 78 32))]) rfl ?_
  refine jm_aload_n jd_Mod_drop_5 rfl rfl ?_
  refine jm_iconst jd_Mod_drop_6 (jm_o32c rfl) ?_
  refine jm_sI jd_Mod_drop_7 jp_Mod_231 jm_SH_78 ?_
  refine jm_iload_n jd_Mod_drop_10 rfl rfl ?_
  exact jm_ireturn jd_Mod_drop_11 rfl (by decide) ⟨rfl, _, rfl, H⟩
set_option maxRecDepth 4000 in
theorem jb_Mod_isInstruction {E : jm_Env} {x1 : Int} {h : jm_H} {K : Int → jm_H → Prop} (H : jm_CI E jm_SH jm_m_Mod_in 0 [jm_L x1, jm_L 0, jm_L (jm_w32 ((h 78 32) - 1))] h (fun v1 h1 => (v1 = 0 ∨ v1 = 1) ∧ K v1 h1)) : jm_CI E jm_SH jm_m_Mod_isInstruction 1 [jm_R 78, jm_I x1] h K := by
  refine jm_body (ls0 := [some (jm_R 78), some (jm_I x1)]) (by decide +kernel) rfl rfl (Nat.le_of_ble_eq_true rfl) ?_
  refine jm_iload_n jd_Mod_isInstruction_0 rfl rfl ?_
  refine jm_i2l jd_Mod_isInstruction_1 ?_
  refine jm_lconst (x := 0) jd_Mod_isInstruction_2 ⟨by decide, jm_o64c rfl⟩ ?_
  refine jm_aload_n jd_Mod_isInstruction_3 rfl rfl ?_
  refine jm_gI jd_Mod_isInstruction_4 jf_Mod_231 jm_SH_78 ?_
  refine jm_iconst jd_Mod_isInstruction_7 (jm_o32c rfl) ?_
  refine jm_isub jd_Mod_isInstruction_8 ?_
  refine jm_i2l jd_Mod_isInstruction_9 ?_
  refine jm_cS (M' := jm_m_Mod_in) (d' := 0) (av := [jm_L x1, jm_L 0, jm_L (jm_w32 ((h 78 32) - 1))]) jd_Mod_isInstruction_10 jk_Mod_in jw_978 rfl (by omega) ⟨rfl, rfl⟩ (by decide) (Nat.le_of_ble_eq_true rfl) (jm_hqI (fun v1 h1 H => ?_)) H
  exact jm_zreturn jd_Mod_isInstruction_13 rfl H.1 (by decide) ⟨rfl, _, rfl, H.2⟩
set_option maxRecDepth 4000 in
theorem jb_Mod_uses {E : jm_Env} {x1 x2 : Int} {h : jm_H} {K : Int → jm_H → Prop} (H : (0 ≤ x1 ∧ x1 < 12) ∧ (((h 101 (Int.toNat x1) = x2) → K 1 h) ∧ ((¬ h 101 (Int.toNat x1) = x2) → (0 ≤ x1 ∧ x1 < 12) ∧ (((5 ≤ h 99 (Int.toNat x1)) → K 0 h) ∧ ((¬ 5 ≤ h 99 (Int.toNat x1)) → (0 ≤ x1 ∧ x1 < 12) ∧ (((¬ h 102 (Int.toNat x1) = x2) → K 0 h) ∧ ((h 102 (Int.toNat x1) = x2) → K 1 h))))))) : jm_CI E jm_SH jm_m_Mod_uses 0 [jm_R 78, jm_I x1, jm_I x2] h K := by
  refine jm_body (ls0 := [some (jm_R 78), some (jm_I x1), some (jm_I x2)]) (by decide +kernel) rfl rfl (Nat.le_of_ble_eq_true rfl) ?_
  refine jm_aload_n jd_Mod_uses_0 rfl rfl ?_
  refine jm_gR jd_Mod_uses_1 jf_Mod_76 jm_SH_78 rfl ?_
  refine jm_iload_n jd_Mod_uses_4 rfl rfl ?_
  obtain ⟨hb1, H⟩ := H
  refine jm_iaload jd_Mod_uses_5 jm_SH_101 hb1 ?_
  refine jm_iload_n jd_Mod_uses_6 rfl rfl ?_
  refine jm_icmp_eq (tgt := 30) jd_Mod_uses_7 rfl (fun hc2 => ?_) (fun hc2 => ?_)
  · replace H := H.1 hc2
    refine jm_iconst jd_Mod_uses_30 (jm_o32c rfl) ?_
    refine jm_goto (tgt := 35) jd_Mod_uses_31 rfl ?_
    exact jm_zreturn jd_Mod_uses_35 rfl (Or.inr rfl) (by decide) ⟨rfl, _, rfl, H⟩
  · replace H := H.2 hc2
    refine jm_aload_n jd_Mod_uses_10 rfl rfl ?_
    refine jm_gR jd_Mod_uses_11 jf_Mod_70 jm_SH_78 rfl ?_
    refine jm_iload_n jd_Mod_uses_14 rfl rfl ?_
    obtain ⟨hb3, H⟩ := H
    refine jm_iaload jd_Mod_uses_15 jm_SH_99 hb3 ?_
    refine jm_iconst jd_Mod_uses_16 (jm_o32c rfl) ?_
    refine jm_icmp_ge (tgt := 34) jd_Mod_uses_17 rfl (fun hc4 => ?_) (fun hc4 => ?_)
    · replace H := H.1 hc4
      refine jm_iconst jd_Mod_uses_34 (jm_o32c rfl) ?_
      exact jm_zreturn jd_Mod_uses_35 rfl (Or.inl rfl) (by decide) ⟨rfl, _, rfl, H⟩
    · replace H := H.2 hc4
      refine jm_aload_n jd_Mod_uses_20 rfl rfl ?_
      refine jm_gR jd_Mod_uses_21 jf_Mod_79 jm_SH_78 rfl ?_
      refine jm_iload_n jd_Mod_uses_24 rfl rfl ?_
      obtain ⟨hb5, H⟩ := H
      refine jm_iaload jd_Mod_uses_25 jm_SH_102 hb5 ?_
      refine jm_iload_n jd_Mod_uses_26 rfl rfl ?_
      refine jm_icmp_ne (tgt := 34) jd_Mod_uses_27 rfl (fun hc6 => ?_) (fun hc6 => ?_)
      · replace H := H.1 hc6
        refine jm_iconst jd_Mod_uses_34 (jm_o32c rfl) ?_
        exact jm_zreturn jd_Mod_uses_35 rfl (Or.inl rfl) (by decide) ⟨rfl, _, rfl, H⟩
      · replace H := H.2 hc6
        refine jm_iconst jd_Mod_uses_30 (jm_o32c rfl) ?_
        refine jm_goto (tgt := 35) jd_Mod_uses_31 rfl ?_
        exact jm_zreturn jd_Mod_uses_35 rfl (Or.inr rfl) (by decide) ⟨rfl, _, rfl, H⟩
set_option maxRecDepth 4000 in
theorem jb_Mod_startOf {E : jm_Env} {x1 : Int} {h : jm_H} {K : Int → jm_H → Prop} (H : (0 ≤ x1 ∧ x1 < 12) ∧ (((¬ x1 = 0) → (0 ≤ jm_w32 (x1 - 1) ∧ jm_w32 (x1 - 1) < 12) ∧ (jm_BI E jm_SH jm_m_Mod_startOf 1 29 [some (jm_R 78), some (jm_I x1), some (jm_I (h 105 (Int.toNat x1))), some (jm_I (jm_w32 ((h 106 (Int.toNat (jm_w32 (x1 - 1)))) + 1))), some (jm_I 0), none, none] [] h K)) ∧ ((x1 = 0) → jm_BI E jm_SH jm_m_Mod_startOf 1 29 [some (jm_R 78), some (jm_I x1), some (jm_I (h 105 (Int.toNat x1))), some (jm_I 0), some (jm_I 0), none, none] [] h K))) : jm_CI E jm_SH jm_m_Mod_startOf 1 [jm_R 78, jm_I x1] h K := by
  refine jm_body (ls0 := [some (jm_R 78), some (jm_I x1), none, none, none, none, none]) (by decide +kernel) rfl rfl (Nat.le_of_ble_eq_true rfl) ?_
  refine jm_aload_n jd_Mod_startOf_0 rfl rfl ?_
  refine jm_gR jd_Mod_startOf_1 jf_Mod_88 jm_SH_78 rfl ?_
  refine jm_iload_n jd_Mod_startOf_4 rfl rfl ?_
  obtain ⟨hb1, H⟩ := H
  refine jm_iaload jd_Mod_startOf_5 jm_SH_105 hb1 ?_
  refine jm_istore_n (i := 2) jd_Mod_startOf_6 rfl (by decide) (ls2 := [some (jm_R 78), some (jm_I x1), some (jm_I (h 105 (Int.toNat x1))), none, none, none, none]) rfl ?_
  refine jm_iload_n jd_Mod_startOf_7 rfl rfl ?_
  refine jm_if_ne (tgt := 15) jd_Mod_startOf_8 rfl (fun hc2 => ?_) (fun hc2 => ?_)
  · replace H := H.1 hc2
    refine jm_aload_n jd_Mod_startOf_15 rfl rfl ?_
    refine jm_gR jd_Mod_startOf_16 jf_Mod_91 jm_SH_78 rfl ?_
    refine jm_iload_n jd_Mod_startOf_19 rfl rfl ?_
    refine jm_iconst jd_Mod_startOf_20 (jm_o32c rfl) ?_
    refine jm_isub jd_Mod_startOf_21 ?_
    obtain ⟨hb3, H⟩ := H
    refine jm_iaload jd_Mod_startOf_22 jm_SH_106 hb3 ?_
    refine jm_iconst jd_Mod_startOf_23 (jm_o32c rfl) ?_
    refine jm_iadd jd_Mod_startOf_24 ?_
    refine jm_istore_n (i := 3) jd_Mod_startOf_25 rfl (by decide) (ls2 := [some (jm_R 78), some (jm_I x1), some (jm_I (h 105 (Int.toNat x1))), some (jm_I (jm_w32 ((h 106 (Int.toNat (jm_w32 (x1 - 1)))) + 1))), none, none, none]) rfl ?_
    refine jm_iconst jd_Mod_startOf_26 (jm_o32c rfl) ?_
    refine jm_istore (i := 4) jd_Mod_startOf_27 (by decide) (ls2 := [some (jm_R 78), some (jm_I x1), some (jm_I (h 105 (Int.toNat x1))), some (jm_I (jm_w32 ((h 106 (Int.toNat (jm_w32 (x1 - 1)))) + 1))), some (jm_I 0), none, none]) rfl ?_
    exact H
  · replace H := H.2 hc2
    refine jm_iconst jd_Mod_startOf_11 (jm_o32c rfl) ?_
    refine jm_goto (tgt := 25) jd_Mod_startOf_12 rfl ?_
    refine jm_istore_n (i := 3) jd_Mod_startOf_25 rfl (by decide) (ls2 := [some (jm_R 78), some (jm_I x1), some (jm_I (h 105 (Int.toNat x1))), some (jm_I 0), none, none, none]) rfl ?_
    refine jm_iconst jd_Mod_startOf_26 (jm_o32c rfl) ?_
    refine jm_istore (i := 4) jd_Mod_startOf_27 (by decide) (ls2 := [some (jm_R 78), some (jm_I x1), some (jm_I (h 105 (Int.toNat x1))), some (jm_I 0), some (jm_I 0), none, none]) rfl ?_
    exact H
set_option maxRecDepth 4000 in
theorem jb_Mod_startOf_29 {E : jm_Env} {x1 x2 x3 x4 : Int} {h : jm_H} {K : Int → jm_H → Prop} (H : ((6 ≤ x4) → K x3 h) ∧ ((¬ 6 ≤ x4) → jm_CI E jm_SH jm_m_Mod_uses 0 [jm_R 78, jm_I x2, jm_I x4] h (fun v2 h2 => ((v2 = 0) → jm_BI E jm_SH jm_m_Mod_startOf 1 29 [some (jm_R 78), some (jm_I x1), some (jm_I x2), some (jm_I x3), some (jm_I (jm_w32 (x4 + 1))), none, none] [] h2 K) ∧ ((¬ v2 = 0) → jm_BI E jm_SH jm_m_Mod_startOf 1 51 [some (jm_R 78), some (jm_I x1), some (jm_I x2), some (jm_I x3), some (jm_I x4), some (jm_I (jm_w32 (x1 - 1))), none] [] h2 K)))) : jm_BI E jm_SH jm_m_Mod_startOf 1 29 [some (jm_R 78), some (jm_I x1), some (jm_I x2), some (jm_I x3), some (jm_I x4), none, none] [] h K := by
  refine jm_iload jd_Mod_startOf_29 rfl ?_
  refine jm_bipush jd_Mod_startOf_31 jb_6 ?_
  refine jm_icmp_ge (tgt := 129) jd_Mod_startOf_33 rfl (fun hc1 => ?_) (fun hc1 => ?_)
  · replace H := H.1 hc1
    refine jm_iload_n jd_Mod_startOf_129 rfl rfl ?_
    exact jm_ireturn jd_Mod_startOf_130 rfl (by decide) ⟨rfl, _, rfl, H⟩
  · replace H := H.2 hc1
    refine jm_aload_n jd_Mod_startOf_36 rfl rfl ?_
    refine jm_iload_n jd_Mod_startOf_37 rfl rfl ?_
    refine jm_iload jd_Mod_startOf_38 rfl ?_
    refine jm_cV (M' := jm_m_Mod_uses) (d' := 0) (av := [jm_I x2, jm_I x4]) jd_Mod_startOf_40 jk_Mod_uses jw_1124 rfl (by omega) ⟨rfl, rfl⟩ (by decide) (Nat.le_of_ble_eq_true rfl) jm_SH_78 rfl rfl (jm_hqI (fun v2 h2 H => ?_)) H
    refine jm_if_eq (tgt := 123) jd_Mod_startOf_43 rfl (fun hc3 => ?_) (fun hc3 => ?_)
    · replace H := H.1 hc3
      refine jm_iinc jd_Mod_startOf_123 rfl (by decide) (ls2 := [some (jm_R 78), some (jm_I x1), some (jm_I x2), some (jm_I x3), some (jm_I (jm_w32 (x4 + 1))), none, none]) rfl ?_
      refine jm_goto (tgt := 29) jd_Mod_startOf_126 rfl ?_
      exact H
    · replace H := H.2 hc3
      refine jm_iload_n jd_Mod_startOf_46 rfl rfl ?_
      refine jm_iconst jd_Mod_startOf_47 (jm_o32c rfl) ?_
      refine jm_isub jd_Mod_startOf_48 ?_
      refine jm_istore (i := 5) jd_Mod_startOf_49 (by decide) (ls2 := [some (jm_R 78), some (jm_I x1), some (jm_I x2), some (jm_I x3), some (jm_I x4), some (jm_I (jm_w32 (x1 - 1))), none]) rfl ?_
      exact H
set_option maxRecDepth 4000 in
theorem jb_Mod_startOf_51 {E : jm_Env} {x1 x2 x3 x4 x5 : Int} {h : jm_H} {K : Int → jm_H → Prop} (H : ((x5 < 0) → jm_BI E jm_SH jm_m_Mod_startOf 1 79 [some (jm_R 78), some (jm_I x1), some (jm_I x2), some (jm_I x3), some (jm_I x4), some (jm_I x5), none] [] h K) ∧ ((¬ x5 < 0) → (0 ≤ x5 ∧ x5 < 12) ∧ ((0 ≤ h 105 (Int.toNat x5) ∧ h 105 (Int.toNat x5) < 12) ∧ (((h 100 (Int.toNat (h 105 (Int.toNat x5))) = x4) → jm_BI E jm_SH jm_m_Mod_startOf 1 79 [some (jm_R 78), some (jm_I x1), some (jm_I x2), some (jm_I x3), some (jm_I x4), some (jm_I x5), none] [] h K) ∧ ((¬ h 100 (Int.toNat (h 105 (Int.toNat x5))) = x4) → jm_BI E jm_SH jm_m_Mod_startOf 1 51 [some (jm_R 78), some (jm_I x1), some (jm_I x2), some (jm_I x3), some (jm_I x4), some (jm_I (jm_w32 (x5 + (-1)))), none] [] h K))))) : jm_BI E jm_SH jm_m_Mod_startOf 1 51 [some (jm_R 78), some (jm_I x1), some (jm_I x2), some (jm_I x3), some (jm_I x4), some (jm_I x5), none] [] h K := by
  refine jm_iload jd_Mod_startOf_51 rfl ?_
  refine jm_if_lt (tgt := 79) jd_Mod_startOf_53 rfl (fun hc1 => ?_) (fun hc1 => ?_)
  · replace H := H.1 hc1
    exact H
  · replace H := H.2 hc1
    refine jm_aload_n jd_Mod_startOf_56 rfl rfl ?_
    refine jm_gR jd_Mod_startOf_57 jf_Mod_73 jm_SH_78 rfl ?_
    refine jm_aload_n jd_Mod_startOf_60 rfl rfl ?_
    refine jm_gR jd_Mod_startOf_61 jf_Mod_88 jm_SH_78 rfl ?_
    refine jm_iload jd_Mod_startOf_64 rfl ?_
    obtain ⟨hb2, H⟩ := H
    refine jm_iaload jd_Mod_startOf_66 jm_SH_105 hb2 ?_
    obtain ⟨hb3, H⟩ := H
    refine jm_iaload jd_Mod_startOf_67 jm_SH_100 hb3 ?_
    refine jm_iload jd_Mod_startOf_68 rfl ?_
    refine jm_icmp_eq (tgt := 79) jd_Mod_startOf_70 rfl (fun hc4 => ?_) (fun hc4 => ?_)
    · replace H := H.1 hc4
      exact H
    · replace H := H.2 hc4
      refine jm_iinc jd_Mod_startOf_73 rfl (by decide) (ls2 := [some (jm_R 78), some (jm_I x1), some (jm_I x2), some (jm_I x3), some (jm_I x4), some (jm_I (jm_w32 (x5 + (-1)))), none]) rfl ?_
      refine jm_goto (tgt := 51) jd_Mod_startOf_76 rfl ?_
      exact H
set_option maxRecDepth 4000 in
theorem jb_Mod_startOf_79 {E : jm_Env} {x1 x2 x3 x4 x5 : Int} {h : jm_H} {K : Int → jm_H → Prop} (H : ((0 ≤ x5) → (0 ≤ x5 ∧ x5 < 12) ∧ ((0 ≤ x5 ∧ x5 < 12) ∧ ((0 ≤ h 105 (Int.toNat x5) ∧ h 105 (Int.toNat x5) < 12) ∧ (((jm_w32 ((h 106 (Int.toNat x5)) + (h 103 (Int.toNat (h 105 (Int.toNat x5))))) ≤ x3) → jm_BI E jm_SH jm_m_Mod_startOf 1 29 [some (jm_R 78), some (jm_I x1), some (jm_I x2), some (jm_I x3), some (jm_I (jm_w32 (x4 + 1))), none, none] [] h K) ∧ ((¬ jm_w32 ((h 106 (Int.toNat x5)) + (h 103 (Int.toNat (h 105 (Int.toNat x5))))) ≤ x3) → jm_BI E jm_SH jm_m_Mod_startOf 1 29 [some (jm_R 78), some (jm_I x1), some (jm_I x2), some (jm_I (jm_w32 ((h 106 (Int.toNat x5)) + (h 103 (Int.toNat (h 105 (Int.toNat x5))))))), some (jm_I (jm_w32 (x4 + 1))), none, none] [] h K))))) ∧ ((¬ 0 ≤ x5) → ((0 ≤ x3) → jm_BI E jm_SH jm_m_Mod_startOf 1 29 [some (jm_R 78), some (jm_I x1), some (jm_I x2), some (jm_I x3), some (jm_I (jm_w32 (x4 + 1))), none, none] [] h K) ∧ ((¬ 0 ≤ x3) → jm_BI E jm_SH jm_m_Mod_startOf 1 29 [some (jm_R 78), some (jm_I x1), some (jm_I x2), some (jm_I 0), some (jm_I (jm_w32 (x4 + 1))), none, none] [] h K))) : jm_BI E jm_SH jm_m_Mod_startOf 1 79 [some (jm_R 78), some (jm_I x1), some (jm_I x2), some (jm_I x3), some (jm_I x4), some (jm_I x5), none] [] h K := by
  refine jm_iload jd_Mod_startOf_79 rfl ?_
  refine jm_if_ge (tgt := 88) jd_Mod_startOf_81 rfl (fun hc1 => ?_) (fun hc1 => ?_)
  · replace H := H.1 hc1
    refine jm_aload_n jd_Mod_startOf_88 rfl rfl ?_
    refine jm_gR jd_Mod_startOf_89 jf_Mod_91 jm_SH_78 rfl ?_
    refine jm_iload jd_Mod_startOf_92 rfl ?_
    obtain ⟨hb2, H⟩ := H
    refine jm_iaload jd_Mod_startOf_94 jm_SH_106 hb2 ?_
    refine jm_aload_n jd_Mod_startOf_95 rfl rfl ?_
    refine jm_gR jd_Mod_startOf_96 jf_Mod_82 jm_SH_78 rfl ?_
    refine jm_aload_n jd_Mod_startOf_99 rfl rfl ?_
    refine jm_gR jd_Mod_startOf_100 jf_Mod_88 jm_SH_78 rfl ?_
    refine jm_iload jd_Mod_startOf_103 rfl ?_
    obtain ⟨hb3, H⟩ := H
    refine jm_iaload jd_Mod_startOf_105 jm_SH_105 hb3 ?_
    obtain ⟨hb4, H⟩ := H
    refine jm_iaload jd_Mod_startOf_106 jm_SH_103 hb4 ?_
    refine jm_iadd jd_Mod_startOf_107 ?_
    refine jm_istore (i := 6) jd_Mod_startOf_108 (by decide) (ls2 := [some (jm_R 78), some (jm_I x1), some (jm_I x2), some (jm_I x3), some (jm_I x4), some (jm_I x5), some (jm_I (jm_w32 ((h 106 (Int.toNat x5)) + (h 103 (Int.toNat (h 105 (Int.toNat x5)))))))]) rfl ?_
    refine jm_iload jd_Mod_startOf_110 rfl ?_
    refine jm_iload_n jd_Mod_startOf_112 rfl rfl ?_
    refine jm_icmp_le (tgt := 121) jd_Mod_startOf_113 rfl (fun hc5 => ?_) (fun hc5 => ?_)
    · replace H := H.1 hc5
      refine jm_iload_n jd_Mod_startOf_121 rfl rfl ?_
      refine jm_istore_n (i := 3) jd_Mod_startOf_122 rfl (by decide) (ls2 := [some (jm_R 78), some (jm_I x1), some (jm_I x2), some (jm_I x3), some (jm_I x4), some (jm_I x5), some (jm_I (jm_w32 ((h 106 (Int.toNat x5)) + (h 103 (Int.toNat (h 105 (Int.toNat x5)))))))]) rfl ?_
      refine jm_iinc jd_Mod_startOf_123 rfl (by decide) (ls2 := [some (jm_R 78), some (jm_I x1), some (jm_I x2), some (jm_I x3), some (jm_I (jm_w32 (x4 + 1))), some (jm_I x5), some (jm_I (jm_w32 ((h 106 (Int.toNat x5)) + (h 103 (Int.toNat (h 105 (Int.toNat x5)))))))]) rfl ?_
      refine jm_goto (tgt := 29) jd_Mod_startOf_126 rfl ?_
      refine jm_keepG [true, true, true, true, true, false, false] (ls2 := [some (jm_R 78), some (jm_I x1), some (jm_I x2), some (jm_I x3), some (jm_I (jm_w32 (x4 + 1))), none, none]) (by rfl) (by rfl) ?_
      exact H
    · replace H := H.2 hc5
      refine jm_iload jd_Mod_startOf_116 rfl ?_
      refine jm_goto (tgt := 122) jd_Mod_startOf_118 rfl ?_
      refine jm_istore_n (i := 3) jd_Mod_startOf_122 rfl (by decide) (ls2 := [some (jm_R 78), some (jm_I x1), some (jm_I x2), some (jm_I (jm_w32 ((h 106 (Int.toNat x5)) + (h 103 (Int.toNat (h 105 (Int.toNat x5))))))), some (jm_I x4), some (jm_I x5), some (jm_I (jm_w32 ((h 106 (Int.toNat x5)) + (h 103 (Int.toNat (h 105 (Int.toNat x5)))))))]) rfl ?_
      refine jm_iinc jd_Mod_startOf_123 rfl (by decide) (ls2 := [some (jm_R 78), some (jm_I x1), some (jm_I x2), some (jm_I (jm_w32 ((h 106 (Int.toNat x5)) + (h 103 (Int.toNat (h 105 (Int.toNat x5))))))), some (jm_I (jm_w32 (x4 + 1))), some (jm_I x5), some (jm_I (jm_w32 ((h 106 (Int.toNat x5)) + (h 103 (Int.toNat (h 105 (Int.toNat x5)))))))]) rfl ?_
      refine jm_goto (tgt := 29) jd_Mod_startOf_126 rfl ?_
      refine jm_keepG [true, true, true, true, true, false, false] (ls2 := [some (jm_R 78), some (jm_I x1), some (jm_I x2), some (jm_I (jm_w32 ((h 106 (Int.toNat x5)) + (h 103 (Int.toNat (h 105 (Int.toNat x5))))))), some (jm_I (jm_w32 (x4 + 1))), none, none]) (by rfl) (by rfl) ?_
      exact H
  · replace H := H.2 hc1
    refine jm_iconst jd_Mod_startOf_84 (jm_o32c rfl) ?_
    refine jm_goto (tgt := 108) jd_Mod_startOf_85 rfl ?_
    refine jm_istore (i := 6) jd_Mod_startOf_108 (by decide) (ls2 := [some (jm_R 78), some (jm_I x1), some (jm_I x2), some (jm_I x3), some (jm_I x4), some (jm_I x5), some (jm_I 0)]) rfl ?_
    refine jm_iload jd_Mod_startOf_110 rfl ?_
    refine jm_iload_n jd_Mod_startOf_112 rfl rfl ?_
    refine jm_icmp_le (tgt := 121) jd_Mod_startOf_113 rfl (fun hc6 => ?_) (fun hc6 => ?_)
    · replace H := H.1 hc6
      refine jm_iload_n jd_Mod_startOf_121 rfl rfl ?_
      refine jm_istore_n (i := 3) jd_Mod_startOf_122 rfl (by decide) (ls2 := [some (jm_R 78), some (jm_I x1), some (jm_I x2), some (jm_I x3), some (jm_I x4), some (jm_I x5), some (jm_I 0)]) rfl ?_
      refine jm_iinc jd_Mod_startOf_123 rfl (by decide) (ls2 := [some (jm_R 78), some (jm_I x1), some (jm_I x2), some (jm_I x3), some (jm_I (jm_w32 (x4 + 1))), some (jm_I x5), some (jm_I 0)]) rfl ?_
      refine jm_goto (tgt := 29) jd_Mod_startOf_126 rfl ?_
      refine jm_keepG [true, true, true, true, true, false, false] (ls2 := [some (jm_R 78), some (jm_I x1), some (jm_I x2), some (jm_I x3), some (jm_I (jm_w32 (x4 + 1))), none, none]) (by rfl) (by rfl) ?_
      exact H
    · replace H := H.2 hc6
      refine jm_iload jd_Mod_startOf_116 rfl ?_
      refine jm_goto (tgt := 122) jd_Mod_startOf_118 rfl ?_
      refine jm_istore_n (i := 3) jd_Mod_startOf_122 rfl (by decide) (ls2 := [some (jm_R 78), some (jm_I x1), some (jm_I x2), some (jm_I 0), some (jm_I x4), some (jm_I x5), some (jm_I 0)]) rfl ?_
      refine jm_iinc jd_Mod_startOf_123 rfl (by decide) (ls2 := [some (jm_R 78), some (jm_I x1), some (jm_I x2), some (jm_I 0), some (jm_I (jm_w32 (x4 + 1))), some (jm_I x5), some (jm_I 0)]) rfl ?_
      refine jm_goto (tgt := 29) jd_Mod_startOf_126 rfl ?_
      refine jm_keepG [true, true, true, true, true, false, false] (ls2 := [some (jm_R 78), some (jm_I x1), some (jm_I x2), some (jm_I 0), some (jm_I (jm_w32 (x4 + 1))), none, none]) (by rfl) (by rfl) ?_
      exact H
set_option maxRecDepth 4000 in
theorem jb_Mod_endAsWritten {E : jm_Env} {h : jm_H} {K : Int → jm_H → Prop} (H : jm_BI E jm_SH jm_m_Mod_endAsWritten 2 4 [some (jm_R 78), some (jm_I 0), some (jm_I 0)] [] h K) : jm_CI E jm_SH jm_m_Mod_endAsWritten 2 [jm_R 78] h K := by
  refine jm_body (ls0 := [some (jm_R 78), none, none]) (by decide +kernel) rfl rfl (Nat.le_of_ble_eq_true rfl) ?_
  refine jm_iconst jd_Mod_endAsWritten_0 (jm_o32c rfl) ?_
  refine jm_istore_n (i := 1) jd_Mod_endAsWritten_1 rfl (by decide) (ls2 := [some (jm_R 78), some (jm_I 0), none]) rfl ?_
  refine jm_iconst jd_Mod_endAsWritten_2 (jm_o32c rfl) ?_
  refine jm_istore_n (i := 2) jd_Mod_endAsWritten_3 rfl (by decide) (ls2 := [some (jm_R 78), some (jm_I 0), some (jm_I 0)]) rfl ?_
  exact H
set_option maxRecDepth 4000 in
theorem jb_Mod_endAsWritten_4 {E : jm_Env} {x1 x2 : Int} {h : jm_H} {K : Int → jm_H → Prop} (H : ((h 78 32 ≤ x2) → K x1 h) ∧ ((¬ h 78 32 ≤ x2) → (0 ≤ x2 ∧ x2 < 12) ∧ (jm_CI E jm_SH jm_m_Mod_startOf 1 [jm_R 78, jm_I x2] (jm_up h 105 (Int.toNat x2) x2) (fun v3 h3 => (0 ≤ x2 ∧ x2 < 12) ∧ ((0 ≤ x2 ∧ x2 < 12) ∧ ((0 ≤ x2 ∧ x2 < 12) ∧ (((jm_w32 (((jm_up h3 106 (Int.toNat x2) v3) 106 (Int.toNat x2)) + (h3 103 (Int.toNat x2))) ≤ x1) → jm_BI E jm_SH jm_m_Mod_endAsWritten 2 4 [some (jm_R 78), some (jm_I x1), some (jm_I (jm_w32 (x2 + 1)))] [] (jm_up h3 106 (Int.toNat x2) v3) K) ∧ ((¬ jm_w32 (((jm_up h3 106 (Int.toNat x2) v3) 106 (Int.toNat x2)) + (h3 103 (Int.toNat x2))) ≤ x1) → (0 ≤ x2 ∧ x2 < 12) ∧ ((0 ≤ x2 ∧ x2 < 12) ∧ (jm_BI E jm_SH jm_m_Mod_endAsWritten 2 4 [some (jm_R 78), some (jm_I (jm_w32 (((jm_up h3 106 (Int.toNat x2) v3) 106 (Int.toNat x2)) + (h3 103 (Int.toNat x2))))), some (jm_I (jm_w32 (x2 + 1)))] [] (jm_up h3 106 (Int.toNat x2) v3) K)))))))))) : jm_BI E jm_SH jm_m_Mod_endAsWritten 2 4 [some (jm_R 78), some (jm_I x1), some (jm_I x2)] [] h K := by
  refine jm_iload_n jd_Mod_endAsWritten_4 rfl rfl ?_
  refine jm_aload_n jd_Mod_endAsWritten_5 rfl rfl ?_
  refine jm_gI jd_Mod_endAsWritten_6 jf_Mod_231 jm_SH_78 ?_
  refine jm_icmp_ge (tgt := 71) jd_Mod_endAsWritten_9 rfl (fun hc1 => ?_) (fun hc1 => ?_)
  · replace H := H.1 hc1
    refine jm_iload_n jd_Mod_endAsWritten_71 rfl rfl ?_
    exact jm_ireturn jd_Mod_endAsWritten_72 rfl (by decide) ⟨rfl, _, rfl, H⟩
  · replace H := H.2 hc1
    refine jm_aload_n jd_Mod_endAsWritten_12 rfl rfl ?_
    refine jm_gR jd_Mod_endAsWritten_13 jf_Mod_88 jm_SH_78 rfl ?_
    refine jm_iload_n jd_Mod_endAsWritten_16 rfl rfl ?_
    refine jm_iload_n jd_Mod_endAsWritten_17 rfl rfl ?_
    obtain ⟨hb2, H⟩ := H
    refine jm_iastore jd_Mod_endAsWritten_18 jm_SH_105 hb2 ?_
    refine jm_aload_n jd_Mod_endAsWritten_19 rfl rfl ?_
    refine jm_gR jd_Mod_endAsWritten_20 jf_Mod_91 jm_SH_78 rfl ?_
    refine jm_iload_n jd_Mod_endAsWritten_23 rfl rfl ?_
    refine jm_aload_n jd_Mod_endAsWritten_24 rfl rfl ?_
    refine jm_iload_n jd_Mod_endAsWritten_25 rfl rfl ?_
    refine jm_cV (M' := jm_m_Mod_startOf) (d' := 1) (av := [jm_I x2]) jd_Mod_endAsWritten_26 jk_Mod_startOf jw_1120 rfl (by omega) ⟨rfl, rfl⟩ (by decide) (Nat.le_of_ble_eq_true rfl) jm_SH_78 rfl rfl (jm_hqI (fun v3 h3 H => ?_)) H
    obtain ⟨hb4, H⟩ := H
    refine jm_iastore jd_Mod_endAsWritten_29 jm_SH_106 hb4 ?_
    refine jm_aload_n jd_Mod_endAsWritten_30 rfl rfl ?_
    refine jm_gR jd_Mod_endAsWritten_31 jf_Mod_91 jm_SH_78 rfl ?_
    refine jm_iload_n jd_Mod_endAsWritten_34 rfl rfl ?_
    obtain ⟨hb5, H⟩ := H
    refine jm_iaload jd_Mod_endAsWritten_35 jm_SH_106 hb5 ?_
    refine jm_aload_n jd_Mod_endAsWritten_36 rfl rfl ?_
    refine jm_gR jd_Mod_endAsWritten_37 jf_Mod_82 jm_SH_78 rfl ?_
    refine jm_iload_n jd_Mod_endAsWritten_40 rfl rfl ?_
    obtain ⟨hb6, H⟩ := H
    refine jm_iaload jd_Mod_endAsWritten_41 jm_SH_103 hb6 ?_
    refine jm_topI (y := h3 103 (Int.toNat x2)) rfl ?_
    refine jm_iadd jd_Mod_endAsWritten_42 ?_
    refine jm_iload_n jd_Mod_endAsWritten_43 rfl rfl ?_
    refine jm_icmp_le (tgt := 63) jd_Mod_endAsWritten_44 rfl (fun hc7 => ?_) (fun hc7 => ?_)
    · replace H := H.1 hc7
      refine jm_iload_n jd_Mod_endAsWritten_63 rfl rfl ?_
      refine jm_istore_n (i := 1) jd_Mod_endAsWritten_64 rfl (by decide) (ls2 := [some (jm_R 78), some (jm_I x1), some (jm_I x2)]) rfl ?_
      refine jm_iinc jd_Mod_endAsWritten_65 rfl (by decide) (ls2 := [some (jm_R 78), some (jm_I x1), some (jm_I (jm_w32 (x2 + 1)))]) rfl ?_
      refine jm_goto (tgt := 4) jd_Mod_endAsWritten_68 rfl ?_
      exact H
    · replace H := H.2 hc7
      refine jm_aload_n jd_Mod_endAsWritten_47 rfl rfl ?_
      refine jm_gR jd_Mod_endAsWritten_48 jf_Mod_91 jm_SH_78 rfl ?_
      refine jm_iload_n jd_Mod_endAsWritten_51 rfl rfl ?_
      obtain ⟨hb8, H⟩ := H
      refine jm_iaload jd_Mod_endAsWritten_52 jm_SH_106 hb8 ?_
      refine jm_aload_n jd_Mod_endAsWritten_53 rfl rfl ?_
      refine jm_gR jd_Mod_endAsWritten_54 jf_Mod_82 jm_SH_78 rfl ?_
      refine jm_iload_n jd_Mod_endAsWritten_57 rfl rfl ?_
      obtain ⟨hb9, H⟩ := H
      refine jm_iaload jd_Mod_endAsWritten_58 jm_SH_103 hb9 ?_
      refine jm_topI (y := h3 103 (Int.toNat x2)) rfl ?_
      refine jm_iadd jd_Mod_endAsWritten_59 ?_
      refine jm_goto (tgt := 64) jd_Mod_endAsWritten_60 rfl ?_
      refine jm_istore_n (i := 1) jd_Mod_endAsWritten_64 rfl (by decide) (ls2 := [some (jm_R 78), some (jm_I (jm_w32 (((jm_up h3 106 (Int.toNat x2) v3) 106 (Int.toNat x2)) + (h3 103 (Int.toNat x2))))), some (jm_I x2)]) rfl ?_
      refine jm_iinc jd_Mod_endAsWritten_65 rfl (by decide) (ls2 := [some (jm_R 78), some (jm_I (jm_w32 (((jm_up h3 106 (Int.toNat x2) v3) 106 (Int.toNat x2)) + (h3 103 (Int.toNat x2))))), some (jm_I (jm_w32 (x2 + 1)))]) rfl ?_
      refine jm_goto (tgt := 4) jd_Mod_endAsWritten_68 rfl ?_
      exact H
set_option maxRecDepth 4000 in
theorem jb_Mod_about {E : jm_Env} {x1 x2 : Int} {h : jm_H} {K : Int → jm_H → Prop} (H : jm_CI E jm_SH jm_m_Mod_isInstruction 1 [jm_R 78, jm_I x1] h (fun v1 h1 => ((¬ v1 = 0) → (x2 = 0 → (0 ≤ x1 ∧ x1 < 12) ∧ (K (h1 99 (Int.toNat x1)) h1)) ∧ ((x2 = 1 → (0 ≤ x1 ∧ x1 < 12) ∧ (K (h1 100 (Int.toNat x1)) h1)) ∧ ((x2 = 2 → (0 ≤ x1 ∧ x1 < 12) ∧ (K (h1 101 (Int.toNat x1)) h1)) ∧ ((x2 = 3 → (0 ≤ x1 ∧ x1 < 12) ∧ (K (h1 102 (Int.toNat x1)) h1)) ∧ ((x2 = 4 → (0 ≤ x1 ∧ x1 < 12) ∧ (K (h1 103 (Int.toNat x1)) h1)) ∧ ((x2 = 5 → jm_CI E jm_SH jm_m_Mod_endAsWritten 2 [jm_R 78] h1 (fun v14 h14 => (0 ≤ x1 ∧ x1 < 12) ∧ (K (h14 106 (Int.toNat x1)) h14))) ∧ (((¬ x2 = 0 ∧ ¬ x2 = 1 ∧ ¬ x2 = 2 ∧ ¬ x2 = 3 ∧ ¬ x2 = 4 ∧ ¬ x2 = 5) → K (-2) h1)))))))) ∧ ((v1 = 0) → K (-1) h1))) : jm_CI E jm_SH jm_m_Mod_about 3 [jm_R 78, jm_I x1, jm_I x2] h K := by
  refine jm_body (ls0 := [some (jm_R 78), some (jm_I x1), some (jm_I x2)]) (by decide +kernel) rfl rfl (Nat.le_of_ble_eq_true rfl) ?_
  refine jm_aload_n jd_Mod_about_0 rfl rfl ?_
  refine jm_iload_n jd_Mod_about_1 rfl rfl ?_
  refine jm_cV (M' := jm_m_Mod_isInstruction) (d' := 1) (av := [jm_I x1]) jd_Mod_about_2 jk_Mod_isInstruction jw_1112 rfl (by omega) ⟨rfl, rfl⟩ (by decide) (Nat.le_of_ble_eq_true rfl) jm_SH_78 rfl rfl (jm_hqI (fun v1 h1 H => ?_)) H
  refine jm_if_ne (tgt := 10) jd_Mod_about_5 rfl (fun hc2 => ?_) (fun hc2 => ?_)
  · replace H := H.1 hc2
    refine jm_iload_n jd_Mod_about_10 rfl rfl ?_
    by_cases hc3 : x2 = 0
    · replace H := H.1 hc3
      refine jm_tableIn (tgt := 48) jd_Mod_about_11 (by omega) (by omega) (by first | (rw [hc3]; rfl) | rw [hc3]) rfl ?_
      refine jm_aload_n jd_Mod_about_48 rfl rfl ?_
      refine jm_gR jd_Mod_about_49 jf_Mod_70 jm_SH_78 rfl ?_
      refine jm_iload_n jd_Mod_about_52 rfl rfl ?_
      obtain ⟨hb4, H⟩ := H
      refine jm_iaload jd_Mod_about_53 jm_SH_99 hb4 ?_
      exact jm_ireturn jd_Mod_about_54 rfl (by decide) ⟨rfl, _, rfl, H⟩
    · replace H := H.2
      by_cases hc5 : x2 = 1
      · replace H := H.1 hc5
        refine jm_tableIn (tgt := 55) jd_Mod_about_11 (by omega) (by omega) (by first | (rw [hc5]; rfl) | rw [hc5]) rfl ?_
        refine jm_aload_n jd_Mod_about_55 rfl rfl ?_
        refine jm_gR jd_Mod_about_56 jf_Mod_73 jm_SH_78 rfl ?_
        refine jm_iload_n jd_Mod_about_59 rfl rfl ?_
        obtain ⟨hb6, H⟩ := H
        refine jm_iaload jd_Mod_about_60 jm_SH_100 hb6 ?_
        exact jm_ireturn jd_Mod_about_61 rfl (by decide) ⟨rfl, _, rfl, H⟩
      · replace H := H.2
        by_cases hc7 : x2 = 2
        · replace H := H.1 hc7
          refine jm_tableIn (tgt := 62) jd_Mod_about_11 (by omega) (by omega) (by first | (rw [hc7]; rfl) | rw [hc7]) rfl ?_
          refine jm_aload_n jd_Mod_about_62 rfl rfl ?_
          refine jm_gR jd_Mod_about_63 jf_Mod_76 jm_SH_78 rfl ?_
          refine jm_iload_n jd_Mod_about_66 rfl rfl ?_
          obtain ⟨hb8, H⟩ := H
          refine jm_iaload jd_Mod_about_67 jm_SH_101 hb8 ?_
          exact jm_ireturn jd_Mod_about_68 rfl (by decide) ⟨rfl, _, rfl, H⟩
        · replace H := H.2
          by_cases hc9 : x2 = 3
          · replace H := H.1 hc9
            refine jm_tableIn (tgt := 69) jd_Mod_about_11 (by omega) (by omega) (by first | (rw [hc9]; rfl) | rw [hc9]) rfl ?_
            refine jm_aload_n jd_Mod_about_69 rfl rfl ?_
            refine jm_gR jd_Mod_about_70 jf_Mod_79 jm_SH_78 rfl ?_
            refine jm_iload_n jd_Mod_about_73 rfl rfl ?_
            obtain ⟨hb10, H⟩ := H
            refine jm_iaload jd_Mod_about_74 jm_SH_102 hb10 ?_
            exact jm_ireturn jd_Mod_about_75 rfl (by decide) ⟨rfl, _, rfl, H⟩
          · replace H := H.2
            by_cases hc11 : x2 = 4
            · replace H := H.1 hc11
              refine jm_tableIn (tgt := 76) jd_Mod_about_11 (by omega) (by omega) (by first | (rw [hc11]; rfl) | rw [hc11]) rfl ?_
              refine jm_aload_n jd_Mod_about_76 rfl rfl ?_
              refine jm_gR jd_Mod_about_77 jf_Mod_82 jm_SH_78 rfl ?_
              refine jm_iload_n jd_Mod_about_80 rfl rfl ?_
              obtain ⟨hb12, H⟩ := H
              refine jm_iaload jd_Mod_about_81 jm_SH_103 hb12 ?_
              exact jm_ireturn jd_Mod_about_82 rfl (by decide) ⟨rfl, _, rfl, H⟩
            · replace H := H.2
              by_cases hc13 : x2 = 5
              · replace H := H.1 hc13
                refine jm_tableIn (tgt := 83) jd_Mod_about_11 (by omega) (by omega) (by first | (rw [hc13]; rfl) | rw [hc13]) rfl ?_
                refine jm_aload_n jd_Mod_about_83 rfl rfl ?_
                refine jm_cV (M' := jm_m_Mod_endAsWritten) (d' := 2) (av := []) jd_Mod_about_84 jk_Mod_endAsWritten jw_1116 rfl (by omega) ⟨rfl, rfl⟩ (by decide) (Nat.le_of_ble_eq_true rfl) jm_SH_78 rfl rfl (jm_hqI (fun v14 h14 H => ?_)) H
                refine jm_pop jd_Mod_about_87 rfl ?_
                refine jm_aload_n jd_Mod_about_88 rfl rfl ?_
                refine jm_gR jd_Mod_about_89 jf_Mod_91 jm_SH_78 rfl ?_
                refine jm_iload_n jd_Mod_about_92 rfl rfl ?_
                obtain ⟨hb15, H⟩ := H
                refine jm_iaload jd_Mod_about_93 jm_SH_106 hb15 ?_
                exact jm_ireturn jd_Mod_about_94 rfl (by decide) ⟨rfl, _, rfl, H⟩
              · replace H := H.2
                replace H := H ⟨hc3, hc5, hc7, hc9, hc11, hc13⟩
                refine jm_tableOut (tgt := 95) jd_Mod_about_11 (by omega) rfl ?_
                refine jm_bipush jd_Mod_about_95 jb_m2 ?_
                exact jm_ireturn jd_Mod_about_97 rfl (by decide) ⟨rfl, _, rfl, H⟩
  · replace H := H.2 hc2
    refine jm_iconst jd_Mod_about_8 (jm_o32c rfl) ?_
    exact jm_ireturn jd_Mod_about_9 rfl (by decide) ⟨rfl, _, rfl, H⟩
