set_option maxRecDepth 4000 in
theorem jb_Covering_tellPlain {E : jm_Env} {d : Nat} {dr : Nat} (hdr : dr + 1 ≤ d) (hdc : 2 ≤ d) {x1 x2 x3 : Int} {h : jm_H} {K : jm_H → Prop} (H : jm_CI E jm_SH jm_m_Covering_at 0 [jm_I x1, jm_I x2] h (fun v1 h1 => (0 ≤ v1 ∧ v1 < 60) ∧ (((h1 32 (Int.toNat v1) < 0) → K h1) ∧ ((¬ h1 32 (Int.toNat v1) < 0) → ((x3 ≤ 12) → jm_BV E jm_SH jm_m_Covering_tellPlain d 30 [some (jm_R 30), some (jm_I x1), none, some (jm_I x3), some (jm_I (h1 32 (Int.toNat v1))), some (jm_I x1), some (jm_I 0), none] [] h1 K) ∧ ((¬ x3 ≤ 12) → K h1))))) : jm_CV E jm_SH jm_m_Covering_tellPlain d [jm_R 30, jm_I x1, jm_I x2, jm_I x3] h K := by
  refine jm_body (ls0 := [some (jm_R 30), some (jm_I x1), some (jm_I x2), some (jm_I x3), none, none, none, none]) (by decide +kernel) rfl rfl (Nat.le_of_ble_eq_true rfl) ?_
  refine jm_aload_n jd_Covering_tellPlain_0 rfl rfl ?_
  refine jm_gR jd_Covering_tellPlain_1 jf_Covering_15 jm_SH_30 rfl ?_
  refine jm_iload_n jd_Covering_tellPlain_4 rfl rfl ?_
  refine jm_iload_n jd_Covering_tellPlain_5 rfl rfl ?_
  refine jm_cS (M' := jm_m_Covering_at) (d' := 0) (av := [jm_I x1, jm_I x2]) jd_Covering_tellPlain_6 jk_Covering_at jw_522 rfl (by omega) ⟨rfl, rfl⟩ (by decide) (Nat.le_of_ble_eq_true rfl) (jm_hqI (fun v1 h1 H => ?_)) H
  obtain ⟨hb2, H⟩ := H
  refine jm_iaload jd_Covering_tellPlain_9 jm_SH_32 hb2 ?_
  refine jm_istore (i := 4) jd_Covering_tellPlain_10 (by decide) (ls2 := [some (jm_R 30), some (jm_I x1), some (jm_I x2), some (jm_I x3), some (jm_I (h1 32 (Int.toNat v1))), none, none, none]) rfl ?_
  refine jm_iload jd_Covering_tellPlain_12 rfl ?_
  refine jm_if_lt (tgt := 23) jd_Covering_tellPlain_14 rfl (fun hc3 => ?_) (fun hc3 => ?_)
  · replace H := H.1 hc3
    exact jm_vreturn jd_Covering_tellPlain_23 rfl (by decide) ⟨rfl, rfl, H⟩
  · replace H := H.2 hc3
    refine jm_iload_n jd_Covering_tellPlain_17 rfl rfl ?_
    refine jm_bipush jd_Covering_tellPlain_18 jb_12 ?_
    refine jm_icmp_le (tgt := 24) jd_Covering_tellPlain_20 rfl (fun hc4 => ?_) (fun hc4 => ?_)
    · replace H := H.1 hc4
      refine jm_iload_n jd_Covering_tellPlain_24 rfl rfl ?_
      refine jm_istore (i := 5) jd_Covering_tellPlain_25 (by decide) (ls2 := [some (jm_R 30), some (jm_I x1), some (jm_I x2), some (jm_I x3), some (jm_I (h1 32 (Int.toNat v1))), some (jm_I x1), none, none]) rfl ?_
      refine jm_iconst jd_Covering_tellPlain_27 (jm_o32c rfl) ?_
      refine jm_istore (i := 6) jd_Covering_tellPlain_28 (by decide) (ls2 := [some (jm_R 30), some (jm_I x1), some (jm_I x2), some (jm_I x3), some (jm_I (h1 32 (Int.toNat v1))), some (jm_I x1), some (jm_I 0), none]) rfl ?_
      refine jm_keepG [true, true, false, true, true, true, true, false] (ls2 := [some (jm_R 30), some (jm_I x1), none, some (jm_I x3), some (jm_I (h1 32 (Int.toNat v1))), some (jm_I x1), some (jm_I 0), none]) (by rfl) (by rfl) ?_
      exact H
    · replace H := H.2 hc4
      exact jm_vreturn jd_Covering_tellPlain_23 rfl (by decide) ⟨rfl, rfl, H⟩
set_option maxRecDepth 4000 in
theorem jb_Covering_tellPlain_30 {E : jm_Env} {d : Nat} {dr : Nat} (hdr : dr + 1 ≤ d) (hdc : 2 ≤ d) {x1 x3 x4 x5 x6 : Int} {h : jm_H} {K : jm_H → Prop} (H : (0 ≤ x4 ∧ x4 < 16) ∧ (((h 12 (Int.toNat x4) ≤ x6) → jm_CV E jm_SH jm_m_Covering_tellOne 0 [jm_R 30, jm_I x4, jm_I x1] h (fun h3 => K h3)) ∧ ((¬ h 12 (Int.toNat x4) ≤ x6) → ((h 4 4 ≤ x5) → jm_CV E jm_SH jm_m_Covering_tellOne 0 [jm_R 30, jm_I x4, jm_I x1] h (fun h5 => K h5)) ∧ ((¬ h 4 4 ≤ x5) → (0 ≤ x4 ∧ x4 < 16) ∧ ((0 ≤ x6 ∧ x6 < 12) ∧ (jm_CI E jm_SH jm_m_Patterns_headOf 0 [jm_I (h (14 + (Int.toNat x4)) (Int.toNat x6))] h (fun v8 h8 => ((v8 < 0) → jm_BV E jm_SH jm_m_Covering_tellPlain d 30 [some (jm_R 30), some (jm_I x1), none, some (jm_I x3), some (jm_I x4), some (jm_I (jm_w32 (x5 + 1))), some (jm_I (jm_w32 (x6 + 1))), none] [] h8 K) ∧ ((¬ v8 < 0) → jm_CV E jm_SH jm_m_Covering_tell dr [jm_R 30, jm_I x5, jm_I v8, jm_I (jm_w32 (x3 + 1))] h8 (fun h10 => (0 ≤ x5 ∧ x5 < 30) ∧ (jm_BV E jm_SH jm_m_Covering_tellPlain d 30 [some (jm_R 30), some (jm_I x1), none, some (jm_I x3), some (jm_I x4), some (jm_I (jm_w32 (x5 + (h10 7 (Int.toNat x5))))), some (jm_I (jm_w32 (x6 + 1))), none] [] h10 K)))))))))) : jm_BV E jm_SH jm_m_Covering_tellPlain d 30 [some (jm_R 30), some (jm_I x1), none, some (jm_I x3), some (jm_I x4), some (jm_I x5), some (jm_I x6), none] [] h K := by
  refine jm_iload jd_Covering_tellPlain_30 rfl ?_
  refine jm_aload_n jd_Covering_tellPlain_32 rfl rfl ?_
  refine jm_gR jd_Covering_tellPlain_33 jf_Covering_34 jm_SH_30 rfl ?_
  refine jm_gR jd_Covering_tellPlain_36 jf_Covering_81 jm_SH_9 rfl ?_
  refine jm_iload jd_Covering_tellPlain_39 rfl ?_
  obtain ⟨hb1, H⟩ := H
  refine jm_iaload jd_Covering_tellPlain_41 jm_SH_12 hb1 ?_
  refine jm_icmp_ge (tgt := 118) jd_Covering_tellPlain_42 rfl (fun hc2 => ?_) (fun hc2 => ?_)
  · replace H := H.1 hc2
    refine jm_aload_n jd_Covering_tellPlain_118 rfl rfl ?_
    refine jm_iload jd_Covering_tellPlain_119 rfl ?_
    refine jm_iload_n jd_Covering_tellPlain_121 rfl rfl ?_
    refine jm_cV (M' := jm_m_Covering_tellOne) (d' := 0) (av := [jm_I x4, jm_I x1]) jd_Covering_tellPlain_122 jk_Covering_tellOne jw_553 rfl (by omega) ⟨rfl, rfl⟩ (by decide) (Nat.le_of_ble_eq_true rfl) jm_SH_30 rfl rfl (jm_hqV (fun h3 H => ?_)) H
    exact jm_vreturn jd_Covering_tellPlain_125 rfl (by decide) ⟨rfl, rfl, H⟩
  · replace H := H.2 hc2
    refine jm_iload jd_Covering_tellPlain_45 rfl ?_
    refine jm_aload_n jd_Covering_tellPlain_47 rfl rfl ?_
    refine jm_gR jd_Covering_tellPlain_48 jf_Covering_30 jm_SH_30 rfl ?_
    refine jm_gI jd_Covering_tellPlain_51 jf_Covering_42 jm_SH_4 ?_
    refine jm_icmp_ge (tgt := 118) jd_Covering_tellPlain_54 rfl (fun hc4 => ?_) (fun hc4 => ?_)
    · replace H := H.1 hc4
      refine jm_aload_n jd_Covering_tellPlain_118 rfl rfl ?_
      refine jm_iload jd_Covering_tellPlain_119 rfl ?_
      refine jm_iload_n jd_Covering_tellPlain_121 rfl rfl ?_
      refine jm_cV (M' := jm_m_Covering_tellOne) (d' := 0) (av := [jm_I x4, jm_I x1]) jd_Covering_tellPlain_122 jk_Covering_tellOne jw_553 rfl (by omega) ⟨rfl, rfl⟩ (by decide) (Nat.le_of_ble_eq_true rfl) jm_SH_30 rfl rfl (jm_hqV (fun h5 H => ?_)) H
      exact jm_vreturn jd_Covering_tellPlain_125 rfl (by decide) ⟨rfl, rfl, H⟩
    · replace H := H.2 hc4
      refine jm_aload_n jd_Covering_tellPlain_57 rfl rfl ?_
      refine jm_gR jd_Covering_tellPlain_58 jf_Covering_34 jm_SH_30 rfl ?_
      refine jm_gR jd_Covering_tellPlain_61 jf_Covering_84 jm_SH_9 rfl ?_
      refine jm_iload jd_Covering_tellPlain_64 rfl ?_
      obtain ⟨hb6, H⟩ := H
      refine jm_aaload jd_Covering_tellPlain_66 jm_SH_13 (by decide) hb6 (jm_SH_r13 _ (by omega)) ?_
      refine jm_iload jd_Covering_tellPlain_67 rfl ?_
      obtain ⟨hb7, H⟩ := H
      refine jm_iaload jd_Covering_tellPlain_69 (jm_SH_s13 _ (by omega)) hb7 ?_
      refine jm_cS (M' := jm_m_Patterns_headOf) (d' := 0) (av := [jm_I (h (14 + (Int.toNat x4)) (Int.toNat x6))]) jd_Covering_tellPlain_70 jk_Patterns_headOf jw_534 rfl (by omega) ⟨rfl, rfl⟩ (by decide) (Nat.le_of_ble_eq_true rfl) (jm_hqI (fun v8 h8 H => ?_)) H
      refine jm_istore (i := 7) jd_Covering_tellPlain_73 (by decide) (ls2 := [some (jm_R 30), some (jm_I x1), none, some (jm_I x3), some (jm_I x4), some (jm_I x5), some (jm_I x6), some (jm_I v8)]) rfl ?_
      refine jm_iload jd_Covering_tellPlain_75 rfl ?_
      refine jm_if_lt (tgt := 109) jd_Covering_tellPlain_77 rfl (fun hc9 => ?_) (fun hc9 => ?_)
      · replace H := H.1 hc9
        refine jm_iinc jd_Covering_tellPlain_109 rfl (by decide) (ls2 := [some (jm_R 30), some (jm_I x1), none, some (jm_I x3), some (jm_I x4), some (jm_I (jm_w32 (x5 + 1))), some (jm_I x6), some (jm_I v8)]) rfl ?_
        refine jm_iinc jd_Covering_tellPlain_112 rfl (by decide) (ls2 := [some (jm_R 30), some (jm_I x1), none, some (jm_I x3), some (jm_I x4), some (jm_I (jm_w32 (x5 + 1))), some (jm_I (jm_w32 (x6 + 1))), some (jm_I v8)]) rfl ?_
        refine jm_goto (tgt := 30) jd_Covering_tellPlain_115 rfl ?_
        refine jm_keepG [true, true, false, true, true, true, true, false] (ls2 := [some (jm_R 30), some (jm_I x1), none, some (jm_I x3), some (jm_I x4), some (jm_I (jm_w32 (x5 + 1))), some (jm_I (jm_w32 (x6 + 1))), none]) (by rfl) (by rfl) ?_
        exact H
      · replace H := H.2 hc9
        refine jm_aload_n jd_Covering_tellPlain_80 rfl rfl ?_
        refine jm_iload jd_Covering_tellPlain_81 rfl ?_
        refine jm_iload jd_Covering_tellPlain_83 rfl ?_
        refine jm_iload_n jd_Covering_tellPlain_85 rfl rfl ?_
        refine jm_iconst jd_Covering_tellPlain_86 (jm_o32c rfl) ?_
        refine jm_iadd jd_Covering_tellPlain_87 ?_
        refine jm_cV (M' := jm_m_Covering_tell) (d' := dr) (av := [jm_I x5, jm_I v8, jm_I (jm_w32 (x3 + 1))]) jd_Covering_tellPlain_88 jk_Covering_tell jw_545 rfl hdr ⟨rfl, rfl⟩ (by decide) (Nat.le_of_ble_eq_true rfl) jm_SH_30 rfl rfl (jm_hqV (fun h10 H => ?_)) H
        refine jm_iload jd_Covering_tellPlain_91 rfl ?_
        refine jm_aload_n jd_Covering_tellPlain_93 rfl rfl ?_
        refine jm_gR jd_Covering_tellPlain_94 jf_Covering_30 jm_SH_30 rfl ?_
        refine jm_gR jd_Covering_tellPlain_97 jf_Covering_96 jm_SH_4 rfl ?_
        refine jm_iload jd_Covering_tellPlain_100 rfl ?_
        obtain ⟨hb11, H⟩ := H
        refine jm_iaload jd_Covering_tellPlain_102 jm_SH_7 hb11 ?_
        refine jm_iadd jd_Covering_tellPlain_103 ?_
        refine jm_istore (i := 5) jd_Covering_tellPlain_104 (by decide) (ls2 := [some (jm_R 30), some (jm_I x1), none, some (jm_I x3), some (jm_I x4), some (jm_I (jm_w32 (x5 + (h10 7 (Int.toNat x5))))), some (jm_I x6), some (jm_I v8)]) rfl ?_
        refine jm_goto (tgt := 112) jd_Covering_tellPlain_106 rfl ?_
        refine jm_iinc jd_Covering_tellPlain_112 rfl (by decide) (ls2 := [some (jm_R 30), some (jm_I x1), none, some (jm_I x3), some (jm_I x4), some (jm_I (jm_w32 (x5 + (h10 7 (Int.toNat x5))))), some (jm_I (jm_w32 (x6 + 1))), some (jm_I v8)]) rfl ?_
        refine jm_goto (tgt := 30) jd_Covering_tellPlain_115 rfl ?_
        refine jm_keepG [true, true, false, true, true, true, true, false] (ls2 := [some (jm_R 30), some (jm_I x1), none, some (jm_I x3), some (jm_I x4), some (jm_I (jm_w32 (x5 + (h10 7 (Int.toNat x5))))), some (jm_I (jm_w32 (x6 + 1))), none]) (by rfl) (by rfl) ?_
        exact H
set_option maxRecDepth 4000 in
theorem jb_Covering_tellOne {E : jm_Env} {x1 x2 : Int} {h : jm_H} {K : jm_H → Prop} (H : ((60 ≤ h 30 8) → K h) ∧ ((¬ 60 ≤ h 30 8) → (0 ≤ h 30 8 ∧ h 30 8 < 60) ∧ ((0 ≤ h 30 8 ∧ h 30 8 < 60) ∧ (K (jm_up (jm_up (jm_up h 35 (Int.toNat (h 30 8)) x1) 36 (Int.toNat (h 30 8)) x2) 30 8 (jm_w32 ((h 30 8) + 1))))))) : jm_CV E jm_SH jm_m_Covering_tellOne 0 [jm_R 30, jm_I x1, jm_I x2] h K := by
  refine jm_body (ls0 := [some (jm_R 30), some (jm_I x1), some (jm_I x2)]) (by decide +kernel) rfl rfl (Nat.le_of_ble_eq_true rfl) ?_
  refine jm_aload_n jd_Covering_tellOne_0 rfl rfl ?_
  refine jm_gI jd_Covering_tellOne_1 jf_Covering_53 jm_SH_30 ?_
  refine jm_bipush jd_Covering_tellOne_4 jb_60 ?_
  refine jm_icmp_ge (tgt := 39) jd_Covering_tellOne_6 rfl (fun hc1 => ?_) (fun hc1 => ?_)
  · replace H := H.1 hc1
    exact jm_vreturn jd_Covering_tellOne_39 rfl (by decide) ⟨rfl, rfl, H⟩
  · replace H := H.2 hc1
    refine jm_aload_n jd_Covering_tellOne_9 rfl rfl ?_
    refine jm_gR jd_Covering_tellOne_10 jf_Covering_24 jm_SH_30 rfl ?_
    refine jm_aload_n jd_Covering_tellOne_13 rfl rfl ?_
    refine jm_gI jd_Covering_tellOne_14 jf_Covering_53 jm_SH_30 ?_
    refine jm_iload_n jd_Covering_tellOne_17 rfl rfl ?_
    obtain ⟨hb2, H⟩ := H
    refine jm_iastore jd_Covering_tellOne_18 jm_SH_35 hb2 ?_
    refine jm_aload_n jd_Covering_tellOne_19 rfl rfl ?_
    refine jm_gR jd_Covering_tellOne_20 jf_Covering_27 jm_SH_30 rfl ?_
    refine jm_aload_n jd_Covering_tellOne_23 rfl rfl ?_
    refine jm_gI jd_Covering_tellOne_24 jf_Covering_53 jm_SH_30 ?_
    refine jm_topI (y := h 30 8) rfl ?_
    refine jm_iload_n jd_Covering_tellOne_27 rfl rfl ?_
    obtain ⟨hb3, H⟩ := H
    refine jm_iastore jd_Covering_tellOne_28 jm_SH_36 hb3 ?_
    refine jm_aload_n jd_Covering_tellOne_29 rfl rfl ?_
    refine jm_dup jd_Covering_tellOne_30 rfl ?_
    refine jm_gI jd_Covering_tellOne_31 jf_Covering_53 jm_SH_30 ?_
    refine jm_topI (y := h 30 8) rfl ?_
    refine jm_iconst jd_Covering_tellOne_34 (jm_o32c rfl) ?_
    refine jm_iadd jd_Covering_tellOne_35 ?_
    refine jm_sI jd_Covering_tellOne_36 jp_Covering_53 jm_SH_30 ?_
    exact jm_vreturn jd_Covering_tellOne_39 rfl (by decide) ⟨rfl, rfl, H⟩
