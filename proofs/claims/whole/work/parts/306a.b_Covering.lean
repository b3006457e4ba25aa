set_option maxRecDepth 4000 in
theorem jb_Covering_at {E : jm_Env} {x0 x1 : Int} {h : jm_H} {K : Int → jm_H → Prop} (H : K (jm_w32 ((jm_w32 (2 * x0)) + x1)) h) : jm_CI E jm_SH jm_m_Covering_at 0 [jm_I x0, jm_I x1] h K := by
  refine jm_body (ls0 := [some (jm_I x0), some (jm_I x1)]) (by decide +kernel) rfl rfl (Nat.le_of_ble_eq_true rfl) ?_
  refine jm_iconst jd_Covering_at_0 (jm_o32c rfl) ?_
  refine jm_iload_n jd_Covering_at_1 rfl rfl ?_
  refine jm_imul jd_Covering_at_2 ?_
  refine jm_iload_n jd_Covering_at_3 rfl rfl ?_
  refine jm_iadd jd_Covering_at_4 ?_
  exact jm_ireturn jd_Covering_at_5 rfl (by decide) ⟨rfl, _, rfl, H⟩
set_option maxRecDepth 4000 in
theorem jb_Covering_refresh {E : jm_Env} {h : jm_H} {K : jm_H → Prop} (H : ((¬ h 30 9 = 0) → jm_BV E jm_SH jm_m_Covering_refresh 33 23 [some (jm_R 30), some (jm_I (jm_w32 ((h 4 4) - 1)))] [] (jm_up h 30 9 0) K) ∧ ((h 30 9 = 0) → K h)) : jm_CV E jm_SH jm_m_Covering_refresh 33 [jm_R 30] h K := by
  refine jm_body (ls0 := [some (jm_R 30), none]) (by decide +kernel) rfl rfl (Nat.le_of_ble_eq_true rfl) ?_
  refine jm_aload_n jd_Covering_refresh_0 rfl rfl ?_
  refine jm_gI jd_Covering_refresh_1 jf_Covering_38 jm_SH_30 ?_
  refine jm_if_ne (tgt := 8) jd_Covering_refresh_4 rfl (fun hc1 => ?_) (fun hc1 => ?_)
  · replace H := H.1 hc1
    refine jm_aload_n jd_Covering_refresh_8 rfl rfl ?_
    refine jm_iconst jd_Covering_refresh_9 (jm_o32c rfl) ?_
    refine jm_sZ jd_Covering_refresh_10 jp_Covering_38 (Or.inl rfl) jm_SH_30 ?_
    refine jm_aload_n jd_Covering_refresh_13 rfl rfl ?_
    refine jm_gR jd_Covering_refresh_14 jf_Covering_30 jm_SH_30 rfl ?_
    refine jm_gI jd_Covering_refresh_17 jf_Covering_42 jm_SH_4 ?_
    refine jm_topI (y := h 4 4) rfl ?_
    refine jm_iconst jd_Covering_refresh_20 (jm_o32c rfl) ?_
    refine jm_isub jd_Covering_refresh_21 ?_
    refine jm_istore_n (i := 1) jd_Covering_refresh_22 rfl (by decide) (ls2 := [some (jm_R 30), some (jm_I (jm_w32 ((h 4 4) - 1)))]) rfl ?_
    exact H
  · replace H := H.2 hc1
    exact jm_vreturn jd_Covering_refresh_7 rfl (by decide) ⟨rfl, rfl, H⟩
set_option maxRecDepth 4000 in
theorem jb_Covering_refresh_23 {E : jm_Env} {x1 : Int} {h : jm_H} {K : jm_H → Prop} (H : ((x1 < 0) → ((h 4 4 ≤ 0) → K (jm_up h 30 8 0)) ∧ ((¬ h 4 4 ≤ 0) → jm_CV E jm_SH jm_m_Covering_tell 32 [jm_R 30, jm_I 0, jm_I 0, jm_I 0] (jm_up h 30 8 0) (fun h3 => K h3))) ∧ ((¬ x1 < 0) → jm_CV E jm_SH jm_m_Covering_coverPlainly 3 [jm_R 30, jm_I x1] h (fun h4 => jm_CV E jm_SH jm_m_Covering_coverWithChains 2 [jm_R 30, jm_I x1] h4 (fun h5 => jm_BV E jm_SH jm_m_Covering_refresh 33 23 [some (jm_R 30), some (jm_I (jm_w32 (x1 + (-1))))] [] h5 K)))) : jm_BV E jm_SH jm_m_Covering_refresh 33 23 [some (jm_R 30), some (jm_I x1)] [] h K := by
  refine jm_iload_n jd_Covering_refresh_23 rfl rfl ?_
  refine jm_if_lt (tgt := 43) jd_Covering_refresh_24 rfl (fun hc1 => ?_) (fun hc1 => ?_)
  · replace H := H.1 hc1
    refine jm_aload_n jd_Covering_refresh_43 rfl rfl ?_
    refine jm_iconst jd_Covering_refresh_44 (jm_o32c rfl) ?_
    refine jm_sI jd_Covering_refresh_45 jp_Covering_53 jm_SH_30 ?_
    refine jm_aload_n jd_Covering_refresh_48 rfl rfl ?_
    refine jm_gR jd_Covering_refresh_49 jf_Covering_30 jm_SH_30 rfl ?_
    refine jm_gI jd_Covering_refresh_52 jf_Covering_42 jm_SH_4 ?_
    refine jm_topI (y := h 4 4) rfl ?_
    refine jm_if_le (tgt := 65) jd_Covering_refresh_55 rfl (fun hc2 => ?_) (fun hc2 => ?_)
    · replace H := H.1 hc2
      exact jm_vreturn jd_Covering_refresh_65 rfl (by decide) ⟨rfl, rfl, H⟩
    · replace H := H.2 hc2
      refine jm_aload_n jd_Covering_refresh_58 rfl rfl ?_
      refine jm_iconst jd_Covering_refresh_59 (jm_o32c rfl) ?_
      refine jm_iconst jd_Covering_refresh_60 (jm_o32c rfl) ?_
      refine jm_iconst jd_Covering_refresh_61 (jm_o32c rfl) ?_
      refine jm_cV (M' := jm_m_Covering_tell) (d' := 32) (av := [jm_I 0, jm_I 0, jm_I 0]) jd_Covering_refresh_62 jk_Covering_tell jw_545 rfl (by omega) ⟨rfl, rfl⟩ (by decide) (Nat.le_of_ble_eq_true rfl) jm_SH_30 rfl rfl (jm_hqV (fun h3 H => ?_)) H
      exact jm_vreturn jd_Covering_refresh_65 rfl (by decide) ⟨rfl, rfl, H⟩
  · replace H := H.2 hc1
    refine jm_aload_n jd_Covering_refresh_27 rfl rfl ?_
    refine jm_iload_n jd_Covering_refresh_28 rfl rfl ?_
    refine jm_cV (M' := jm_m_Covering_coverPlainly) (d' := 3) (av := [jm_I x1]) jd_Covering_refresh_29 jk_Covering_coverPlainly jw_518 rfl (by omega) ⟨rfl, rfl⟩ (by decide) (Nat.le_of_ble_eq_true rfl) jm_SH_30 rfl rfl (jm_hqV (fun h4 H => ?_)) H
    refine jm_aload_n jd_Covering_refresh_32 rfl rfl ?_
    refine jm_iload_n jd_Covering_refresh_33 rfl rfl ?_
    refine jm_cV (M' := jm_m_Covering_coverWithChains) (d' := 2) (av := [jm_I x1]) jd_Covering_refresh_34 jk_Covering_coverWithChains jw_541 rfl (by omega) ⟨rfl, rfl⟩ (by decide) (Nat.le_of_ble_eq_true rfl) jm_SH_30 rfl rfl (jm_hqV (fun h5 H => ?_)) H
    refine jm_iinc jd_Covering_refresh_37 rfl (by decide) (ls2 := [some (jm_R 30), some (jm_I (jm_w32 (x1 + (-1))))]) rfl ?_
    refine jm_goto (tgt := 23) jd_Covering_refresh_40 rfl ?_
    exact H
set_option maxRecDepth 4000 in
theorem jb_Covering_coverPlainly {E : jm_Env} {x1 : Int} {h : jm_H} {K : jm_H → Prop} (H : jm_BV E jm_SH jm_m_Covering_coverPlainly 3 2 [some (jm_R 30), some (jm_I x1), some (jm_I 0), none, none] [] h K) : jm_CV E jm_SH jm_m_Covering_coverPlainly 3 [jm_R 30, jm_I x1] h K := by
  refine jm_body (ls0 := [some (jm_R 30), some (jm_I x1), none, none, none]) (by decide +kernel) rfl rfl (Nat.le_of_ble_eq_true rfl) ?_
  refine jm_iconst jd_Covering_coverPlainly_0 (jm_o32c rfl) ?_
  refine jm_istore_n (i := 2) jd_Covering_coverPlainly_1 rfl (by decide) (ls2 := [some (jm_R 30), some (jm_I x1), some (jm_I 0), none, none]) rfl ?_
  exact H
set_option maxRecDepth 4000 in
theorem jb_Covering_coverPlainly_2 {E : jm_Env} {x1 x2 : Int} {h : jm_H} {K : jm_H → Prop} (H : ((2 ≤ x2) → jm_BV E jm_SH jm_m_Covering_coverPlainly 3 38 [some (jm_R 30), some (jm_I x1), some (jm_I 0), none, none] [] h K) ∧ ((¬ 2 ≤ x2) → jm_CI E jm_SH jm_m_Covering_at 0 [jm_I x1, jm_I x2] h (fun v2 h2 => (0 ≤ v2 ∧ v2 < 60) ∧ (jm_CI E jm_SH jm_m_Covering_at 0 [jm_I x1, jm_I x2] (jm_up h2 31 (Int.toNat v2) 1000000) (fun v4 h4 => (0 ≤ v4 ∧ v4 < 60) ∧ (jm_BV E jm_SH jm_m_Covering_coverPlainly 3 2 [some (jm_R 30), some (jm_I x1), some (jm_I (jm_w32 (x2 + 1))), none, none] [] (jm_up h4 32 (Int.toNat v4) (-1)) K)))))) : jm_BV E jm_SH jm_m_Covering_coverPlainly 3 2 [some (jm_R 30), some (jm_I x1), some (jm_I x2), none, none] [] h K := by
  refine jm_iload_n jd_Covering_coverPlainly_2 rfl rfl ?_
  refine jm_iconst jd_Covering_coverPlainly_3 (jm_o32c rfl) ?_
  refine jm_icmp_ge (tgt := 36) jd_Covering_coverPlainly_4 rfl (fun hc1 => ?_) (fun hc1 => ?_)
  · replace H := H.1 hc1
    refine jm_iconst jd_Covering_coverPlainly_36 (jm_o32c rfl) ?_
    refine jm_istore_n (i := 2) jd_Covering_coverPlainly_37 rfl (by decide) (ls2 := [some (jm_R 30), some (jm_I x1), some (jm_I 0), none, none]) rfl ?_
    exact H
  · replace H := H.2 hc1
    refine jm_aload_n jd_Covering_coverPlainly_7 rfl rfl ?_
    refine jm_gR jd_Covering_coverPlainly_8 jf_Covering_11 jm_SH_30 rfl ?_
    refine jm_iload_n jd_Covering_coverPlainly_11 rfl rfl ?_
    refine jm_iload_n jd_Covering_coverPlainly_12 rfl rfl ?_
    refine jm_cS (M' := jm_m_Covering_at) (d' := 0) (av := [jm_I x1, jm_I x2]) jd_Covering_coverPlainly_13 jk_Covering_at jw_522 rfl (by omega) ⟨rfl, rfl⟩ (by decide) (Nat.le_of_ble_eq_true rfl) (jm_hqI (fun v2 h2 H => ?_)) H
    refine jm_ldc (x := 1000000) jd_Covering_coverPlainly_16 jc_525 (jm_o32c rfl) ?_
    obtain ⟨hb3, H⟩ := H
    refine jm_iastore jd_Covering_coverPlainly_18 jm_SH_31 hb3 ?_
    refine jm_aload_n jd_Covering_coverPlainly_19 rfl rfl ?_
    refine jm_gR jd_Covering_coverPlainly_20 jf_Covering_15 jm_SH_30 rfl ?_
    refine jm_iload_n jd_Covering_coverPlainly_23 rfl rfl ?_
    refine jm_iload_n jd_Covering_coverPlainly_24 rfl rfl ?_
    refine jm_cS (M' := jm_m_Covering_at) (d' := 0) (av := [jm_I x1, jm_I x2]) jd_Covering_coverPlainly_25 jk_Covering_at jw_522 rfl (by omega) ⟨rfl, rfl⟩ (by decide) (Nat.le_of_ble_eq_true rfl) (jm_hqI (fun v4 h4 H => ?_)) H
    refine jm_iconst jd_Covering_coverPlainly_28 (jm_o32c rfl) ?_
    obtain ⟨hb5, H⟩ := H
    refine jm_iastore jd_Covering_coverPlainly_29 jm_SH_32 hb5 ?_
    refine jm_iinc jd_Covering_coverPlainly_30 rfl (by decide) (ls2 := [some (jm_R 30), some (jm_I x1), some (jm_I (jm_w32 (x2 + 1))), none, none]) rfl ?_
    refine jm_goto (tgt := 2) jd_Covering_coverPlainly_33 rfl ?_
    exact H
set_option maxRecDepth 4000 in
theorem jb_Covering_coverPlainly_38 {E : jm_Env} {x1 x2 : Int} {h : jm_H} {K : jm_H → Prop} (H : ((h 9 4 ≤ x2) → K h) ∧ ((¬ h 9 4 ≤ x2) → jm_CI E jm_SH jm_m_Patterns_chainFrom 1 [jm_R 9, jm_I x2] h (fun v2 h2 => ((0 ≤ v2) → (0 ≤ x2 ∧ x2 < 16) ∧ (jm_CI E jm_SH jm_m_Covering_at 0 [jm_I x1, jm_I (h2 10 (Int.toNat x2))] h2 (fun v5 h5 => (0 ≤ v5 ∧ v5 < 60) ∧ (((h5 31 (Int.toNat v5) ≤ 1000000) → jm_BV E jm_SH jm_m_Covering_coverPlainly 3 38 [some (jm_R 30), some (jm_I x1), some (jm_I (jm_w32 (x2 + 1))), none, none] [] h5 K) ∧ ((¬ h5 31 (Int.toNat v5) ≤ 1000000) → (0 ≤ v5 ∧ v5 < 60) ∧ ((0 ≤ v5 ∧ v5 < 60) ∧ (jm_BV E jm_SH jm_m_Covering_coverPlainly 3 38 [some (jm_R 30), some (jm_I x1), some (jm_I (jm_w32 (x2 + 1))), none, none] [] (jm_up (jm_up h5 31 (Int.toNat v5) 1000000) 32 (Int.toNat v5) x2) K))))))) ∧ ((¬ 0 ≤ v2) → jm_CI E jm_SH jm_m_Covering_costOf 2 [jm_R 30, jm_I x2, jm_I x1] h2 (fun v10 h10 => (0 ≤ x2 ∧ x2 < 16) ∧ (jm_CI E jm_SH jm_m_Covering_at 0 [jm_I x1, jm_I (h10 10 (Int.toNat x2))] h10 (fun v12 h12 => (0 ≤ v12 ∧ v12 < 60) ∧ (((h12 31 (Int.toNat v12) ≤ v10) → jm_BV E jm_SH jm_m_Covering_coverPlainly 3 38 [some (jm_R 30), some (jm_I x1), some (jm_I (jm_w32 (x2 + 1))), none, none] [] h12 K) ∧ ((¬ h12 31 (Int.toNat v12) ≤ v10) → (0 ≤ v12 ∧ v12 < 60) ∧ ((0 ≤ v12 ∧ v12 < 60) ∧ (jm_BV E jm_SH jm_m_Covering_coverPlainly 3 38 [some (jm_R 30), some (jm_I x1), some (jm_I (jm_w32 (x2 + 1))), none, none] [] (jm_up (jm_up h12 31 (Int.toNat v12) v10) 32 (Int.toNat v12) x2) K))))))))))) : jm_BV E jm_SH jm_m_Covering_coverPlainly 3 38 [some (jm_R 30), some (jm_I x1), some (jm_I x2), none, none] [] h K := by
  refine jm_iload_n jd_Covering_coverPlainly_38 rfl rfl ?_
  refine jm_aload_n jd_Covering_coverPlainly_39 rfl rfl ?_
  refine jm_gR jd_Covering_coverPlainly_40 jf_Covering_34 jm_SH_30 rfl ?_
  refine jm_gI jd_Covering_coverPlainly_43 jf_Covering_65 jm_SH_9 ?_
  refine jm_icmp_ge (tgt := 120) jd_Covering_coverPlainly_46 rfl (fun hc1 => ?_) (fun hc1 => ?_)
  · replace H := H.1 hc1
    exact jm_vreturn jd_Covering_coverPlainly_120 rfl (by decide) ⟨rfl, rfl, H⟩
  · replace H := H.2 hc1
    refine jm_aload_n jd_Covering_coverPlainly_49 rfl rfl ?_
    refine jm_gR jd_Covering_coverPlainly_50 jf_Covering_34 jm_SH_30 rfl ?_
    refine jm_iload_n jd_Covering_coverPlainly_53 rfl rfl ?_
    refine jm_cV (M' := jm_m_Patterns_chainFrom) (d' := 1) (av := [jm_I x2]) jd_Covering_coverPlainly_54 jk_Patterns_chainFrom jw_526 rfl (by omega) ⟨rfl, rfl⟩ (by decide) (Nat.le_of_ble_eq_true rfl) jm_SH_9 rfl rfl (jm_hqI (fun v2 h2 H => ?_)) H
    refine jm_if_ge (tgt := 69) jd_Covering_coverPlainly_57 rfl (fun hc3 => ?_) (fun hc3 => ?_)
    · replace H := H.1 hc3
      refine jm_ldc (x := 1000000) jd_Covering_coverPlainly_69 jc_525 (jm_o32c rfl) ?_
      refine jm_istore_n (i := 3) jd_Covering_coverPlainly_71 rfl (by decide) (ls2 := [some (jm_R 30), some (jm_I x1), some (jm_I x2), some (jm_I 1000000), none]) rfl ?_
      refine jm_iload_n jd_Covering_coverPlainly_72 rfl rfl ?_
      refine jm_aload_n jd_Covering_coverPlainly_73 rfl rfl ?_
      refine jm_gR jd_Covering_coverPlainly_74 jf_Covering_34 jm_SH_30 rfl ?_
      refine jm_gR jd_Covering_coverPlainly_77 jf_Covering_75 jm_SH_9 rfl ?_
      refine jm_iload_n jd_Covering_coverPlainly_80 rfl rfl ?_
      obtain ⟨hb4, H⟩ := H
      refine jm_iaload jd_Covering_coverPlainly_81 jm_SH_10 hb4 ?_
      refine jm_cS (M' := jm_m_Covering_at) (d' := 0) (av := [jm_I x1, jm_I (h2 10 (Int.toNat x2))]) jd_Covering_coverPlainly_82 jk_Covering_at jw_522 rfl (by omega) ⟨rfl, rfl⟩ (by decide) (Nat.le_of_ble_eq_true rfl) (jm_hqI (fun v5 h5 H => ?_)) H
      refine jm_istore (i := 4) jd_Covering_coverPlainly_85 (by decide) (ls2 := [some (jm_R 30), some (jm_I x1), some (jm_I x2), some (jm_I 1000000), some (jm_I v5)]) rfl ?_
      refine jm_iload_n jd_Covering_coverPlainly_87 rfl rfl ?_
      refine jm_aload_n jd_Covering_coverPlainly_88 rfl rfl ?_
      refine jm_gR jd_Covering_coverPlainly_89 jf_Covering_11 jm_SH_30 rfl ?_
      refine jm_iload jd_Covering_coverPlainly_92 rfl ?_
      obtain ⟨hb6, H⟩ := H
      refine jm_iaload jd_Covering_coverPlainly_94 jm_SH_31 hb6 ?_
      refine jm_icmp_ge (tgt := 114) jd_Covering_coverPlainly_95 rfl (fun hc7 => ?_) (fun hc7 => ?_)
      · replace H := H.1 hc7
        refine jm_iinc jd_Covering_coverPlainly_114 rfl (by decide) (ls2 := [some (jm_R 30), some (jm_I x1), some (jm_I (jm_w32 (x2 + 1))), some (jm_I 1000000), some (jm_I v5)]) rfl ?_
        refine jm_goto (tgt := 38) jd_Covering_coverPlainly_117 rfl ?_
        refine jm_keepG [true, true, true, false, false] (ls2 := [some (jm_R 30), some (jm_I x1), some (jm_I (jm_w32 (x2 + 1))), none, none]) (by rfl) (by rfl) ?_
        exact H
      · replace H := H.2 hc7
        refine jm_aload_n jd_Covering_coverPlainly_98 rfl rfl ?_
        refine jm_gR jd_Covering_coverPlainly_99 jf_Covering_11 jm_SH_30 rfl ?_
        refine jm_iload jd_Covering_coverPlainly_102 rfl ?_
        refine jm_iload_n jd_Covering_coverPlainly_104 rfl rfl ?_
        obtain ⟨hb8, H⟩ := H
        refine jm_iastore jd_Covering_coverPlainly_105 jm_SH_31 hb8 ?_
        refine jm_aload_n jd_Covering_coverPlainly_106 rfl rfl ?_
        refine jm_gR jd_Covering_coverPlainly_107 jf_Covering_15 jm_SH_30 rfl ?_
        refine jm_iload jd_Covering_coverPlainly_110 rfl ?_
        refine jm_iload_n jd_Covering_coverPlainly_112 rfl rfl ?_
        obtain ⟨hb9, H⟩ := H
        refine jm_iastore jd_Covering_coverPlainly_113 jm_SH_32 hb9 ?_
        refine jm_iinc jd_Covering_coverPlainly_114 rfl (by decide) (ls2 := [some (jm_R 30), some (jm_I x1), some (jm_I (jm_w32 (x2 + 1))), some (jm_I 1000000), some (jm_I v5)]) rfl ?_
        refine jm_goto (tgt := 38) jd_Covering_coverPlainly_117 rfl ?_
        refine jm_keepG [true, true, true, false, false] (ls2 := [some (jm_R 30), some (jm_I x1), some (jm_I (jm_w32 (x2 + 1))), none, none]) (by rfl) (by rfl) ?_
        exact H
    · replace H := H.2 hc3
      refine jm_aload_n jd_Covering_coverPlainly_60 rfl rfl ?_
      refine jm_iload_n jd_Covering_coverPlainly_61 rfl rfl ?_
      refine jm_iload_n jd_Covering_coverPlainly_62 rfl rfl ?_
      refine jm_cV (M' := jm_m_Covering_costOf) (d' := 2) (av := [jm_I x2, jm_I x1]) jd_Covering_coverPlainly_63 jk_Covering_costOf jw_530 rfl (by omega) ⟨rfl, rfl⟩ (by decide) (Nat.le_of_ble_eq_true rfl) jm_SH_30 rfl rfl (jm_hqI (fun v10 h10 H => ?_)) H
      refine jm_goto (tgt := 71) jd_Covering_coverPlainly_66 rfl ?_
      refine jm_istore_n (i := 3) jd_Covering_coverPlainly_71 rfl (by decide) (ls2 := [some (jm_R 30), some (jm_I x1), some (jm_I x2), some (jm_I v10), none]) rfl ?_
      refine jm_iload_n jd_Covering_coverPlainly_72 rfl rfl ?_
      refine jm_aload_n jd_Covering_coverPlainly_73 rfl rfl ?_
      refine jm_gR jd_Covering_coverPlainly_74 jf_Covering_34 jm_SH_30 rfl ?_
      refine jm_gR jd_Covering_coverPlainly_77 jf_Covering_75 jm_SH_9 rfl ?_
      refine jm_iload_n jd_Covering_coverPlainly_80 rfl rfl ?_
      obtain ⟨hb11, H⟩ := H
      refine jm_iaload jd_Covering_coverPlainly_81 jm_SH_10 hb11 ?_
      refine jm_cS (M' := jm_m_Covering_at) (d' := 0) (av := [jm_I x1, jm_I (h10 10 (Int.toNat x2))]) jd_Covering_coverPlainly_82 jk_Covering_at jw_522 rfl (by omega) ⟨rfl, rfl⟩ (by decide) (Nat.le_of_ble_eq_true rfl) (jm_hqI (fun v12 h12 H => ?_)) H
      refine jm_istore (i := 4) jd_Covering_coverPlainly_85 (by decide) (ls2 := [some (jm_R 30), some (jm_I x1), some (jm_I x2), some (jm_I v10), some (jm_I v12)]) rfl ?_
      refine jm_iload_n jd_Covering_coverPlainly_87 rfl rfl ?_
      refine jm_aload_n jd_Covering_coverPlainly_88 rfl rfl ?_
      refine jm_gR jd_Covering_coverPlainly_89 jf_Covering_11 jm_SH_30 rfl ?_
      refine jm_iload jd_Covering_coverPlainly_92 rfl ?_
      obtain ⟨hb13, H⟩ := H
      refine jm_iaload jd_Covering_coverPlainly_94 jm_SH_31 hb13 ?_
      refine jm_icmp_ge (tgt := 114) jd_Covering_coverPlainly_95 rfl (fun hc14 => ?_) (fun hc14 => ?_)
      · replace H := H.1 hc14
        refine jm_iinc jd_Covering_coverPlainly_114 rfl (by decide) (ls2 := [some (jm_R 30), some (jm_I x1), some (jm_I (jm_w32 (x2 + 1))), some (jm_I v10), some (jm_I v12)]) rfl ?_
        refine jm_goto (tgt := 38) jd_Covering_coverPlainly_117 rfl ?_
        refine jm_keepG [true, true, true, false, false] (ls2 := [some (jm_R 30), some (jm_I x1), some (jm_I (jm_w32 (x2 + 1))), none, none]) (by rfl) (by rfl) ?_
        exact H
      · replace H := H.2 hc14
        refine jm_aload_n jd_Covering_coverPlainly_98 rfl rfl ?_
        refine jm_gR jd_Covering_coverPlainly_99 jf_Covering_11 jm_SH_30 rfl ?_
        refine jm_iload jd_Covering_coverPlainly_102 rfl ?_
        refine jm_iload_n jd_Covering_coverPlainly_104 rfl rfl ?_
        obtain ⟨hb15, H⟩ := H
        refine jm_iastore jd_Covering_coverPlainly_105 jm_SH_31 hb15 ?_
        refine jm_aload_n jd_Covering_coverPlainly_106 rfl rfl ?_
        refine jm_gR jd_Covering_coverPlainly_107 jf_Covering_15 jm_SH_30 rfl ?_
        refine jm_iload jd_Covering_coverPlainly_110 rfl ?_
        refine jm_iload_n jd_Covering_coverPlainly_112 rfl rfl ?_
        obtain ⟨hb16, H⟩ := H
        refine jm_iastore jd_Covering_coverPlainly_113 jm_SH_32 hb16 ?_
        refine jm_iinc jd_Covering_coverPlainly_114 rfl (by decide) (ls2 := [some (jm_R 30), some (jm_I x1), some (jm_I (jm_w32 (x2 + 1))), some (jm_I v10), some (jm_I v12)]) rfl ?_
        refine jm_goto (tgt := 38) jd_Covering_coverPlainly_117 rfl ?_
        refine jm_keepG [true, true, true, false, false] (ls2 := [some (jm_R 30), some (jm_I x1), some (jm_I (jm_w32 (x2 + 1))), none, none]) (by rfl) (by rfl) ?_
        exact H
set_option maxRecDepth 4000 in
theorem jb_Covering_coverWithChains {E : jm_Env} {x1 : Int} {h : jm_H} {K : jm_H → Prop} (H : jm_BV E jm_SH jm_m_Covering_coverWithChains 2 2 [some (jm_R 30), some (jm_I x1), some (jm_I 0), none, none, none] [] h K) : jm_CV E jm_SH jm_m_Covering_coverWithChains 2 [jm_R 30, jm_I x1] h K := by
  refine jm_body (ls0 := [some (jm_R 30), some (jm_I x1), none, none, none, none]) (by decide +kernel) rfl rfl (Nat.le_of_ble_eq_true rfl) ?_
  refine jm_iconst jd_Covering_coverWithChains_0 (jm_o32c rfl) ?_
  refine jm_istore_n (i := 2) jd_Covering_coverWithChains_1 rfl (by decide) (ls2 := [some (jm_R 30), some (jm_I x1), some (jm_I 0), none, none, none]) rfl ?_
  exact H
set_option maxRecDepth 4000 in
theorem jb_Covering_coverWithChains_2 {E : jm_Env} {x1 x2 : Int} {h : jm_H} {K : jm_H → Prop} (H : ((2 ≤ x2) → jm_BV E jm_SH jm_m_Covering_coverWithChains 2 55 [some (jm_R 30), some (jm_I x1), some (jm_I 0), none, none, none] [] h K) ∧ ((¬ 2 ≤ x2) → jm_CI E jm_SH jm_m_Covering_at 0 [jm_I x1, jm_I x2] h (fun v2 h2 => jm_CI E jm_SH jm_m_Covering_at 0 [jm_I x1, jm_I x2] h2 (fun v3 h3 => (0 ≤ v3 ∧ v3 < 60) ∧ ((0 ≤ v2 ∧ v2 < 60) ∧ (jm_CI E jm_SH jm_m_Covering_at 0 [jm_I x1, jm_I x2] (jm_up h3 33 (Int.toNat v2) (h3 31 (Int.toNat v3))) (fun v6 h6 => jm_CI E jm_SH jm_m_Covering_at 0 [jm_I x1, jm_I x2] h6 (fun v7 h7 => (0 ≤ v7 ∧ v7 < 60) ∧ ((0 ≤ v6 ∧ v6 < 60) ∧ (jm_BV E jm_SH jm_m_Covering_coverWithChains 2 2 [some (jm_R 30), some (jm_I x1), some (jm_I (jm_w32 (x2 + 1))), none, none, none] [] (jm_up h7 34 (Int.toNat v6) (h7 32 (Int.toNat v7))) K)))))))))) : jm_BV E jm_SH jm_m_Covering_coverWithChains 2 2 [some (jm_R 30), some (jm_I x1), some (jm_I x2), none, none, none] [] h K := by
  refine jm_iload_n jd_Covering_coverWithChains_2 rfl rfl ?_
  refine jm_iconst jd_Covering_coverWithChains_3 (jm_o32c rfl) ?_
  refine jm_icmp_ge (tgt := 53) jd_Covering_coverWithChains_4 rfl (fun hc1 => ?_) (fun hc1 => ?_)
  · replace H := H.1 hc1
    refine jm_iconst jd_Covering_coverWithChains_53 (jm_o32c rfl) ?_
    refine jm_istore_n (i := 2) jd_Covering_coverWithChains_54 rfl (by decide) (ls2 := [some (jm_R 30), some (jm_I x1), some (jm_I 0), none, none, none]) rfl ?_
    exact H
  · replace H := H.2 hc1
    refine jm_aload_n jd_Covering_coverWithChains_7 rfl rfl ?_
    refine jm_gR jd_Covering_coverWithChains_8 jf_Covering_18 jm_SH_30 rfl ?_
    refine jm_iload_n jd_Covering_coverWithChains_11 rfl rfl ?_
    refine jm_iload_n jd_Covering_coverWithChains_12 rfl rfl ?_
    refine jm_cS (M' := jm_m_Covering_at) (d' := 0) (av := [jm_I x1, jm_I x2]) jd_Covering_coverWithChains_13 jk_Covering_at jw_522 rfl (by omega) ⟨rfl, rfl⟩ (by decide) (Nat.le_of_ble_eq_true rfl) (jm_hqI (fun v2 h2 H => ?_)) H
    refine jm_aload_n jd_Covering_coverWithChains_16 rfl rfl ?_
    refine jm_gR jd_Covering_coverWithChains_17 jf_Covering_11 jm_SH_30 rfl ?_
    refine jm_iload_n jd_Covering_coverWithChains_20 rfl rfl ?_
    refine jm_iload_n jd_Covering_coverWithChains_21 rfl rfl ?_
    refine jm_cS (M' := jm_m_Covering_at) (d' := 0) (av := [jm_I x1, jm_I x2]) jd_Covering_coverWithChains_22 jk_Covering_at jw_522 rfl (by omega) ⟨rfl, rfl⟩ (by decide) (Nat.le_of_ble_eq_true rfl) (jm_hqI (fun v3 h3 H => ?_)) H
    obtain ⟨hb4, H⟩ := H
    refine jm_iaload jd_Covering_coverWithChains_25 jm_SH_31 hb4 ?_
    obtain ⟨hb5, H⟩ := H
    refine jm_iastore jd_Covering_coverWithChains_26 jm_SH_33 hb5 ?_
    refine jm_aload_n jd_Covering_coverWithChains_27 rfl rfl ?_
    refine jm_gR jd_Covering_coverWithChains_28 jf_Covering_21 jm_SH_30 rfl ?_
    refine jm_iload_n jd_Covering_coverWithChains_31 rfl rfl ?_
    refine jm_iload_n jd_Covering_coverWithChains_32 rfl rfl ?_
    refine jm_cS (M' := jm_m_Covering_at) (d' := 0) (av := [jm_I x1, jm_I x2]) jd_Covering_coverWithChains_33 jk_Covering_at jw_522 rfl (by omega) ⟨rfl, rfl⟩ (by decide) (Nat.le_of_ble_eq_true rfl) (jm_hqI (fun v6 h6 H => ?_)) H
    refine jm_aload_n jd_Covering_coverWithChains_36 rfl rfl ?_
    refine jm_gR jd_Covering_coverWithChains_37 jf_Covering_15 jm_SH_30 rfl ?_
    refine jm_iload_n jd_Covering_coverWithChains_40 rfl rfl ?_
    refine jm_iload_n jd_Covering_coverWithChains_41 rfl rfl ?_
    refine jm_cS (M' := jm_m_Covering_at) (d' := 0) (av := [jm_I x1, jm_I x2]) jd_Covering_coverWithChains_42 jk_Covering_at jw_522 rfl (by omega) ⟨rfl, rfl⟩ (by decide) (Nat.le_of_ble_eq_true rfl) (jm_hqI (fun v7 h7 H => ?_)) H
    obtain ⟨hb8, H⟩ := H
    refine jm_iaload jd_Covering_coverWithChains_45 jm_SH_32 hb8 ?_
    obtain ⟨hb9, H⟩ := H
    refine jm_iastore jd_Covering_coverWithChains_46 jm_SH_34 hb9 ?_
    refine jm_iinc jd_Covering_coverWithChains_47 rfl (by decide) (ls2 := [some (jm_R 30), some (jm_I x1), some (jm_I (jm_w32 (x2 + 1))), none, none, none]) rfl ?_
    refine jm_goto (tgt := 2) jd_Covering_coverWithChains_50 rfl ?_
    exact H
set_option maxRecDepth 4000 in
theorem jb_Covering_coverWithChains_55 {E : jm_Env} {x1 x2 : Int} {h : jm_H} {K : jm_H → Prop} (H : ((h 9 4 ≤ x2) → K h) ∧ ((¬ h 9 4 ≤ x2) → jm_CI E jm_SH jm_m_Patterns_chainFrom 1 [jm_R 9, jm_I x2] h (fun v2 h2 => ((v2 < 0) → jm_BV E jm_SH jm_m_Covering_coverWithChains 2 55 [some (jm_R 30), some (jm_I x1), some (jm_I (jm_w32 (x2 + 1))), none, none, none] [] h2 K) ∧ ((¬ v2 < 0) → jm_CI E jm_SH jm_m_Covering_at 0 [jm_I x1, jm_I v2] h2 (fun v4 h4 => (0 ≤ v4 ∧ v4 < 60) ∧ (((0 ≤ h4 32 (Int.toNat v4)) → jm_CI E jm_SH jm_m_Covering_at 0 [jm_I x1, jm_I v2] h4 (fun v7 h7 => (0 ≤ v7 ∧ v7 < 60) ∧ ((0 ≤ x2 ∧ x2 < 16) ∧ ((0 ≤ x2 ∧ x2 < 16) ∧ (jm_CI E jm_SH jm_m_Covering_at 0 [jm_I x1, jm_I (h7 10 (Int.toNat x2))] h7 (fun v11 h11 => (0 ≤ v11 ∧ v11 < 60) ∧ (((jm_w32 ((h7 31 (Int.toNat v7)) + (h7 11 (Int.toNat x2))) < h11 33 (Int.toNat v11)) → jm_BV E jm_SH jm_m_Covering_coverWithChains 2 167 [some (jm_R 30), some (jm_I x1), some (jm_I x2), none, some (jm_I (jm_w32 ((h7 31 (Int.toNat v7)) + (h7 11 (Int.toNat x2))))), some (jm_I v11)] [] h11 K) ∧ ((¬ jm_w32 ((h7 31 (Int.toNat v7)) + (h7 11 (Int.toNat x2))) < h11 33 (Int.toNat v11)) → (0 ≤ v11 ∧ v11 < 60) ∧ (((¬ jm_w32 ((h7 31 (Int.toNat v7)) + (h7 11 (Int.toNat x2))) = h11 33 (Int.toNat v11)) → jm_BV E jm_SH jm_m_Covering_coverWithChains 2 55 [some (jm_R 30), some (jm_I x1), some (jm_I (jm_w32 (x2 + 1))), none, none, none] [] h11 K) ∧ ((jm_w32 ((h7 31 (Int.toNat v7)) + (h7 11 (Int.toNat x2))) = h11 33 (Int.toNat v11)) → (0 ≤ v11 ∧ v11 < 60) ∧ (((h11 34 (Int.toNat v11) ≤ x2) → jm_BV E jm_SH jm_m_Covering_coverWithChains 2 55 [some (jm_R 30), some (jm_I x1), some (jm_I (jm_w32 (x2 + 1))), none, none, none] [] h11 K) ∧ ((¬ h11 34 (Int.toNat v11) ≤ x2) → jm_BV E jm_SH jm_m_Covering_coverWithChains 2 167 [some (jm_R 30), some (jm_I x1), some (jm_I x2), none, some (jm_I (jm_w32 ((h7 31 (Int.toNat v7)) + (h7 11 (Int.toNat x2))))), some (jm_I v11)] [] h11 K)))))))))))) ∧ ((¬ 0 ≤ h4 32 (Int.toNat v4)) → jm_BV E jm_SH jm_m_Covering_coverWithChains 2 55 [some (jm_R 30), some (jm_I x1), some (jm_I (jm_w32 (x2 + 1))), none, none, none] [] h4 K))))))) : jm_BV E jm_SH jm_m_Covering_coverWithChains 2 55 [some (jm_R 30), some (jm_I x1), some (jm_I x2), none, none, none] [] h K := by
  refine jm_iload_n jd_Covering_coverWithChains_55 rfl rfl ?_
  refine jm_aload_n jd_Covering_coverWithChains_56 rfl rfl ?_
  refine jm_gR jd_Covering_coverWithChains_57 jf_Covering_34 jm_SH_30 rfl ?_
  refine jm_gI jd_Covering_coverWithChains_60 jf_Covering_65 jm_SH_9 ?_
  refine jm_icmp_ge (tgt := 190) jd_Covering_coverWithChains_63 rfl (fun hc1 => ?_) (fun hc1 => ?_)
  · replace H := H.1 hc1
    exact jm_vreturn jd_Covering_coverWithChains_190 rfl (by decide) ⟨rfl, rfl, H⟩
  · replace H := H.2 hc1
    refine jm_aload_n jd_Covering_coverWithChains_66 rfl rfl ?_
    refine jm_gR jd_Covering_coverWithChains_67 jf_Covering_34 jm_SH_30 rfl ?_
    refine jm_iload_n jd_Covering_coverWithChains_70 rfl rfl ?_
    refine jm_cV (M' := jm_m_Patterns_chainFrom) (d' := 1) (av := [jm_I x2]) jd_Covering_coverWithChains_71 jk_Patterns_chainFrom jw_526 rfl (by omega) ⟨rfl, rfl⟩ (by decide) (Nat.le_of_ble_eq_true rfl) jm_SH_9 rfl rfl (jm_hqI (fun v2 h2 H => ?_)) H
    refine jm_istore_n (i := 3) jd_Covering_coverWithChains_74 rfl (by decide) (ls2 := [some (jm_R 30), some (jm_I x1), some (jm_I x2), some (jm_I v2), none, none]) rfl ?_
    refine jm_iload_n jd_Covering_coverWithChains_75 rfl rfl ?_
    refine jm_if_lt (tgt := 184) jd_Covering_coverWithChains_76 rfl (fun hc3 => ?_) (fun hc3 => ?_)
    · replace H := H.1 hc3
      refine jm_iinc jd_Covering_coverWithChains_184 rfl (by decide) (ls2 := [some (jm_R 30), some (jm_I x1), some (jm_I (jm_w32 (x2 + 1))), some (jm_I v2), none, none]) rfl ?_
      refine jm_goto (tgt := 55) jd_Covering_coverWithChains_187 rfl ?_
      refine jm_keepG [true, true, true, false, false, false] (ls2 := [some (jm_R 30), some (jm_I x1), some (jm_I (jm_w32 (x2 + 1))), none, none, none]) (by rfl) (by rfl) ?_
      exact H
    · replace H := H.2 hc3
      refine jm_aload_n jd_Covering_coverWithChains_79 rfl rfl ?_
      refine jm_gR jd_Covering_coverWithChains_80 jf_Covering_15 jm_SH_30 rfl ?_
      refine jm_iload_n jd_Covering_coverWithChains_83 rfl rfl ?_
      refine jm_iload_n jd_Covering_coverWithChains_84 rfl rfl ?_
      refine jm_cS (M' := jm_m_Covering_at) (d' := 0) (av := [jm_I x1, jm_I v2]) jd_Covering_coverWithChains_85 jk_Covering_at jw_522 rfl (by omega) ⟨rfl, rfl⟩ (by decide) (Nat.le_of_ble_eq_true rfl) (jm_hqI (fun v4 h4 H => ?_)) H
      obtain ⟨hb5, H⟩ := H
      refine jm_iaload jd_Covering_coverWithChains_88 jm_SH_32 hb5 ?_
      refine jm_if_ge (tgt := 95) jd_Covering_coverWithChains_89 rfl (fun hc6 => ?_) (fun hc6 => ?_)
      · replace H := H.1 hc6
        refine jm_aload_n jd_Covering_coverWithChains_95 rfl rfl ?_
        refine jm_gR jd_Covering_coverWithChains_96 jf_Covering_11 jm_SH_30 rfl ?_
        refine jm_iload_n jd_Covering_coverWithChains_99 rfl rfl ?_
        refine jm_iload_n jd_Covering_coverWithChains_100 rfl rfl ?_
        refine jm_cS (M' := jm_m_Covering_at) (d' := 0) (av := [jm_I x1, jm_I v2]) jd_Covering_coverWithChains_101 jk_Covering_at jw_522 rfl (by omega) ⟨rfl, rfl⟩ (by decide) (Nat.le_of_ble_eq_true rfl) (jm_hqI (fun v7 h7 H => ?_)) H
        obtain ⟨hb8, H⟩ := H
        refine jm_iaload jd_Covering_coverWithChains_104 jm_SH_31 hb8 ?_
        refine jm_aload_n jd_Covering_coverWithChains_105 rfl rfl ?_
        refine jm_gR jd_Covering_coverWithChains_106 jf_Covering_34 jm_SH_30 rfl ?_
        refine jm_gR jd_Covering_coverWithChains_109 jf_Covering_78 jm_SH_9 rfl ?_
        refine jm_iload_n jd_Covering_coverWithChains_112 rfl rfl ?_
        obtain ⟨hb9, H⟩ := H
        refine jm_iaload jd_Covering_coverWithChains_113 jm_SH_11 hb9 ?_
        refine jm_iadd jd_Covering_coverWithChains_114 ?_
        refine jm_istore (i := 4) jd_Covering_coverWithChains_115 (by decide) (ls2 := [some (jm_R 30), some (jm_I x1), some (jm_I x2), some (jm_I v2), some (jm_I (jm_w32 ((h7 31 (Int.toNat v7)) + (h7 11 (Int.toNat x2))))), none]) rfl ?_
        refine jm_iload_n jd_Covering_coverWithChains_117 rfl rfl ?_
        refine jm_aload_n jd_Covering_coverWithChains_118 rfl rfl ?_
        refine jm_gR jd_Covering_coverWithChains_119 jf_Covering_34 jm_SH_30 rfl ?_
        refine jm_gR jd_Covering_coverWithChains_122 jf_Covering_75 jm_SH_9 rfl ?_
        refine jm_iload_n jd_Covering_coverWithChains_125 rfl rfl ?_
        obtain ⟨hb10, H⟩ := H
        refine jm_iaload jd_Covering_coverWithChains_126 jm_SH_10 hb10 ?_
        refine jm_cS (M' := jm_m_Covering_at) (d' := 0) (av := [jm_I x1, jm_I (h7 10 (Int.toNat x2))]) jd_Covering_coverWithChains_127 jk_Covering_at jw_522 rfl (by omega) ⟨rfl, rfl⟩ (by decide) (Nat.le_of_ble_eq_true rfl) (jm_hqI (fun v11 h11 H => ?_)) H
        refine jm_istore (i := 5) jd_Covering_coverWithChains_130 (by decide) (ls2 := [some (jm_R 30), some (jm_I x1), some (jm_I x2), some (jm_I v2), some (jm_I (jm_w32 ((h7 31 (Int.toNat v7)) + (h7 11 (Int.toNat x2))))), some (jm_I v11)]) rfl ?_
        refine jm_iload jd_Covering_coverWithChains_132 rfl ?_
        refine jm_aload_n jd_Covering_coverWithChains_134 rfl rfl ?_
        refine jm_gR jd_Covering_coverWithChains_135 jf_Covering_18 jm_SH_30 rfl ?_
        refine jm_iload jd_Covering_coverWithChains_138 rfl ?_
        obtain ⟨hb12, H⟩ := H
        refine jm_iaload jd_Covering_coverWithChains_140 jm_SH_33 hb12 ?_
        refine jm_icmp_lt (tgt := 167) jd_Covering_coverWithChains_141 rfl (fun hc13 => ?_) (fun hc13 => ?_)
        · replace H := H.1 hc13
          refine jm_keepG [true, true, true, false, true, true] (ls2 := [some (jm_R 30), some (jm_I x1), some (jm_I x2), none, some (jm_I (jm_w32 ((h7 31 (Int.toNat v7)) + (h7 11 (Int.toNat x2))))), some (jm_I v11)]) (by rfl) (by rfl) ?_
          exact H
        · replace H := H.2 hc13
          refine jm_iload jd_Covering_coverWithChains_144 rfl ?_
          refine jm_aload_n jd_Covering_coverWithChains_146 rfl rfl ?_
          refine jm_gR jd_Covering_coverWithChains_147 jf_Covering_18 jm_SH_30 rfl ?_
          refine jm_iload jd_Covering_coverWithChains_150 rfl ?_
          obtain ⟨hb14, H⟩ := H
          refine jm_iaload jd_Covering_coverWithChains_152 jm_SH_33 hb14 ?_
          refine jm_icmp_ne (tgt := 184) jd_Covering_coverWithChains_153 rfl (fun hc15 => ?_) (fun hc15 => ?_)
          · replace H := H.1 hc15
            refine jm_iinc jd_Covering_coverWithChains_184 rfl (by decide) (ls2 := [some (jm_R 30), some (jm_I x1), some (jm_I (jm_w32 (x2 + 1))), some (jm_I v2), some (jm_I (jm_w32 ((h7 31 (Int.toNat v7)) + (h7 11 (Int.toNat x2))))), some (jm_I v11)]) rfl ?_
            refine jm_goto (tgt := 55) jd_Covering_coverWithChains_187 rfl ?_
            refine jm_keepG [true, true, true, false, false, false] (ls2 := [some (jm_R 30), some (jm_I x1), some (jm_I (jm_w32 (x2 + 1))), none, none, none]) (by rfl) (by rfl) ?_
            exact H
          · replace H := H.2 hc15
            refine jm_iload_n jd_Covering_coverWithChains_156 rfl rfl ?_
            refine jm_aload_n jd_Covering_coverWithChains_157 rfl rfl ?_
            refine jm_gR jd_Covering_coverWithChains_158 jf_Covering_21 jm_SH_30 rfl ?_
            refine jm_iload jd_Covering_coverWithChains_161 rfl ?_
            obtain ⟨hb16, H⟩ := H
            refine jm_iaload jd_Covering_coverWithChains_163 jm_SH_34 hb16 ?_
            refine jm_icmp_ge (tgt := 184) jd_Covering_coverWithChains_164 rfl (fun hc17 => ?_) (fun hc17 => ?_)
            · replace H := H.1 hc17
              refine jm_iinc jd_Covering_coverWithChains_184 rfl (by decide) (ls2 := [some (jm_R 30), some (jm_I x1), some (jm_I (jm_w32 (x2 + 1))), some (jm_I v2), some (jm_I (jm_w32 ((h7 31 (Int.toNat v7)) + (h7 11 (Int.toNat x2))))), some (jm_I v11)]) rfl ?_
              refine jm_goto (tgt := 55) jd_Covering_coverWithChains_187 rfl ?_
              refine jm_keepG [true, true, true, false, false, false] (ls2 := [some (jm_R 30), some (jm_I x1), some (jm_I (jm_w32 (x2 + 1))), none, none, none]) (by rfl) (by rfl) ?_
              exact H
            · replace H := H.2 hc17
              refine jm_keepG [true, true, true, false, true, true] (ls2 := [some (jm_R 30), some (jm_I x1), some (jm_I x2), none, some (jm_I (jm_w32 ((h7 31 (Int.toNat v7)) + (h7 11 (Int.toNat x2))))), some (jm_I v11)]) (by rfl) (by rfl) ?_
              exact H
      · replace H := H.2 hc6
        refine jm_goto (tgt := 184) jd_Covering_coverWithChains_92 rfl ?_
        refine jm_iinc jd_Covering_coverWithChains_184 rfl (by decide) (ls2 := [some (jm_R 30), some (jm_I x1), some (jm_I (jm_w32 (x2 + 1))), some (jm_I v2), none, none]) rfl ?_
        refine jm_goto (tgt := 55) jd_Covering_coverWithChains_187 rfl ?_
        refine jm_keepG [true, true, true, false, false, false] (ls2 := [some (jm_R 30), some (jm_I x1), some (jm_I (jm_w32 (x2 + 1))), none, none, none]) (by rfl) (by rfl) ?_
        exact H
set_option maxRecDepth 4000 in
theorem jb_Covering_coverWithChains_167 {E : jm_Env} {x1 x2 x4 x5 : Int} {h : jm_H} {K : jm_H → Prop} (H : (0 ≤ x5 ∧ x5 < 60) ∧ ((0 ≤ x5 ∧ x5 < 60) ∧ (jm_BV E jm_SH jm_m_Covering_coverWithChains 2 55 [some (jm_R 30), some (jm_I x1), some (jm_I (jm_w32 (x2 + 1))), none, none, none] [] (jm_up (jm_up h 33 (Int.toNat x5) x4) 34 (Int.toNat x5) x2) K))) : jm_BV E jm_SH jm_m_Covering_coverWithChains 2 167 [some (jm_R 30), some (jm_I x1), some (jm_I x2), none, some (jm_I x4), some (jm_I x5)] [] h K := by
  refine jm_aload_n jd_Covering_coverWithChains_167 rfl rfl ?_
  refine jm_gR jd_Covering_coverWithChains_168 jf_Covering_18 jm_SH_30 rfl ?_
  refine jm_iload jd_Covering_coverWithChains_171 rfl ?_
  refine jm_iload jd_Covering_coverWithChains_173 rfl ?_
  obtain ⟨hb1, H⟩ := H
  refine jm_iastore jd_Covering_coverWithChains_175 jm_SH_33 hb1 ?_
  refine jm_aload_n jd_Covering_coverWithChains_176 rfl rfl ?_
  refine jm_gR jd_Covering_coverWithChains_177 jf_Covering_21 jm_SH_30 rfl ?_
  refine jm_iload jd_Covering_coverWithChains_180 rfl ?_
  refine jm_iload_n jd_Covering_coverWithChains_182 rfl rfl ?_
  obtain ⟨hb2, H⟩ := H
  refine jm_iastore jd_Covering_coverWithChains_183 jm_SH_34 hb2 ?_
  refine jm_iinc jd_Covering_coverWithChains_184 rfl (by decide) (ls2 := [some (jm_R 30), some (jm_I x1), some (jm_I (jm_w32 (x2 + 1))), none, some (jm_I x4), some (jm_I x5)]) rfl ?_
  refine jm_goto (tgt := 55) jd_Covering_coverWithChains_187 rfl ?_
  refine jm_keepG [true, true, true, false, false, false] (ls2 := [some (jm_R 30), some (jm_I x1), some (jm_I (jm_w32 (x2 + 1))), none, none, none]) (by rfl) (by rfl) ?_
  exact H
set_option maxRecDepth 4000 in
theorem jb_Covering_costOf {E : jm_Env} {x1 x2 : Int} {h : jm_H} {K : Int → jm_H → Prop} (H : (0 ≤ x1 ∧ x1 < 16) ∧ (jm_BI E jm_SH jm_m_Covering_costOf 2 16 [some (jm_R 30), some (jm_I x1), none, some (jm_I (h 11 (Int.toNat x1))), some (jm_I x2), some (jm_I 0), none, none] [] h K)) : jm_CI E jm_SH jm_m_Covering_costOf 2 [jm_R 30, jm_I x1, jm_I x2] h K := by
  refine jm_body (ls0 := [some (jm_R 30), some (jm_I x1), some (jm_I x2), none, none, none, none, none]) (by decide +kernel) rfl rfl (Nat.le_of_ble_eq_true rfl) ?_
  refine jm_aload_n jd_Covering_costOf_0 rfl rfl ?_
  refine jm_gR jd_Covering_costOf_1 jf_Covering_34 jm_SH_30 rfl ?_
  refine jm_gR jd_Covering_costOf_4 jf_Covering_78 jm_SH_9 rfl ?_
  refine jm_iload_n jd_Covering_costOf_7 rfl rfl ?_
  obtain ⟨hb1, H⟩ := H
  refine jm_iaload jd_Covering_costOf_8 jm_SH_11 hb1 ?_
  refine jm_istore_n (i := 3) jd_Covering_costOf_9 rfl (by decide) (ls2 := [some (jm_R 30), some (jm_I x1), some (jm_I x2), some (jm_I (h 11 (Int.toNat x1))), none, none, none, none]) rfl ?_
  refine jm_iload_n jd_Covering_costOf_10 rfl rfl ?_
  refine jm_istore (i := 4) jd_Covering_costOf_11 (by decide) (ls2 := [some (jm_R 30), some (jm_I x1), some (jm_I x2), some (jm_I (h 11 (Int.toNat x1))), some (jm_I x2), none, none, none]) rfl ?_
  refine jm_iconst jd_Covering_costOf_13 (jm_o32c rfl) ?_
  refine jm_istore (i := 5) jd_Covering_costOf_14 (by decide) (ls2 := [some (jm_R 30), some (jm_I x1), some (jm_I x2), some (jm_I (h 11 (Int.toNat x1))), some (jm_I x2), some (jm_I 0), none, none]) rfl ?_
  refine jm_keepG [true, true, false, true, true, true, false, false] (ls2 := [some (jm_R 30), some (jm_I x1), none, some (jm_I (h 11 (Int.toNat x1))), some (jm_I x2), some (jm_I 0), none, none]) (by rfl) (by rfl) ?_
  exact H
set_option maxRecDepth 4000 in
theorem jb_Covering_costOf_16 {E : jm_Env} {x1 x3 x4 x5 : Int} {h : jm_H} {K : Int → jm_H → Prop} (H : (0 ≤ x1 ∧ x1 < 16) ∧ (((h 12 (Int.toNat x1) ≤ x5) → K x3 h) ∧ ((¬ h 12 (Int.toNat x1) ≤ x5) → ((x4 < h 4 4) → (0 ≤ x1 ∧ x1 < 16) ∧ ((0 ≤ x5 ∧ x5 < 12) ∧ (jm_CI E jm_SH jm_m_Patterns_headOf 0 [jm_I (h (14 + (Int.toNat x1)) (Int.toNat x5))] h (fun v6 h6 => ((v6 < 0) → (0 ≤ x4 ∧ x4 < 30) ∧ (jm_CI E jm_SH jm_m_Patterns_fits 1 [jm_I (h (14 + (Int.toNat x1)) (Int.toNat x5)), jm_I (h6 5 (Int.toNat x4))] h6 (fun v9 h9 => ((v9 = 0) → K 1000000 h9) ∧ ((¬ v9 = 0) → jm_BI E jm_SH jm_m_Covering_costOf 2 16 [some (jm_R 30), some (jm_I x1), none, some (jm_I x3), some (jm_I (jm_w32 (x4 + 1))), some (jm_I (jm_w32 (x5 + 1))), none, none] [] h9 K)))) ∧ ((¬ v6 < 0) → jm_CI E jm_SH jm_m_Covering_at 0 [jm_I x4, jm_I v6] h6 (fun v11 h11 => (0 ≤ v11 ∧ v11 < 60) ∧ ((0 ≤ x4 ∧ x4 < 30) ∧ (jm_BI E jm_SH jm_m_Covering_costOf 2 16 [some (jm_R 30), some (jm_I x1), none, some (jm_I (min 1000000 (jm_w32 (x3 + (h11 33 (Int.toNat v11)))))), some (jm_I (jm_w32 (x4 + (h11 7 (Int.toNat x4))))), some (jm_I (jm_w32 (x5 + 1))), none, none] [] h11 K)))))))) ∧ ((¬ x4 < h 4 4) → K 1000000 h)))) : jm_BI E jm_SH jm_m_Covering_costOf 2 16 [some (jm_R 30), some (jm_I x1), none, some (jm_I x3), some (jm_I x4), some (jm_I x5), none, none] [] h K := by
  refine jm_iload jd_Covering_costOf_16 rfl ?_
  refine jm_aload_n jd_Covering_costOf_18 rfl rfl ?_
  refine jm_gR jd_Covering_costOf_19 jf_Covering_34 jm_SH_30 rfl ?_
  refine jm_gR jd_Covering_costOf_22 jf_Covering_81 jm_SH_9 rfl ?_
  refine jm_iload_n jd_Covering_costOf_25 rfl rfl ?_
  obtain ⟨hb1, H⟩ := H
  refine jm_iaload jd_Covering_costOf_26 jm_SH_12 hb1 ?_
  refine jm_icmp_ge (tgt := 142) jd_Covering_costOf_27 rfl (fun hc2 => ?_) (fun hc2 => ?_)
  · replace H := H.1 hc2
    refine jm_iload_n jd_Covering_costOf_142 rfl rfl ?_
    exact jm_ireturn jd_Covering_costOf_143 rfl (by decide) ⟨rfl, _, rfl, H⟩
  · replace H := H.2 hc2
    refine jm_iload jd_Covering_costOf_30 rfl ?_
    refine jm_aload_n jd_Covering_costOf_32 rfl rfl ?_
    refine jm_gR jd_Covering_costOf_33 jf_Covering_30 jm_SH_30 rfl ?_
    refine jm_gI jd_Covering_costOf_36 jf_Covering_42 jm_SH_4 ?_
    refine jm_icmp_lt (tgt := 45) jd_Covering_costOf_39 rfl (fun hc3 => ?_) (fun hc3 => ?_)
    · replace H := H.1 hc3
      refine jm_aload_n jd_Covering_costOf_45 rfl rfl ?_
      refine jm_gR jd_Covering_costOf_46 jf_Covering_34 jm_SH_30 rfl ?_
      refine jm_gR jd_Covering_costOf_49 jf_Covering_84 jm_SH_9 rfl ?_
      refine jm_iload_n jd_Covering_costOf_52 rfl rfl ?_
      obtain ⟨hb4, H⟩ := H
      refine jm_aaload jd_Covering_costOf_53 jm_SH_13 (by decide) hb4 (jm_SH_r13 _ (by omega)) ?_
      refine jm_iload jd_Covering_costOf_54 rfl ?_
      obtain ⟨hb5, H⟩ := H
      refine jm_iaload jd_Covering_costOf_56 (jm_SH_s13 _ (by omega)) hb5 ?_
      refine jm_istore (i := 6) jd_Covering_costOf_57 (by decide) (ls2 := [some (jm_R 30), some (jm_I x1), none, some (jm_I x3), some (jm_I x4), some (jm_I x5), some (jm_I (h (14 + (Int.toNat x1)) (Int.toNat x5))), none]) rfl ?_
      refine jm_iload jd_Covering_costOf_59 rfl ?_
      refine jm_cS (M' := jm_m_Patterns_headOf) (d' := 0) (av := [jm_I (h (14 + (Int.toNat x1)) (Int.toNat x5))]) jd_Covering_costOf_61 jk_Patterns_headOf jw_534 rfl (by omega) ⟨rfl, rfl⟩ (by decide) (Nat.le_of_ble_eq_true rfl) (jm_hqI (fun v6 h6 H => ?_)) H
      refine jm_istore (i := 7) jd_Covering_costOf_64 (by decide) (ls2 := [some (jm_R 30), some (jm_I x1), none, some (jm_I x3), some (jm_I x4), some (jm_I x5), some (jm_I (h (14 + (Int.toNat x1)) (Int.toNat x5))), some (jm_I v6)]) rfl ?_
      refine jm_iload jd_Covering_costOf_66 rfl ?_
      refine jm_if_lt (tgt := 109) jd_Covering_costOf_68 rfl (fun hc7 => ?_) (fun hc7 => ?_)
      · replace H := H.1 hc7
        refine jm_iload jd_Covering_costOf_109 rfl ?_
        refine jm_aload_n jd_Covering_costOf_111 rfl rfl ?_
        refine jm_gR jd_Covering_costOf_112 jf_Covering_30 jm_SH_30 rfl ?_
        refine jm_gR jd_Covering_costOf_115 jf_Covering_99 jm_SH_4 rfl ?_
        refine jm_iload jd_Covering_costOf_118 rfl ?_
        obtain ⟨hb8, H⟩ := H
        refine jm_iaload jd_Covering_costOf_120 jm_SH_5 hb8 ?_
        refine jm_cS (M' := jm_m_Patterns_fits) (d' := 1) (av := [jm_I (h (14 + (Int.toNat x1)) (Int.toNat x5)), jm_I (h6 5 (Int.toNat x4))]) jd_Covering_costOf_121 jk_Patterns_fits jw_536 rfl (by omega) ⟨rfl, rfl⟩ (by decide) (Nat.le_of_ble_eq_true rfl) (jm_hqI (fun v9 h9 H => ?_)) H
        refine jm_if_eq (tgt := 133) jd_Covering_costOf_124 rfl (fun hc10 => ?_) (fun hc10 => ?_)
        · replace H := H.1 hc10
          refine jm_ldc (x := 1000000) jd_Covering_costOf_133 jc_525 (jm_o32c rfl) ?_
          exact jm_ireturn jd_Covering_costOf_135 rfl (by decide) ⟨rfl, _, rfl, H⟩
        · replace H := H.2 hc10
          refine jm_iinc jd_Covering_costOf_127 rfl (by decide) (ls2 := [some (jm_R 30), some (jm_I x1), none, some (jm_I x3), some (jm_I (jm_w32 (x4 + 1))), some (jm_I x5), some (jm_I (h (14 + (Int.toNat x1)) (Int.toNat x5))), some (jm_I v6)]) rfl ?_
          refine jm_goto (tgt := 136) jd_Covering_costOf_130 rfl ?_
          refine jm_iinc jd_Covering_costOf_136 rfl (by decide) (ls2 := [some (jm_R 30), some (jm_I x1), none, some (jm_I x3), some (jm_I (jm_w32 (x4 + 1))), some (jm_I (jm_w32 (x5 + 1))), some (jm_I (h (14 + (Int.toNat x1)) (Int.toNat x5))), some (jm_I v6)]) rfl ?_
          refine jm_goto (tgt := 16) jd_Covering_costOf_139 rfl ?_
          refine jm_keepG [true, true, false, true, true, true, false, false] (ls2 := [some (jm_R 30), some (jm_I x1), none, some (jm_I x3), some (jm_I (jm_w32 (x4 + 1))), some (jm_I (jm_w32 (x5 + 1))), none, none]) (by rfl) (by rfl) ?_
          exact H
      · replace H := H.2 hc7
        refine jm_ldc (x := 1000000) jd_Covering_costOf_71 jc_525 (jm_o32c rfl) ?_
        refine jm_iload_n jd_Covering_costOf_73 rfl rfl ?_
        refine jm_aload_n jd_Covering_costOf_74 rfl rfl ?_
        refine jm_gR jd_Covering_costOf_75 jf_Covering_18 jm_SH_30 rfl ?_
        refine jm_iload jd_Covering_costOf_78 rfl ?_
        refine jm_iload jd_Covering_costOf_80 rfl ?_
        refine jm_cS (M' := jm_m_Covering_at) (d' := 0) (av := [jm_I x4, jm_I v6]) jd_Covering_costOf_82 jk_Covering_at jw_522 rfl (by omega) ⟨rfl, rfl⟩ (by decide) (Nat.le_of_ble_eq_true rfl) (jm_hqI (fun v11 h11 H => ?_)) H
        obtain ⟨hb12, H⟩ := H
        refine jm_iaload jd_Covering_costOf_85 jm_SH_33 hb12 ?_
        refine jm_iadd jd_Covering_costOf_86 ?_
        refine jm_min jd_Covering_costOf_87 jw_535 jw_448 jw_13 jw_449 (by omega) (by decide) (Nat.le_of_ble_eq_true rfl) ?_
        refine jm_istore_n (i := 3) jd_Covering_costOf_90 rfl (by decide) (ls2 := [some (jm_R 30), some (jm_I x1), none, some (jm_I (min 1000000 (jm_w32 (x3 + (h11 33 (Int.toNat v11)))))), some (jm_I x4), some (jm_I x5), some (jm_I (h (14 + (Int.toNat x1)) (Int.toNat x5))), some (jm_I v6)]) rfl ?_
        refine jm_iload jd_Covering_costOf_91 rfl ?_
        refine jm_aload_n jd_Covering_costOf_93 rfl rfl ?_
        refine jm_gR jd_Covering_costOf_94 jf_Covering_30 jm_SH_30 rfl ?_
        refine jm_gR jd_Covering_costOf_97 jf_Covering_96 jm_SH_4 rfl ?_
        refine jm_iload jd_Covering_costOf_100 rfl ?_
        obtain ⟨hb13, H⟩ := H
        refine jm_iaload jd_Covering_costOf_102 jm_SH_7 hb13 ?_
        refine jm_iadd jd_Covering_costOf_103 ?_
        refine jm_istore (i := 4) jd_Covering_costOf_104 (by decide) (ls2 := [some (jm_R 30), some (jm_I x1), none, some (jm_I (min 1000000 (jm_w32 (x3 + (h11 33 (Int.toNat v11)))))), some (jm_I (jm_w32 (x4 + (h11 7 (Int.toNat x4))))), some (jm_I x5), some (jm_I (h (14 + (Int.toNat x1)) (Int.toNat x5))), some (jm_I v6)]) rfl ?_
        refine jm_goto (tgt := 136) jd_Covering_costOf_106 rfl ?_
        refine jm_iinc jd_Covering_costOf_136 rfl (by decide) (ls2 := [some (jm_R 30), some (jm_I x1), none, some (jm_I (min 1000000 (jm_w32 (x3 + (h11 33 (Int.toNat v11)))))), some (jm_I (jm_w32 (x4 + (h11 7 (Int.toNat x4))))), some (jm_I (jm_w32 (x5 + 1))), some (jm_I (h (14 + (Int.toNat x1)) (Int.toNat x5))), some (jm_I v6)]) rfl ?_
        refine jm_goto (tgt := 16) jd_Covering_costOf_139 rfl ?_
        refine jm_keepG [true, true, false, true, true, true, false, false] (ls2 := [some (jm_R 30), some (jm_I x1), none, some (jm_I (min 1000000 (jm_w32 (x3 + (h11 33 (Int.toNat v11)))))), some (jm_I (jm_w32 (x4 + (h11 7 (Int.toNat x4))))), some (jm_I (jm_w32 (x5 + 1))), none, none]) (by rfl) (by rfl) ?_
        exact H
    · replace H := H.2 hc3
      refine jm_ldc (x := 1000000) jd_Covering_costOf_42 jc_525 (jm_o32c rfl) ?_
      exact jm_ireturn jd_Covering_costOf_44 rfl (by decide) ⟨rfl, _, rfl, H⟩
set_option maxRecDepth 4000 in
theorem jb_Covering_tell {E : jm_Env} {d : Nat} {dr : Nat} (hdr : dr + 1 ≤ d) (hdc : 2 ≤ d) {x1 x2 x3 : Int} {h : jm_H} {K : jm_H → Prop} (H : jm_CI E jm_SH jm_m_Covering_at 0 [jm_I x1, jm_I x2] h (fun v1 h1 => (0 ≤ v1 ∧ v1 < 60) ∧ (((0 ≤ h1 34 (Int.toNat v1)) → jm_CI E jm_SH jm_m_Patterns_chainFrom 1 [jm_R 9, jm_I (h1 34 (Int.toNat v1))] h1 (fun v4 h4 => ((0 ≤ v4) → jm_CV E jm_SH jm_m_Covering_tellPlain dr [jm_R 30, jm_I x1, jm_I v4, jm_I x3] h4 (fun h6 => jm_CV E jm_SH jm_m_Covering_tellOne 0 [jm_R 30, jm_I (h1 34 (Int.toNat v1)), jm_I x1] h6 (fun h7 => K h7))) ∧ ((¬ 0 ≤ v4) → jm_CV E jm_SH jm_m_Covering_tellPlain dr [jm_R 30, jm_I x1, jm_I x2, jm_I x3] h4 (fun h8 => K h8)))) ∧ ((¬ 0 ≤ h1 34 (Int.toNat v1)) → K h1)))) : jm_CV E jm_SH jm_m_Covering_tell d [jm_R 30, jm_I x1, jm_I x2, jm_I x3] h K := by
  refine jm_body (ls0 := [some (jm_R 30), some (jm_I x1), some (jm_I x2), some (jm_I x3), none, none]) (by decide +kernel) rfl rfl (Nat.le_of_ble_eq_true rfl) ?_
  refine jm_aload_n jd_Covering_tell_0 rfl rfl ?_
  refine jm_gR jd_Covering_tell_1 jf_Covering_21 jm_SH_30 rfl ?_
  refine jm_iload_n jd_Covering_tell_4 rfl rfl ?_
  refine jm_iload_n jd_Covering_tell_5 rfl rfl ?_
  refine jm_cS (M' := jm_m_Covering_at) (d' := 0) (av := [jm_I x1, jm_I x2]) jd_Covering_tell_6 jk_Covering_at jw_522 rfl (by omega) ⟨rfl, rfl⟩ (by decide) (Nat.le_of_ble_eq_true rfl) (jm_hqI (fun v1 h1 H => ?_)) H
  obtain ⟨hb2, H⟩ := H
  refine jm_iaload jd_Covering_tell_9 jm_SH_34 hb2 ?_
  refine jm_istore (i := 4) jd_Covering_tell_10 (by decide) (ls2 := [some (jm_R 30), some (jm_I x1), some (jm_I x2), some (jm_I x3), some (jm_I (h1 34 (Int.toNat v1))), none]) rfl ?_
  refine jm_iload jd_Covering_tell_12 rfl ?_
  refine jm_if_ge (tgt := 18) jd_Covering_tell_14 rfl (fun hc3 => ?_) (fun hc3 => ?_)
  · replace H := H.1 hc3
    refine jm_aload_n jd_Covering_tell_18 rfl rfl ?_
    refine jm_gR jd_Covering_tell_19 jf_Covering_34 jm_SH_30 rfl ?_
    refine jm_iload jd_Covering_tell_22 rfl ?_
    refine jm_cV (M' := jm_m_Patterns_chainFrom) (d' := 1) (av := [jm_I (h1 34 (Int.toNat v1))]) jd_Covering_tell_24 jk_Patterns_chainFrom jw_526 rfl (by omega) ⟨rfl, rfl⟩ (by decide) (Nat.le_of_ble_eq_true rfl) jm_SH_9 rfl rfl (jm_hqI (fun v4 h4 H => ?_)) H
    refine jm_istore (i := 5) jd_Covering_tell_27 (by decide) (ls2 := [some (jm_R 30), some (jm_I x1), some (jm_I x2), some (jm_I x3), some (jm_I (h1 34 (Int.toNat v1))), some (jm_I v4)]) rfl ?_
    refine jm_iload jd_Covering_tell_29 rfl ?_
    refine jm_if_ge (tgt := 44) jd_Covering_tell_31 rfl (fun hc5 => ?_) (fun hc5 => ?_)
    · replace H := H.1 hc5
      refine jm_aload_n jd_Covering_tell_44 rfl rfl ?_
      refine jm_iload_n jd_Covering_tell_45 rfl rfl ?_
      refine jm_iload jd_Covering_tell_46 rfl ?_
      refine jm_iload_n jd_Covering_tell_48 rfl rfl ?_
      refine jm_cV (M' := jm_m_Covering_tellPlain) (d' := dr) (av := [jm_I x1, jm_I v4, jm_I x3]) jd_Covering_tell_49 jk_Covering_tellPlain jw_549 rfl hdr ⟨rfl, rfl⟩ (by decide) (Nat.le_of_ble_eq_true rfl) jm_SH_30 rfl rfl (jm_hqV (fun h6 H => ?_)) H
      refine jm_aload_n jd_Covering_tell_52 rfl rfl ?_
      refine jm_iload jd_Covering_tell_53 rfl ?_
      refine jm_iload_n jd_Covering_tell_55 rfl rfl ?_
      refine jm_cV (M' := jm_m_Covering_tellOne) (d' := 0) (av := [jm_I (h1 34 (Int.toNat v1)), jm_I x1]) jd_Covering_tell_56 jk_Covering_tellOne jw_553 rfl (by omega) ⟨rfl, rfl⟩ (by decide) (Nat.le_of_ble_eq_true rfl) jm_SH_30 rfl rfl (jm_hqV (fun h7 H => ?_)) H
      exact jm_vreturn jd_Covering_tell_59 rfl (by decide) ⟨rfl, rfl, H⟩
    · replace H := H.2 hc5
      refine jm_aload_n jd_Covering_tell_34 rfl rfl ?_
      refine jm_iload_n jd_Covering_tell_35 rfl rfl ?_
      refine jm_iload_n jd_Covering_tell_36 rfl rfl ?_
      refine jm_iload_n jd_Covering_tell_37 rfl rfl ?_
      refine jm_cV (M' := jm_m_Covering_tellPlain) (d' := dr) (av := [jm_I x1, jm_I x2, jm_I x3]) jd_Covering_tell_38 jk_Covering_tellPlain jw_549 rfl hdr ⟨rfl, rfl⟩ (by decide) (Nat.le_of_ble_eq_true rfl) jm_SH_30 rfl rfl (jm_hqV (fun h8 H => ?_)) H
      refine jm_goto (tgt := 59) jd_Covering_tell_41 rfl ?_
      exact jm_vreturn jd_Covering_tell_59 rfl (by decide) ⟨rfl, rfl, H⟩
  · replace H := H.2 hc3
    exact jm_vreturn jd_Covering_tell_17 rfl (by decide) ⟨rfl, rfl, H⟩
