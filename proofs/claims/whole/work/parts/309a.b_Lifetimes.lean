set_option maxRecDepth 4000 in
theorem jb_Lifetimes_until {E : jm_Env} {x1 : Int} {h : jm_H} {K : Int → jm_H → Prop} (H : (0 ≤ x1 ∧ x1 < 12) ∧ (jm_BI E jm_SH jm_m_Lifetimes_until 2 19 [some (jm_R 56), none, some (jm_I (h 40 (Int.toNat x1))), some (jm_I x1), some (jm_I (jm_w32 (x1 + 1)))] [] h K)) : jm_CI E jm_SH jm_m_Lifetimes_until 2 [jm_R 56, jm_I x1] h K := by
  refine jm_body (ls0 := [some (jm_R 56), some (jm_I x1), none, none, none]) (by decide +kernel) rfl rfl (Nat.le_of_ble_eq_true rfl) ?_
  refine jm_aload_n jd_Lifetimes_until_0 rfl rfl ?_
  refine jm_gR jd_Lifetimes_until_1 jf_Lifetimes_22 jm_SH_56 rfl ?_
  refine jm_gR jd_Lifetimes_until_4 jf_Lifetimes_26 jm_SH_37 rfl ?_
  refine jm_iconst jd_Lifetimes_until_7 (jm_o32c rfl) ?_
  refine jm_aaload jd_Lifetimes_until_8 jm_SH_38 (by decide) (by decide) rfl ?_
  refine jm_iload_n jd_Lifetimes_until_9 rfl rfl ?_
  obtain ⟨hb1, H⟩ := H
  refine jm_iaload jd_Lifetimes_until_10 jm_SH_40 hb1 ?_
  refine jm_istore_n (i := 2) jd_Lifetimes_until_11 rfl (by decide) (ls2 := [some (jm_R 56), some (jm_I x1), some (jm_I (h 40 (Int.toNat x1))), none, none]) rfl ?_
  refine jm_iload_n jd_Lifetimes_until_12 rfl rfl ?_
  refine jm_istore_n (i := 3) jd_Lifetimes_until_13 rfl (by decide) (ls2 := [some (jm_R 56), some (jm_I x1), some (jm_I (h 40 (Int.toNat x1))), some (jm_I x1), none]) rfl ?_
  refine jm_iload_n jd_Lifetimes_until_14 rfl rfl ?_
  refine jm_iconst jd_Lifetimes_until_15 (jm_o32c rfl) ?_
  refine jm_iadd jd_Lifetimes_until_16 ?_
  refine jm_istore (i := 4) jd_Lifetimes_until_17 (by decide) (ls2 := [some (jm_R 56), some (jm_I x1), some (jm_I (h 40 (Int.toNat x1))), some (jm_I x1), some (jm_I (jm_w32 (x1 + 1)))]) rfl ?_
  refine jm_keepG [true, false, true, true, true] (ls2 := [some (jm_R 56), none, some (jm_I (h 40 (Int.toNat x1))), some (jm_I x1), some (jm_I (jm_w32 (x1 + 1)))]) (by rfl) (by rfl) ?_
  exact H
set_option maxRecDepth 4000 in
theorem jb_Lifetimes_until_19 {E : jm_Env} {x2 x3 x4 : Int} {h : jm_H} {K : Int → jm_H → Prop} (H : ((h 37 3 ≤ x4) → ((jv_and (jv_shr (h 56 3) x2) 1 = 0) → K x3 h) ∧ ((¬ jv_and (jv_shr (h 56 3) x2) 1 = 0) → K (h 37 3) h)) ∧ ((¬ h 37 3 ≤ x4) → jm_CI E jm_SH jm_m_Row_uses 1 [jm_R 37, jm_I x4, jm_I x2] h (fun v3 h3 => ((v3 = 0) → jm_BI E jm_SH jm_m_Lifetimes_until 2 47 [some (jm_R 56), none, some (jm_I x2), some (jm_I x3), some (jm_I x4)] [] h3 K) ∧ ((¬ v3 = 0) → jm_BI E jm_SH jm_m_Lifetimes_until 2 47 [some (jm_R 56), none, some (jm_I x2), some (jm_I x4), some (jm_I x4)] [] h3 K)))) : jm_BI E jm_SH jm_m_Lifetimes_until 2 19 [some (jm_R 56), none, some (jm_I x2), some (jm_I x3), some (jm_I x4)] [] h K := by
  refine jm_iload jd_Lifetimes_until_19 rfl ?_
  refine jm_aload_n jd_Lifetimes_until_21 rfl rfl ?_
  refine jm_gR jd_Lifetimes_until_22 jf_Lifetimes_22 jm_SH_56 rfl ?_
  refine jm_gI jd_Lifetimes_until_25 jf_Lifetimes_30 jm_SH_37 ?_
  refine jm_icmp_ge (tgt := 71) jd_Lifetimes_until_28 rfl (fun hc1 => ?_) (fun hc1 => ?_)
  · replace H := H.1 hc1
    refine jm_aload_n jd_Lifetimes_until_71 rfl rfl ?_
    refine jm_gI jd_Lifetimes_until_72 jf_Lifetimes_18 jm_SH_56 ?_
    refine jm_iload_n jd_Lifetimes_until_75 rfl rfl ?_
    refine jm_ishr jd_Lifetimes_until_76 ?_
    refine jm_iconst jd_Lifetimes_until_77 (jm_o32c rfl) ?_
    refine jm_iand jd_Lifetimes_until_78 ?_
    refine jm_if_eq (tgt := 92) jd_Lifetimes_until_79 rfl (fun hc2 => ?_) (fun hc2 => ?_)
    · replace H := H.1 hc2
      refine jm_iload_n jd_Lifetimes_until_92 rfl rfl ?_
      exact jm_ireturn jd_Lifetimes_until_93 rfl (by decide) ⟨rfl, _, rfl, H⟩
    · replace H := H.2 hc2
      refine jm_aload_n jd_Lifetimes_until_82 rfl rfl ?_
      refine jm_gR jd_Lifetimes_until_83 jf_Lifetimes_22 jm_SH_56 rfl ?_
      refine jm_gI jd_Lifetimes_until_86 jf_Lifetimes_30 jm_SH_37 ?_
      refine jm_goto (tgt := 93) jd_Lifetimes_until_89 rfl ?_
      exact jm_ireturn jd_Lifetimes_until_93 rfl (by decide) ⟨rfl, _, rfl, H⟩
  · replace H := H.2 hc1
    refine jm_aload_n jd_Lifetimes_until_31 rfl rfl ?_
    refine jm_gR jd_Lifetimes_until_32 jf_Lifetimes_22 jm_SH_56 rfl ?_
    refine jm_iload jd_Lifetimes_until_35 rfl ?_
    refine jm_iload_n jd_Lifetimes_until_37 rfl rfl ?_
    refine jm_cV (M' := jm_m_Row_uses) (d' := 1) (av := [jm_I x4, jm_I x2]) jd_Lifetimes_until_38 jk_Row_uses jw_712 rfl (by omega) ⟨rfl, rfl⟩ (by decide) (Nat.le_of_ble_eq_true rfl) jm_SH_37 rfl rfl (jm_hqI (fun v3 h3 H => ?_)) H
    refine jm_if_eq (tgt := 47) jd_Lifetimes_until_41 rfl (fun hc4 => ?_) (fun hc4 => ?_)
    · replace H := H.1 hc4
      exact H
    · replace H := H.2 hc4
      refine jm_iload jd_Lifetimes_until_44 rfl ?_
      refine jm_istore_n (i := 3) jd_Lifetimes_until_46 rfl (by decide) (ls2 := [some (jm_R 56), none, some (jm_I x2), some (jm_I x4), some (jm_I x4)]) rfl ?_
      exact H
set_option maxRecDepth 4000 in
theorem jb_Lifetimes_until_47 {E : jm_Env} {x2 x3 x4 : Int} {h : jm_H} {K : Int → jm_H → Prop} (H : (0 ≤ x4 ∧ x4 < 12) ∧ (((¬ h 40 (Int.toNat x4) = x2) → jm_BI E jm_SH jm_m_Lifetimes_until 2 19 [some (jm_R 56), none, some (jm_I x2), some (jm_I x3), some (jm_I (jm_w32 (x4 + 1)))] [] h K) ∧ ((h 40 (Int.toNat x4) = x2) → K x3 h))) : jm_BI E jm_SH jm_m_Lifetimes_until 2 47 [some (jm_R 56), none, some (jm_I x2), some (jm_I x3), some (jm_I x4)] [] h K := by
  refine jm_aload_n jd_Lifetimes_until_47 rfl rfl ?_
  refine jm_gR jd_Lifetimes_until_48 jf_Lifetimes_22 jm_SH_56 rfl ?_
  refine jm_gR jd_Lifetimes_until_51 jf_Lifetimes_26 jm_SH_37 rfl ?_
  refine jm_iconst jd_Lifetimes_until_54 (jm_o32c rfl) ?_
  refine jm_aaload jd_Lifetimes_until_55 jm_SH_38 (by decide) (by decide) rfl ?_
  refine jm_iload jd_Lifetimes_until_56 rfl ?_
  obtain ⟨hb1, H⟩ := H
  refine jm_iaload jd_Lifetimes_until_58 jm_SH_40 hb1 ?_
  refine jm_iload_n jd_Lifetimes_until_59 rfl rfl ?_
  refine jm_icmp_ne (tgt := 65) jd_Lifetimes_until_60 rfl (fun hc2 => ?_) (fun hc2 => ?_)
  · replace H := H.1 hc2
    refine jm_iinc jd_Lifetimes_until_65 rfl (by decide) (ls2 := [some (jm_R 56), none, some (jm_I x2), some (jm_I x3), some (jm_I (jm_w32 (x4 + 1)))]) rfl ?_
    refine jm_goto (tgt := 19) jd_Lifetimes_until_68 rfl ?_
    exact H
  · replace H := H.2 hc2
    refine jm_iload_n jd_Lifetimes_until_63 rfl rfl ?_
    exact jm_ireturn jd_Lifetimes_until_64 rfl (by decide) ⟨rfl, _, rfl, H⟩
set_option maxRecDepth 4000 in
theorem jb_Lifetimes_livingBehind {E : jm_Env} {x1 : Int} {h : jm_H} {K : Int → jm_H → Prop} (H : jm_BI E jm_SH jm_m_Lifetimes_livingBehind 3 4 [some (jm_R 56), some (jm_I x1), some (jm_I 0), some (jm_I 0)] [] h K) : jm_CI E jm_SH jm_m_Lifetimes_livingBehind 3 [jm_R 56, jm_I x1] h K := by
  refine jm_body (ls0 := [some (jm_R 56), some (jm_I x1), none, none]) (by decide +kernel) rfl rfl (Nat.le_of_ble_eq_true rfl) ?_
  refine jm_iconst jd_Lifetimes_livingBehind_0 (jm_o32c rfl) ?_
  refine jm_istore_n (i := 2) jd_Lifetimes_livingBehind_1 rfl (by decide) (ls2 := [some (jm_R 56), some (jm_I x1), some (jm_I 0), none]) rfl ?_
  refine jm_iconst jd_Lifetimes_livingBehind_2 (jm_o32c rfl) ?_
  refine jm_istore_n (i := 3) jd_Lifetimes_livingBehind_3 rfl (by decide) (ls2 := [some (jm_R 56), some (jm_I x1), some (jm_I 0), some (jm_I 0)]) rfl ?_
  exact H
set_option maxRecDepth 4000 in
theorem jb_Lifetimes_livingBehind_4 {E : jm_Env} {x1 x2 x3 : Int} {h : jm_H} {K : Int → jm_H → Prop} (H : ((x1 < x3) → K x2 h) ∧ ((¬ x1 < x3) → ((h 37 3 ≤ x3) → K x2 h) ∧ ((¬ h 37 3 ≤ x3) → jm_CI E jm_SH jm_m_Lifetimes_until 2 [jm_R 56, jm_I x3] h (fun v3 h3 => ((v3 ≤ x1) → jm_BI E jm_SH jm_m_Lifetimes_livingBehind 3 4 [some (jm_R 56), some (jm_I x1), some (jm_I (jv_or x2 0)), some (jm_I (jm_w32 (x3 + 1)))] [] h3 K) ∧ ((¬ v3 ≤ x1) → jm_BI E jm_SH jm_m_Lifetimes_livingBehind 3 4 [some (jm_R 56), some (jm_I x1), some (jm_I (jv_or x2 (jv_shl 1 x3))), some (jm_I (jm_w32 (x3 + 1)))] [] h3 K))))) : jm_BI E jm_SH jm_m_Lifetimes_livingBehind 3 4 [some (jm_R 56), some (jm_I x1), some (jm_I x2), some (jm_I x3)] [] h K := by
  refine jm_iload_n jd_Lifetimes_livingBehind_4 rfl rfl ?_
  refine jm_iload_n jd_Lifetimes_livingBehind_5 rfl rfl ?_
  refine jm_icmp_gt (tgt := 45) jd_Lifetimes_livingBehind_6 rfl (fun hc1 => ?_) (fun hc1 => ?_)
  · replace H := H.1 hc1
    refine jm_iload_n jd_Lifetimes_livingBehind_45 rfl rfl ?_
    exact jm_ireturn jd_Lifetimes_livingBehind_46 rfl (by decide) ⟨rfl, _, rfl, H⟩
  · replace H := H.2 hc1
    refine jm_iload_n jd_Lifetimes_livingBehind_9 rfl rfl ?_
    refine jm_aload_n jd_Lifetimes_livingBehind_10 rfl rfl ?_
    refine jm_gR jd_Lifetimes_livingBehind_11 jf_Lifetimes_22 jm_SH_56 rfl ?_
    refine jm_gI jd_Lifetimes_livingBehind_14 jf_Lifetimes_30 jm_SH_37 ?_
    refine jm_icmp_ge (tgt := 45) jd_Lifetimes_livingBehind_17 rfl (fun hc2 => ?_) (fun hc2 => ?_)
    · replace H := H.1 hc2
      refine jm_iload_n jd_Lifetimes_livingBehind_45 rfl rfl ?_
      exact jm_ireturn jd_Lifetimes_livingBehind_46 rfl (by decide) ⟨rfl, _, rfl, H⟩
    · replace H := H.2 hc2
      refine jm_iload_n jd_Lifetimes_livingBehind_20 rfl rfl ?_
      refine jm_aload_n jd_Lifetimes_livingBehind_21 rfl rfl ?_
      refine jm_iload_n jd_Lifetimes_livingBehind_22 rfl rfl ?_
      refine jm_cV (M' := jm_m_Lifetimes_until) (d' := 2) (av := [jm_I x3]) jd_Lifetimes_livingBehind_23 jk_Lifetimes_until jw_721 rfl (by omega) ⟨rfl, rfl⟩ (by decide) (Nat.le_of_ble_eq_true rfl) jm_SH_56 rfl rfl (jm_hqI (fun v3 h3 H => ?_)) H
      refine jm_iload_n jd_Lifetimes_livingBehind_26 rfl rfl ?_
      refine jm_icmp_le (tgt := 36) jd_Lifetimes_livingBehind_27 rfl (fun hc4 => ?_) (fun hc4 => ?_)
      · replace H := H.1 hc4
        refine jm_iconst jd_Lifetimes_livingBehind_36 (jm_o32c rfl) ?_
        refine jm_ior jd_Lifetimes_livingBehind_37 ?_
        refine jm_istore_n (i := 2) jd_Lifetimes_livingBehind_38 rfl (by decide) (ls2 := [some (jm_R 56), some (jm_I x1), some (jm_I (jv_or x2 0)), some (jm_I x3)]) rfl ?_
        refine jm_iinc jd_Lifetimes_livingBehind_39 rfl (by decide) (ls2 := [some (jm_R 56), some (jm_I x1), some (jm_I (jv_or x2 0)), some (jm_I (jm_w32 (x3 + 1)))]) rfl ?_
        refine jm_goto (tgt := 4) jd_Lifetimes_livingBehind_42 rfl ?_
        exact H
      · replace H := H.2 hc4
        refine jm_iconst jd_Lifetimes_livingBehind_30 (jm_o32c rfl) ?_
        refine jm_iload_n jd_Lifetimes_livingBehind_31 rfl rfl ?_
        refine jm_ishl jd_Lifetimes_livingBehind_32 ?_
        refine jm_goto (tgt := 37) jd_Lifetimes_livingBehind_33 rfl ?_
        refine jm_ior jd_Lifetimes_livingBehind_37 ?_
        refine jm_istore_n (i := 2) jd_Lifetimes_livingBehind_38 rfl (by decide) (ls2 := [some (jm_R 56), some (jm_I x1), some (jm_I (jv_or x2 (jv_shl 1 x3))), some (jm_I x3)]) rfl ?_
        refine jm_iinc jd_Lifetimes_livingBehind_39 rfl (by decide) (ls2 := [some (jm_R 56), some (jm_I x1), some (jm_I (jv_or x2 (jv_shl 1 x3))), some (jm_I (jm_w32 (x3 + 1)))]) rfl ?_
        refine jm_goto (tgt := 4) jd_Lifetimes_livingBehind_42 rfl ?_
        exact H
set_option maxRecDepth 4000 in
theorem jb_Lifetimes_mostAtOnePlace {E : jm_Env} {h : jm_H} {K : Int → jm_H → Prop} (H : jm_BI E jm_SH jm_m_Lifetimes_mostAtOnePlace 4 4 [some (jm_R 56), some (jm_I 0), some (jm_I 0)] [] h K) : jm_CI E jm_SH jm_m_Lifetimes_mostAtOnePlace 4 [jm_R 56] h K := by
  refine jm_body (ls0 := [some (jm_R 56), none, none]) (by decide +kernel) rfl rfl (Nat.le_of_ble_eq_true rfl) ?_
  refine jm_iconst jd_Lifetimes_mostAtOnePlace_0 (jm_o32c rfl) ?_
  refine jm_istore_n (i := 1) jd_Lifetimes_mostAtOnePlace_1 rfl (by decide) (ls2 := [some (jm_R 56), some (jm_I 0), none]) rfl ?_
  refine jm_iconst jd_Lifetimes_mostAtOnePlace_2 (jm_o32c rfl) ?_
  refine jm_istore_n (i := 2) jd_Lifetimes_mostAtOnePlace_3 rfl (by decide) (ls2 := [some (jm_R 56), some (jm_I 0), some (jm_I 0)]) rfl ?_
  exact H
set_option maxRecDepth 4000 in
theorem jb_Lifetimes_mostAtOnePlace_4 {E : jm_Env} {x1 x2 : Int} {h : jm_H} {K : Int → jm_H → Prop} (H : ((h 37 3 ≤ x2) → K x1 h) ∧ ((¬ h 37 3 ≤ x2) → jm_CI E jm_SH jm_m_Lifetimes_livingBehind 3 [jm_R 56, jm_I x2] h (fun v2 h2 => jm_CI E jm_SH jm_m_Integer_bitCount 0 [jm_I v2] h2 (fun v3 h3 => jm_BI E jm_SH jm_m_Lifetimes_mostAtOnePlace 4 4 [some (jm_R 56), some (jm_I (max x1 v3)), some (jm_I (jm_w32 (x2 + 1)))] [] h3 K)))) : jm_BI E jm_SH jm_m_Lifetimes_mostAtOnePlace 4 4 [some (jm_R 56), some (jm_I x1), some (jm_I x2)] [] h K := by
  refine jm_iload_n jd_Lifetimes_mostAtOnePlace_4 rfl rfl ?_
  refine jm_aload_n jd_Lifetimes_mostAtOnePlace_5 rfl rfl ?_
  refine jm_gR jd_Lifetimes_mostAtOnePlace_6 jf_Lifetimes_22 jm_SH_56 rfl ?_
  refine jm_gI jd_Lifetimes_mostAtOnePlace_9 jf_Lifetimes_30 jm_SH_37 ?_
  refine jm_icmp_ge (tgt := 34) jd_Lifetimes_mostAtOnePlace_12 rfl (fun hc1 => ?_) (fun hc1 => ?_)
  · replace H := H.1 hc1
    refine jm_iload_n jd_Lifetimes_mostAtOnePlace_34 rfl rfl ?_
    exact jm_ireturn jd_Lifetimes_mostAtOnePlace_35 rfl (by decide) ⟨rfl, _, rfl, H⟩
  · replace H := H.2 hc1
    refine jm_iload_n jd_Lifetimes_mostAtOnePlace_15 rfl rfl ?_
    refine jm_aload_n jd_Lifetimes_mostAtOnePlace_16 rfl rfl ?_
    refine jm_iload_n jd_Lifetimes_mostAtOnePlace_17 rfl rfl ?_
    refine jm_cV (M' := jm_m_Lifetimes_livingBehind) (d' := 3) (av := [jm_I x2]) jd_Lifetimes_mostAtOnePlace_18 jk_Lifetimes_livingBehind jw_730 rfl (by omega) ⟨rfl, rfl⟩ (by decide) (Nat.le_of_ble_eq_true rfl) jm_SH_56 rfl rfl (jm_hqI (fun v2 h2 H => ?_)) H
    refine jm_cS (M' := jm_m_Integer_bitCount) (d' := 0) (av := [jm_I v2]) jd_Lifetimes_mostAtOnePlace_21 jk_Integer_bitCount jw_731 rfl (by omega) ⟨rfl, rfl⟩ (by decide) (Nat.le_of_ble_eq_true rfl) (jm_hqI (fun v3 h3 H => ?_)) H
    refine jm_max jd_Lifetimes_mostAtOnePlace_24 jw_737 jw_464 jw_13 jw_465 (by omega) (by decide) (Nat.le_of_ble_eq_true rfl) ?_
    refine jm_istore_n (i := 1) jd_Lifetimes_mostAtOnePlace_27 rfl (by decide) (ls2 := [some (jm_R 56), some (jm_I (max x1 v3)), some (jm_I x2)]) rfl ?_
    refine jm_iinc jd_Lifetimes_mostAtOnePlace_28 rfl (by decide) (ls2 := [some (jm_R 56), some (jm_I (max x1 v3)), some (jm_I (jm_w32 (x2 + 1)))]) rfl ?_
    refine jm_goto (tgt := 4) jd_Lifetimes_mostAtOnePlace_31 rfl ?_
    exact H
set_option maxRecDepth 4000 in
theorem jb_Lifetimes_firstUnused {E : jm_Env} {h : jm_H} {K : Int → jm_H → Prop} (H : jm_BI E jm_SH jm_m_Lifetimes_firstUnused 3 2 [some (jm_R 56), some (jm_I 0)] [] h K) : jm_CI E jm_SH jm_m_Lifetimes_firstUnused 3 [jm_R 56] h K := by
  refine jm_body (ls0 := [some (jm_R 56), none]) (by decide +kernel) rfl rfl (Nat.le_of_ble_eq_true rfl) ?_
  refine jm_iconst jd_Lifetimes_firstUnused_0 (jm_o32c rfl) ?_
  refine jm_istore_n (i := 1) jd_Lifetimes_firstUnused_1 rfl (by decide) (ls2 := [some (jm_R 56), some (jm_I 0)]) rfl ?_
  exact H
set_option maxRecDepth 4000 in
theorem jb_Lifetimes_firstUnused_2 {E : jm_Env} {x1 : Int} {h : jm_H} {K : Int → jm_H → Prop} (H : ((h 37 3 ≤ x1) → K (-1) h) ∧ ((¬ h 37 3 ≤ x1) → jm_CI E jm_SH jm_m_Lifetimes_until 2 [jm_R 56, jm_I x1] h (fun v2 h2 => ((¬ v2 = x1) → jm_BI E jm_SH jm_m_Lifetimes_firstUnused 3 2 [some (jm_R 56), some (jm_I (jm_w32 (x1 + 1)))] [] h2 K) ∧ ((v2 = x1) → K x1 h2)))) : jm_BI E jm_SH jm_m_Lifetimes_firstUnused 3 2 [some (jm_R 56), some (jm_I x1)] [] h K := by
  refine jm_iload_n jd_Lifetimes_firstUnused_2 rfl rfl ?_
  refine jm_aload_n jd_Lifetimes_firstUnused_3 rfl rfl ?_
  refine jm_gR jd_Lifetimes_firstUnused_4 jf_Lifetimes_22 jm_SH_56 rfl ?_
  refine jm_gI jd_Lifetimes_firstUnused_7 jf_Lifetimes_30 jm_SH_37 ?_
  refine jm_icmp_ge (tgt := 30) jd_Lifetimes_firstUnused_10 rfl (fun hc1 => ?_) (fun hc1 => ?_)
  · replace H := H.1 hc1
    refine jm_iconst jd_Lifetimes_firstUnused_30 (jm_o32c rfl) ?_
    exact jm_ireturn jd_Lifetimes_firstUnused_31 rfl (by decide) ⟨rfl, _, rfl, H⟩
  · replace H := H.2 hc1
    refine jm_aload_n jd_Lifetimes_firstUnused_13 rfl rfl ?_
    refine jm_iload_n jd_Lifetimes_firstUnused_14 rfl rfl ?_
    refine jm_cV (M' := jm_m_Lifetimes_until) (d' := 2) (av := [jm_I x1]) jd_Lifetimes_firstUnused_15 jk_Lifetimes_until jw_721 rfl (by omega) ⟨rfl, rfl⟩ (by decide) (Nat.le_of_ble_eq_true rfl) jm_SH_56 rfl rfl (jm_hqI (fun v2 h2 H => ?_)) H
    refine jm_iload_n jd_Lifetimes_firstUnused_18 rfl rfl ?_
    refine jm_icmp_ne (tgt := 24) jd_Lifetimes_firstUnused_19 rfl (fun hc3 => ?_) (fun hc3 => ?_)
    · replace H := H.1 hc3
      refine jm_iinc jd_Lifetimes_firstUnused_24 rfl (by decide) (ls2 := [some (jm_R 56), some (jm_I (jm_w32 (x1 + 1)))]) rfl ?_
      refine jm_goto (tgt := 2) jd_Lifetimes_firstUnused_27 rfl ?_
      exact H
    · replace H := H.2 hc3
      refine jm_iload_n jd_Lifetimes_firstUnused_22 rfl rfl ?_
      exact jm_ireturn jd_Lifetimes_firstUnused_23 rfl (by decide) ⟨rfl, _, rfl, H⟩
set_option maxRecDepth 4000 in
theorem jb_Lifetimes_spillTo {E : jm_Env} {x1 : Int} {h : jm_H} {K : jm_H → Prop} (H : jm_BV E jm_SH jm_m_Lifetimes_spillTo 18 2 [some (jm_R 56), some (jm_I x1), some (jm_I 0)] [] h K) : jm_CV E jm_SH jm_m_Lifetimes_spillTo 18 [jm_R 56, jm_I x1] h K := by
  refine jm_body (ls0 := [some (jm_R 56), some (jm_I x1), none]) (by decide +kernel) rfl rfl (Nat.le_of_ble_eq_true rfl) ?_
  refine jm_iconst jd_Lifetimes_spillTo_0 (jm_o32c rfl) ?_
  refine jm_istore_n (i := 2) jd_Lifetimes_spillTo_1 rfl (by decide) (ls2 := [some (jm_R 56), some (jm_I x1), some (jm_I 0)]) rfl ?_
  exact H
set_option maxRecDepth 4000 in
theorem jb_Lifetimes_spillTo_2 {E : jm_Env} {x1 x2 : Int} {h : jm_H} {K : jm_H → Prop} (H : ((h 37 3 ≤ x2) → jm_CV E jm_SH jm_m_Lifetimes_choose 17 [jm_R 56, jm_I (jm_w32 ((h 37 3) - 1)), jm_I x1, jm_I 0, jm_I 0] (jm_up (jm_up h 56 4 0) 56 5 1000000) (fun h2 => K h2)) ∧ ((¬ h 37 3 ≤ x2) → jm_CI E jm_SH jm_m_Lifetimes_until 2 [jm_R 56, jm_I x2] h (fun v3 h3 => (0 ≤ x2 ∧ x2 < 12) ∧ ((0 ≤ x2 ∧ x2 < 12) ∧ (jm_BV E jm_SH jm_m_Lifetimes_spillTo 18 2 [some (jm_R 56), some (jm_I x1), some (jm_I (jm_w32 (x2 + 1)))] [] (jm_up (jm_up h3 57 (Int.toNat x2) v3) 58 (Int.toNat x2) 0) K))))) : jm_BV E jm_SH jm_m_Lifetimes_spillTo 18 2 [some (jm_R 56), some (jm_I x1), some (jm_I x2)] [] h K := by
  refine jm_iload_n jd_Lifetimes_spillTo_2 rfl rfl ?_
  refine jm_aload_n jd_Lifetimes_spillTo_3 rfl rfl ?_
  refine jm_gR jd_Lifetimes_spillTo_4 jf_Lifetimes_22 jm_SH_56 rfl ?_
  refine jm_gI jd_Lifetimes_spillTo_7 jf_Lifetimes_30 jm_SH_37 ?_
  refine jm_icmp_ge (tgt := 37) jd_Lifetimes_spillTo_10 rfl (fun hc1 => ?_) (fun hc1 => ?_)
  · replace H := H.1 hc1
    refine jm_aload_n jd_Lifetimes_spillTo_37 rfl rfl ?_
    refine jm_iconst jd_Lifetimes_spillTo_38 (jm_o32c rfl) ?_
    refine jm_sI jd_Lifetimes_spillTo_39 jp_Lifetimes_54 jm_SH_56 ?_
    refine jm_aload_n jd_Lifetimes_spillTo_42 rfl rfl ?_
    refine jm_ldc (x := 1000000) jd_Lifetimes_spillTo_43 jc_746 (jm_o32c rfl) ?_
    refine jm_sI jd_Lifetimes_spillTo_45 jp_Lifetimes_58 jm_SH_56 ?_
    refine jm_aload_n jd_Lifetimes_spillTo_48 rfl rfl ?_
    refine jm_aload_n jd_Lifetimes_spillTo_49 rfl rfl ?_
    refine jm_gR jd_Lifetimes_spillTo_50 jf_Lifetimes_22 jm_SH_56 rfl ?_
    refine jm_gI jd_Lifetimes_spillTo_53 jf_Lifetimes_30 jm_SH_37 ?_
    refine jm_topI (y := h 37 3) rfl ?_
    refine jm_iconst jd_Lifetimes_spillTo_56 (jm_o32c rfl) ?_
    refine jm_isub jd_Lifetimes_spillTo_57 ?_
    refine jm_iload_n jd_Lifetimes_spillTo_58 rfl rfl ?_
    refine jm_iconst jd_Lifetimes_spillTo_59 (jm_o32c rfl) ?_
    refine jm_iconst jd_Lifetimes_spillTo_60 (jm_o32c rfl) ?_
    refine jm_cV (M' := jm_m_Lifetimes_choose) (d' := 17) (av := [jm_I (jm_w32 ((h 37 3) - 1)), jm_I x1, jm_I 0, jm_I 0]) jd_Lifetimes_spillTo_61 jk_Lifetimes_choose jw_747 rfl (by omega) ⟨rfl, rfl⟩ (by decide) (Nat.le_of_ble_eq_true rfl) jm_SH_56 rfl rfl (jm_hqV (fun h2 H => ?_)) H
    exact jm_vreturn jd_Lifetimes_spillTo_64 rfl (by decide) ⟨rfl, rfl, H⟩
  · replace H := H.2 hc1
    refine jm_aload_n jd_Lifetimes_spillTo_13 rfl rfl ?_
    refine jm_gR jd_Lifetimes_spillTo_14 jf_Lifetimes_9 jm_SH_56 rfl ?_
    refine jm_iload_n jd_Lifetimes_spillTo_17 rfl rfl ?_
    refine jm_aload_n jd_Lifetimes_spillTo_18 rfl rfl ?_
    refine jm_iload_n jd_Lifetimes_spillTo_19 rfl rfl ?_
    refine jm_cV (M' := jm_m_Lifetimes_until) (d' := 2) (av := [jm_I x2]) jd_Lifetimes_spillTo_20 jk_Lifetimes_until jw_721 rfl (by omega) ⟨rfl, rfl⟩ (by decide) (Nat.le_of_ble_eq_true rfl) jm_SH_56 rfl rfl (jm_hqI (fun v3 h3 H => ?_)) H
    obtain ⟨hb4, H⟩ := H
    refine jm_iastore jd_Lifetimes_spillTo_23 jm_SH_57 hb4 ?_
    refine jm_aload_n jd_Lifetimes_spillTo_24 rfl rfl ?_
    refine jm_gR jd_Lifetimes_spillTo_25 jf_Lifetimes_15 jm_SH_56 rfl ?_
    refine jm_iload_n jd_Lifetimes_spillTo_28 rfl rfl ?_
    refine jm_iconst jd_Lifetimes_spillTo_29 (jm_o32c rfl) ?_
    obtain ⟨hb5, H⟩ := H
    refine jm_iastore jd_Lifetimes_spillTo_30 jm_SH_58 hb5 ?_
    refine jm_iinc jd_Lifetimes_spillTo_31 rfl (by decide) (ls2 := [some (jm_R 56), some (jm_I x1), some (jm_I (jm_w32 (x2 + 1)))]) rfl ?_
    refine jm_goto (tgt := 2) jd_Lifetimes_spillTo_34 rfl ?_
    exact H
set_option maxRecDepth 4000 in
theorem jb_Lifetimes_choose {E : jm_Env} {d : Nat} {dr : Nat} (hdr : dr + 1 ≤ d) (hdc : 1 ≤ d) {x1 x2 x3 x4 : Int} {h : jm_H} {K : jm_H → Prop} (H : ((x4 < h 56 5) → ((0 ≤ x1) → jm_CI E jm_SH jm_m_Lifetimes_hasRoom 0 [jm_R 56, jm_I x1, jm_I x2] h (fun v3 h3 => ((v3 = 0) → jm_BV E jm_SH jm_m_Lifetimes_choose d 58 [some (jm_R 56), some (jm_I x1), some (jm_I x2), some (jm_I x3), some (jm_I x4)] [] h3 K) ∧ ((¬ v3 = 0) → jm_CV E jm_SH jm_m_Lifetimes_count 0 [jm_R 56, jm_I x1, jm_I 1] h3 (fun h5 => jm_CV E jm_SH jm_m_Lifetimes_choose dr [jm_R 56, jm_I (jm_w32 (x1 - 1)), jm_I x2, jm_I x3, jm_I x4] h5 (fun h6 => jm_CV E jm_SH jm_m_Lifetimes_count 0 [jm_R 56, jm_I x1, jm_I (-1)] h6 (fun h7 => jm_BV E jm_SH jm_m_Lifetimes_choose d 58 [some (jm_R 56), some (jm_I x1), some (jm_I x2), some (jm_I x3), some (jm_I x4)] [] h7 K)))))) ∧ ((¬ 0 ≤ x1) → K (jm_up (jm_up h 56 4 x3) 56 5 x4))) ∧ ((¬ x4 < h 56 5) → K h)) : jm_CV E jm_SH jm_m_Lifetimes_choose d [jm_R 56, jm_I x1, jm_I x2, jm_I x3, jm_I x4] h K := by
  refine jm_body (ls0 := [some (jm_R 56), some (jm_I x1), some (jm_I x2), some (jm_I x3), some (jm_I x4)]) (by decide +kernel) rfl rfl (Nat.le_of_ble_eq_true rfl) ?_
  refine jm_iload jd_Lifetimes_choose_0 rfl ?_
  refine jm_aload_n jd_Lifetimes_choose_2 rfl rfl ?_
  refine jm_gI jd_Lifetimes_choose_3 jf_Lifetimes_58 jm_SH_56 ?_
  refine jm_icmp_lt (tgt := 10) jd_Lifetimes_choose_6 rfl (fun hc1 => ?_) (fun hc1 => ?_)
  · replace H := H.1 hc1
    refine jm_iload_n jd_Lifetimes_choose_10 rfl rfl ?_
    refine jm_if_ge (tgt := 26) jd_Lifetimes_choose_11 rfl (fun hc2 => ?_) (fun hc2 => ?_)
    · replace H := H.1 hc2
      refine jm_aload_n jd_Lifetimes_choose_26 rfl rfl ?_
      refine jm_iload_n jd_Lifetimes_choose_27 rfl rfl ?_
      refine jm_iload_n jd_Lifetimes_choose_28 rfl rfl ?_
      refine jm_cV (M' := jm_m_Lifetimes_hasRoom) (d' := 0) (av := [jm_I x1, jm_I x2]) jd_Lifetimes_choose_29 jk_Lifetimes_hasRoom jw_751 rfl (by omega) ⟨rfl, rfl⟩ (by decide) (Nat.le_of_ble_eq_true rfl) jm_SH_56 rfl rfl (jm_hqI (fun v3 h3 H => ?_)) H
      refine jm_if_eq (tgt := 58) jd_Lifetimes_choose_32 rfl (fun hc4 => ?_) (fun hc4 => ?_)
      · replace H := H.1 hc4
        exact H
      · replace H := H.2 hc4
        refine jm_aload_n jd_Lifetimes_choose_35 rfl rfl ?_
        refine jm_iload_n jd_Lifetimes_choose_36 rfl rfl ?_
        refine jm_iconst jd_Lifetimes_choose_37 (jm_o32c rfl) ?_
        refine jm_cV (M' := jm_m_Lifetimes_count) (d' := 0) (av := [jm_I x1, jm_I 1]) jd_Lifetimes_choose_38 jk_Lifetimes_count jw_755 rfl (by omega) ⟨rfl, rfl⟩ (by decide) (Nat.le_of_ble_eq_true rfl) jm_SH_56 rfl rfl (jm_hqV (fun h5 H => ?_)) H
        refine jm_aload_n jd_Lifetimes_choose_41 rfl rfl ?_
        refine jm_iload_n jd_Lifetimes_choose_42 rfl rfl ?_
        refine jm_iconst jd_Lifetimes_choose_43 (jm_o32c rfl) ?_
        refine jm_isub jd_Lifetimes_choose_44 ?_
        refine jm_iload_n jd_Lifetimes_choose_45 rfl rfl ?_
        refine jm_iload_n jd_Lifetimes_choose_46 rfl rfl ?_
        refine jm_iload jd_Lifetimes_choose_47 rfl ?_
        refine jm_cV (M' := jm_m_Lifetimes_choose) (d' := dr) (av := [jm_I (jm_w32 (x1 - 1)), jm_I x2, jm_I x3, jm_I x4]) jd_Lifetimes_choose_49 jk_Lifetimes_choose jw_747 rfl hdr ⟨rfl, rfl⟩ (by decide) (Nat.le_of_ble_eq_true rfl) jm_SH_56 rfl rfl (jm_hqV (fun h6 H => ?_)) H
        refine jm_aload_n jd_Lifetimes_choose_52 rfl rfl ?_
        refine jm_iload_n jd_Lifetimes_choose_53 rfl rfl ?_
        refine jm_iconst jd_Lifetimes_choose_54 (jm_o32c rfl) ?_
        refine jm_cV (M' := jm_m_Lifetimes_count) (d' := 0) (av := [jm_I x1, jm_I (-1)]) jd_Lifetimes_choose_55 jk_Lifetimes_count jw_755 rfl (by omega) ⟨rfl, rfl⟩ (by decide) (Nat.le_of_ble_eq_true rfl) jm_SH_56 rfl rfl (jm_hqV (fun h7 H => ?_)) H
        exact H
    · replace H := H.2 hc2
      refine jm_aload_n jd_Lifetimes_choose_14 rfl rfl ?_
      refine jm_iload_n jd_Lifetimes_choose_15 rfl rfl ?_
      refine jm_sI jd_Lifetimes_choose_16 jp_Lifetimes_54 jm_SH_56 ?_
      refine jm_aload_n jd_Lifetimes_choose_19 rfl rfl ?_
      refine jm_iload jd_Lifetimes_choose_20 rfl ?_
      refine jm_sI jd_Lifetimes_choose_22 jp_Lifetimes_58 jm_SH_56 ?_
      exact jm_vreturn jd_Lifetimes_choose_25 rfl (by decide) ⟨rfl, rfl, H⟩
  · replace H := H.2 hc1
    exact jm_vreturn jd_Lifetimes_choose_9 rfl (by decide) ⟨rfl, rfl, H⟩
set_option maxRecDepth 4000 in
theorem jb_Lifetimes_choose_58 {E : jm_Env} {d : Nat} {dr : Nat} (hdr : dr + 1 ≤ d) (hdc : 1 ≤ d) {x1 x2 x3 x4 : Int} {h : jm_H} {K : jm_H → Prop} (H : (0 ≤ x1 ∧ x1 < 12) ∧ (((h 57 (Int.toNat x1) ≤ x1) → K h) ∧ ((¬ h 57 (Int.toNat x1) ≤ x1) → (0 ≤ x1 ∧ x1 < 12) ∧ (jm_CV E jm_SH jm_m_Lifetimes_choose dr [jm_R 56, jm_I (jm_w32 (x1 - 1)), jm_I x2, jm_I (jv_or x3 (jv_shl 1 x1)), jm_I (jm_w32 (x4 + (h 44 (Int.toNat x1))))] h (fun h4 => K h4))))) : jm_BV E jm_SH jm_m_Lifetimes_choose d 58 [some (jm_R 56), some (jm_I x1), some (jm_I x2), some (jm_I x3), some (jm_I x4)] [] h K := by
  refine jm_aload_n jd_Lifetimes_choose_58 rfl rfl ?_
  refine jm_gR jd_Lifetimes_choose_59 jf_Lifetimes_9 jm_SH_56 rfl ?_
  refine jm_iload_n jd_Lifetimes_choose_62 rfl rfl ?_
  obtain ⟨hb1, H⟩ := H
  refine jm_iaload jd_Lifetimes_choose_63 jm_SH_57 hb1 ?_
  refine jm_iload_n jd_Lifetimes_choose_64 rfl rfl ?_
  refine jm_icmp_le (tgt := 95) jd_Lifetimes_choose_65 rfl (fun hc2 => ?_) (fun hc2 => ?_)
  · replace H := H.1 hc2
    exact jm_vreturn jd_Lifetimes_choose_95 rfl (by decide) ⟨rfl, rfl, H⟩
  · replace H := H.2 hc2
    refine jm_aload_n jd_Lifetimes_choose_68 rfl rfl ?_
    refine jm_iload_n jd_Lifetimes_choose_69 rfl rfl ?_
    refine jm_iconst jd_Lifetimes_choose_70 (jm_o32c rfl) ?_
    refine jm_isub jd_Lifetimes_choose_71 ?_
    refine jm_iload_n jd_Lifetimes_choose_72 rfl rfl ?_
    refine jm_iload_n jd_Lifetimes_choose_73 rfl rfl ?_
    refine jm_iconst jd_Lifetimes_choose_74 (jm_o32c rfl) ?_
    refine jm_iload_n jd_Lifetimes_choose_75 rfl rfl ?_
    refine jm_ishl jd_Lifetimes_choose_76 ?_
    refine jm_ior jd_Lifetimes_choose_77 ?_
    refine jm_iload jd_Lifetimes_choose_78 rfl ?_
    refine jm_aload_n jd_Lifetimes_choose_80 rfl rfl ?_
    refine jm_gR jd_Lifetimes_choose_81 jf_Lifetimes_22 jm_SH_56 rfl ?_
    refine jm_gR jd_Lifetimes_choose_84 jf_Lifetimes_26 jm_SH_37 rfl ?_
    refine jm_iconst jd_Lifetimes_choose_87 (jm_o32c rfl) ?_
    refine jm_aaload jd_Lifetimes_choose_88 jm_SH_38 (by decide) (by decide) rfl ?_
    refine jm_iload_n jd_Lifetimes_choose_89 rfl rfl ?_
    obtain ⟨hb3, H⟩ := H
    refine jm_iaload jd_Lifetimes_choose_90 jm_SH_44 hb3 ?_
    refine jm_iadd jd_Lifetimes_choose_91 ?_
    refine jm_cV (M' := jm_m_Lifetimes_choose) (d' := dr) (av := [jm_I (jm_w32 (x1 - 1)), jm_I x2, jm_I (jv_or x3 (jv_shl 1 x1)), jm_I (jm_w32 (x4 + (h 44 (Int.toNat x1))))]) jd_Lifetimes_choose_92 jk_Lifetimes_choose jw_747 rfl hdr ⟨rfl, rfl⟩ (by decide) (Nat.le_of_ble_eq_true rfl) jm_SH_56 rfl rfl (jm_hqV (fun h4 H => ?_)) H
    exact jm_vreturn jd_Lifetimes_choose_95 rfl (by decide) ⟨rfl, rfl, H⟩
set_option maxRecDepth 4000 in
theorem jb_Lifetimes_hasRoom {E : jm_Env} {x1 x2 : Int} {h : jm_H} {K : Int → jm_H → Prop} (H : jm_BI E jm_SH jm_m_Lifetimes_hasRoom 0 2 [some (jm_R 56), some (jm_I x1), some (jm_I x2), some (jm_I x1)] [] h K) : jm_CI E jm_SH jm_m_Lifetimes_hasRoom 0 [jm_R 56, jm_I x1, jm_I x2] h K := by
  refine jm_body (ls0 := [some (jm_R 56), some (jm_I x1), some (jm_I x2), none]) (by decide +kernel) rfl rfl (Nat.le_of_ble_eq_true rfl) ?_
  refine jm_iload_n jd_Lifetimes_hasRoom_0 rfl rfl ?_
  refine jm_istore_n (i := 3) jd_Lifetimes_hasRoom_1 rfl (by decide) (ls2 := [some (jm_R 56), some (jm_I x1), some (jm_I x2), some (jm_I x1)]) rfl ?_
  exact H
set_option maxRecDepth 4000 in
theorem jb_Lifetimes_hasRoom_2 {E : jm_Env} {x1 x2 x3 : Int} {h : jm_H} {K : Int → jm_H → Prop} (H : (0 ≤ x1 ∧ x1 < 12) ∧ (((h 57 (Int.toNat x1) ≤ x3) → K 1 h) ∧ ((¬ h 57 (Int.toNat x1) ≤ x3) → (0 ≤ x3 ∧ x3 < 12) ∧ (((h 58 (Int.toNat x3) < x2) → jm_BI E jm_SH jm_m_Lifetimes_hasRoom 0 2 [some (jm_R 56), some (jm_I x1), some (jm_I x2), some (jm_I (jm_w32 (x3 + 1)))] [] h K) ∧ ((¬ h 58 (Int.toNat x3) < x2) → K 0 h))))) : jm_BI E jm_SH jm_m_Lifetimes_hasRoom 0 2 [some (jm_R 56), some (jm_I x1), some (jm_I x2), some (jm_I x3)] [] h K := by
  refine jm_iload_n jd_Lifetimes_hasRoom_2 rfl rfl ?_
  refine jm_aload_n jd_Lifetimes_hasRoom_3 rfl rfl ?_
  refine jm_gR jd_Lifetimes_hasRoom_4 jf_Lifetimes_9 jm_SH_56 rfl ?_
  refine jm_iload_n jd_Lifetimes_hasRoom_7 rfl rfl ?_
  obtain ⟨hb1, H⟩ := H
  refine jm_iaload jd_Lifetimes_hasRoom_8 jm_SH_57 hb1 ?_
  refine jm_icmp_ge (tgt := 30) jd_Lifetimes_hasRoom_9 rfl (fun hc2 => ?_) (fun hc2 => ?_)
  · replace H := H.1 hc2
    refine jm_iconst jd_Lifetimes_hasRoom_30 (jm_o32c rfl) ?_
    exact jm_zreturn jd_Lifetimes_hasRoom_31 rfl (Or.inr rfl) (by decide) ⟨rfl, _, rfl, H⟩
  · replace H := H.2 hc2
    refine jm_aload_n jd_Lifetimes_hasRoom_12 rfl rfl ?_
    refine jm_gR jd_Lifetimes_hasRoom_13 jf_Lifetimes_15 jm_SH_56 rfl ?_
    refine jm_iload_n jd_Lifetimes_hasRoom_16 rfl rfl ?_
    obtain ⟨hb3, H⟩ := H
    refine jm_iaload jd_Lifetimes_hasRoom_17 jm_SH_58 hb3 ?_
    refine jm_iload_n jd_Lifetimes_hasRoom_18 rfl rfl ?_
    refine jm_icmp_lt (tgt := 24) jd_Lifetimes_hasRoom_19 rfl (fun hc4 => ?_) (fun hc4 => ?_)
    · replace H := H.1 hc4
      refine jm_iinc jd_Lifetimes_hasRoom_24 rfl (by decide) (ls2 := [some (jm_R 56), some (jm_I x1), some (jm_I x2), some (jm_I (jm_w32 (x3 + 1)))]) rfl ?_
      refine jm_goto (tgt := 2) jd_Lifetimes_hasRoom_27 rfl ?_
      exact H
    · replace H := H.2 hc4
      refine jm_iconst jd_Lifetimes_hasRoom_22 (jm_o32c rfl) ?_
      exact jm_zreturn jd_Lifetimes_hasRoom_23 rfl (Or.inl rfl) (by decide) ⟨rfl, _, rfl, H⟩
set_option maxRecDepth 4000 in
theorem jb_Lifetimes_count {E : jm_Env} {x1 x2 : Int} {h : jm_H} {K : jm_H → Prop} (H : jm_BV E jm_SH jm_m_Lifetimes_count 0 2 [some (jm_R 56), some (jm_I x1), some (jm_I x2), some (jm_I x1)] [] h K) : jm_CV E jm_SH jm_m_Lifetimes_count 0 [jm_R 56, jm_I x1, jm_I x2] h K := by
  refine jm_body (ls0 := [some (jm_R 56), some (jm_I x1), some (jm_I x2), none]) (by decide +kernel) rfl rfl (Nat.le_of_ble_eq_true rfl) ?_
  refine jm_iload_n jd_Lifetimes_count_0 rfl rfl ?_
  refine jm_istore_n (i := 3) jd_Lifetimes_count_1 rfl (by decide) (ls2 := [some (jm_R 56), some (jm_I x1), some (jm_I x2), some (jm_I x1)]) rfl ?_
  exact H
set_option maxRecDepth 4000 in
theorem jb_Lifetimes_count_2 {E : jm_Env} {x1 x2 x3 : Int} {h : jm_H} {K : jm_H → Prop} (H : (0 ≤ x1 ∧ x1 < 12) ∧ (((h 57 (Int.toNat x1) ≤ x3) → K h) ∧ ((¬ h 57 (Int.toNat x1) ≤ x3) → (0 ≤ x3 ∧ x3 < 12) ∧ ((0 ≤ x3 ∧ x3 < 12) ∧ (jm_BV E jm_SH jm_m_Lifetimes_count 0 2 [some (jm_R 56), some (jm_I x1), some (jm_I x2), some (jm_I (jm_w32 (x3 + 1)))] [] (jm_up h 58 (Int.toNat x3) (jm_w32 ((h 58 (Int.toNat x3)) + x2))) K))))) : jm_BV E jm_SH jm_m_Lifetimes_count 0 2 [some (jm_R 56), some (jm_I x1), some (jm_I x2), some (jm_I x3)] [] h K := by
  refine jm_iload_n jd_Lifetimes_count_2 rfl rfl ?_
  refine jm_aload_n jd_Lifetimes_count_3 rfl rfl ?_
  refine jm_gR jd_Lifetimes_count_4 jf_Lifetimes_9 jm_SH_56 rfl ?_
  refine jm_iload_n jd_Lifetimes_count_7 rfl rfl ?_
  obtain ⟨hb1, H⟩ := H
  refine jm_iaload jd_Lifetimes_count_8 jm_SH_57 hb1 ?_
  refine jm_icmp_ge (tgt := 28) jd_Lifetimes_count_9 rfl (fun hc2 => ?_) (fun hc2 => ?_)
  · replace H := H.1 hc2
    exact jm_vreturn jd_Lifetimes_count_28 rfl (by decide) ⟨rfl, rfl, H⟩
  · replace H := H.2 hc2
    refine jm_aload_n jd_Lifetimes_count_12 rfl rfl ?_
    refine jm_gR jd_Lifetimes_count_13 jf_Lifetimes_15 jm_SH_56 rfl ?_
    refine jm_iload_n jd_Lifetimes_count_16 rfl rfl ?_
    refine jm_dup2 jd_Lifetimes_count_17 rfl rfl ?_
    obtain ⟨hb3, H⟩ := H
    refine jm_iaload jd_Lifetimes_count_18 jm_SH_58 hb3 ?_
    refine jm_iload_n jd_Lifetimes_count_19 rfl rfl ?_
    refine jm_iadd jd_Lifetimes_count_20 ?_
    obtain ⟨hb4, H⟩ := H
    refine jm_iastore jd_Lifetimes_count_21 jm_SH_58 hb4 ?_
    refine jm_iinc jd_Lifetimes_count_22 rfl (by decide) (ls2 := [some (jm_R 56), some (jm_I x1), some (jm_I x2), some (jm_I (jm_w32 (x3 + 1)))]) rfl ?_
    refine jm_goto (tgt := 2) jd_Lifetimes_count_25 rfl ?_
    exact H
