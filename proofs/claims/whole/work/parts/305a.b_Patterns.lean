set_option maxRecDepth 4000 in
theorem jb_Patterns_allows {E : jm_Env} {x2 : Int} {h : jm_H} {K : Int → jm_H → Prop} (H : ((12 < h 1 2) → K 0 h) ∧ ((¬ 12 < h 1 2) → jm_CI E jm_SH jm_m_Pad_faultAsPattern 3 [jm_R 1] h (fun v2 h2 => ((v2 = -6) → ((¬ h2 1 2 = 1) → K 1 h2) ∧ ((h2 1 2 = 1) → jm_CI E jm_SH jm_m_Patterns_headOf 0 [jm_I (h2 2 0)] h2 (fun v5 h5 => ((v5 = x2) → K 0 h5) ∧ ((¬ v5 = x2) → K 1 h5)))) ∧ ((¬ v2 = -6) → K 0 h2)))) : jm_CI E jm_SH jm_m_Patterns_allows 4 [jm_R 9, jm_R 1, jm_I x2] h K := by
  refine jm_body (ls0 := [some (jm_R 9), some (jm_R 1), some (jm_I x2)]) (by decide +kernel) rfl rfl (Nat.le_of_ble_eq_true rfl) ?_
  refine jm_aload_n jd_Patterns_allows_0 rfl rfl ?_
  refine jm_gI jd_Patterns_allows_1 jf_Patterns_26 jm_SH_1 ?_
  refine jm_bipush jd_Patterns_allows_4 jb_12 ?_
  refine jm_icmp_gt (tgt := 18) jd_Patterns_allows_6 rfl (fun hc1 => ?_) (fun hc1 => ?_)
  · replace H := H.1 hc1
    refine jm_iconst jd_Patterns_allows_18 (jm_o32c rfl) ?_
    exact jm_zreturn jd_Patterns_allows_19 rfl (Or.inl rfl) (by decide) ⟨rfl, _, rfl, H⟩
  · replace H := H.2 hc1
    refine jm_aload_n jd_Patterns_allows_9 rfl rfl ?_
    refine jm_cV (M' := jm_m_Pad_faultAsPattern) (d' := 3) (av := []) jd_Patterns_allows_10 jk_Pad_faultAsPattern jw_489 rfl (by omega) ⟨rfl, rfl⟩ (by decide) (Nat.le_of_ble_eq_true rfl) jm_SH_1 rfl rfl (jm_hqI (fun v2 h2 H => ?_)) H
    refine jm_bipush jd_Patterns_allows_13 jb_m6 ?_
    refine jm_icmp_eq (tgt := 20) jd_Patterns_allows_15 rfl (fun hc3 => ?_) (fun hc3 => ?_)
    · replace H := H.1 hc3
      refine jm_aload_n jd_Patterns_allows_20 rfl rfl ?_
      refine jm_gI jd_Patterns_allows_21 jf_Patterns_26 jm_SH_1 ?_
      refine jm_iconst jd_Patterns_allows_24 (jm_o32c rfl) ?_
      refine jm_icmp_ne (tgt := 41) jd_Patterns_allows_25 rfl (fun hc4 => ?_) (fun hc4 => ?_)
      · replace H := H.1 hc4
        refine jm_iconst jd_Patterns_allows_41 (jm_o32c rfl) ?_
        refine jm_goto (tgt := 46) jd_Patterns_allows_42 rfl ?_
        exact jm_zreturn jd_Patterns_allows_46 rfl (Or.inr rfl) (by decide) ⟨rfl, _, rfl, H⟩
      · replace H := H.2 hc4
        refine jm_aload_n jd_Patterns_allows_28 rfl rfl ?_
        refine jm_gR jd_Patterns_allows_29 jf_Patterns_36 jm_SH_1 rfl ?_
        refine jm_iconst jd_Patterns_allows_32 (jm_o32c rfl) ?_
        refine jm_iaload jd_Patterns_allows_33 jm_SH_2 (by decide) ?_
        refine jm_topI (y := h2 2 0) rfl ?_
        refine jm_cS (M' := jm_m_Patterns_headOf) (d' := 0) (av := [jm_I (h2 2 0)]) jd_Patterns_allows_34 jk_Patterns_headOf jw_493 rfl (by omega) ⟨rfl, rfl⟩ (by decide) (Nat.le_of_ble_eq_true rfl) (jm_hqI (fun v5 h5 H => ?_)) H
        refine jm_iload_n jd_Patterns_allows_37 rfl rfl ?_
        refine jm_icmp_eq (tgt := 45) jd_Patterns_allows_38 rfl (fun hc6 => ?_) (fun hc6 => ?_)
        · replace H := H.1 hc6
          refine jm_iconst jd_Patterns_allows_45 (jm_o32c rfl) ?_
          exact jm_zreturn jd_Patterns_allows_46 rfl (Or.inl rfl) (by decide) ⟨rfl, _, rfl, H⟩
        · replace H := H.2 hc6
          refine jm_iconst jd_Patterns_allows_41 (jm_o32c rfl) ?_
          refine jm_goto (tgt := 46) jd_Patterns_allows_42 rfl ?_
          exact jm_zreturn jd_Patterns_allows_46 rfl (Or.inr rfl) (by decide) ⟨rfl, _, rfl, H⟩
    · replace H := H.2 hc3
      refine jm_iconst jd_Patterns_allows_18 (jm_o32c rfl) ?_
      exact jm_zreturn jd_Patterns_allows_19 rfl (Or.inl rfl) (by decide) ⟨rfl, _, rfl, H⟩
set_option maxRecDepth 4000 in
theorem jb_Patterns_take {E : jm_Env} {x2 x3 : Int} {h : jm_H} {K : jm_H → Prop} (H : ((h 9 4 < 16) → (0 ≤ h 9 4 ∧ h 9 4 < 16) ∧ ((0 ≤ h 9 4 ∧ h 9 4 < 16) ∧ ((0 ≤ h 9 4 ∧ h 9 4 < 16) ∧ (jm_BV E jm_SH jm_m_Patterns_take 1 51 [some (jm_R 9), some (jm_R 1), none, none, some (jm_I 0)] [] (jm_up (jm_up (jm_up h 10 (Int.toNat (h 9 4)) x2) 11 (Int.toNat (h 9 4)) x3) 12 (Int.toNat (h 9 4)) (min (h 1 2) 12)) K)))) ∧ ((¬ h 9 4 < 16) → K h)) : jm_CV E jm_SH jm_m_Patterns_take 1 [jm_R 9, jm_R 1, jm_I x2, jm_I x3] h K := by
  refine jm_body (ls0 := [some (jm_R 9), some (jm_R 1), some (jm_I x2), some (jm_I x3), none]) (by decide +kernel) rfl rfl (Nat.le_of_ble_eq_true rfl) ?_
  refine jm_aload_n jd_Patterns_take_0 rfl rfl ?_
  refine jm_gI jd_Patterns_take_1 jf_Patterns_43 jm_SH_9 ?_
  refine jm_bipush jd_Patterns_take_4 jb_16 ?_
  refine jm_icmp_lt (tgt := 10) jd_Patterns_take_6 rfl (fun hc1 => ?_) (fun hc1 => ?_)
  · replace H := H.1 hc1
    refine jm_aload_n jd_Patterns_take_10 rfl rfl ?_
    refine jm_gR jd_Patterns_take_11 jf_Patterns_11 jm_SH_9 rfl ?_
    refine jm_aload_n jd_Patterns_take_14 rfl rfl ?_
    refine jm_gI jd_Patterns_take_15 jf_Patterns_43 jm_SH_9 ?_
    refine jm_iload_n jd_Patterns_take_18 rfl rfl ?_
    obtain ⟨hb2, H⟩ := H
    refine jm_iastore jd_Patterns_take_19 jm_SH_10 hb2 ?_
    refine jm_aload_n jd_Patterns_take_20 rfl rfl ?_
    refine jm_gR jd_Patterns_take_21 jf_Patterns_15 jm_SH_9 rfl ?_
    refine jm_aload_n jd_Patterns_take_24 rfl rfl ?_
    refine jm_gI jd_Patterns_take_25 jf_Patterns_43 jm_SH_9 ?_
    refine jm_topI (y := h 9 4) rfl ?_
    refine jm_iload_n jd_Patterns_take_28 rfl rfl ?_
    obtain ⟨hb3, H⟩ := H
    refine jm_iastore jd_Patterns_take_29 jm_SH_11 hb3 ?_
    refine jm_aload_n jd_Patterns_take_30 rfl rfl ?_
    refine jm_gR jd_Patterns_take_31 jf_Patterns_18 jm_SH_9 rfl ?_
    refine jm_aload_n jd_Patterns_take_34 rfl rfl ?_
    refine jm_gI jd_Patterns_take_35 jf_Patterns_43 jm_SH_9 ?_
    refine jm_topI (y := h 9 4) rfl ?_
    refine jm_aload_n jd_Patterns_take_38 rfl rfl ?_
    refine jm_gI jd_Patterns_take_39 jf_Patterns_26 jm_SH_1 ?_
    refine jm_topI (y := h 1 2) rfl ?_
    refine jm_bipush jd_Patterns_take_42 jb_12 ?_
    refine jm_min jd_Patterns_take_44 jw_498 jw_448 jw_13 jw_449 (by omega) (by decide) (Nat.le_of_ble_eq_true rfl) ?_
    obtain ⟨hb4, H⟩ := H
    refine jm_iastore jd_Patterns_take_47 jm_SH_12 hb4 ?_
    refine jm_iconst jd_Patterns_take_48 (jm_o32c rfl) ?_
    refine jm_istore (i := 4) jd_Patterns_take_49 (by decide) (ls2 := [some (jm_R 9), some (jm_R 1), some (jm_I x2), some (jm_I x3), some (jm_I 0)]) rfl ?_
    refine jm_keepG [true, true, false, false, true] (ls2 := [some (jm_R 9), some (jm_R 1), none, none, some (jm_I 0)]) (by rfl) (by rfl) ?_
    exact H
  · replace H := H.2 hc1
    exact jm_vreturn jd_Patterns_take_9 rfl (by decide) ⟨rfl, rfl, H⟩
set_option maxRecDepth 4000 in
theorem jb_Patterns_take_51 {E : jm_Env} {x4 : Int} {h : jm_H} {K : jm_H → Prop} (H : (0 ≤ h 9 4 ∧ h 9 4 < 16) ∧ (((h 12 (Int.toNat (h 9 4)) ≤ x4) → K (jm_up h 9 4 (jm_w32 ((h 9 4) + 1)))) ∧ ((¬ h 12 (Int.toNat (h 9 4)) ≤ x4) → (0 ≤ h 9 4 ∧ h 9 4 < 16) ∧ ((0 ≤ x4 ∧ x4 < 60) ∧ ((0 ≤ x4 ∧ x4 < 12) ∧ (jm_BV E jm_SH jm_m_Patterns_take 1 51 [some (jm_R 9), some (jm_R 1), none, none, some (jm_I (jm_w32 (x4 + 1)))] [] (jm_up h (14 + (Int.toNat (h 9 4))) (Int.toNat x4) (h 2 (Int.toNat x4))) K)))))) : jm_BV E jm_SH jm_m_Patterns_take 1 51 [some (jm_R 9), some (jm_R 1), none, none, some (jm_I x4)] [] h K := by
  refine jm_iload jd_Patterns_take_51 rfl ?_
  refine jm_aload_n jd_Patterns_take_53 rfl rfl ?_
  refine jm_gR jd_Patterns_take_54 jf_Patterns_18 jm_SH_9 rfl ?_
  refine jm_aload_n jd_Patterns_take_57 rfl rfl ?_
  refine jm_gI jd_Patterns_take_58 jf_Patterns_43 jm_SH_9 ?_
  obtain ⟨hb1, H⟩ := H
  refine jm_iaload jd_Patterns_take_61 jm_SH_12 hb1 ?_
  refine jm_icmp_ge (tgt := 90) jd_Patterns_take_62 rfl (fun hc2 => ?_) (fun hc2 => ?_)
  · replace H := H.1 hc2
    refine jm_aload_n jd_Patterns_take_90 rfl rfl ?_
    refine jm_dup jd_Patterns_take_91 rfl ?_
    refine jm_gI jd_Patterns_take_92 jf_Patterns_43 jm_SH_9 ?_
    refine jm_iconst jd_Patterns_take_95 (jm_o32c rfl) ?_
    refine jm_iadd jd_Patterns_take_96 ?_
    refine jm_sI jd_Patterns_take_97 jp_Patterns_43 jm_SH_9 ?_
    exact jm_vreturn jd_Patterns_take_100 rfl (by decide) ⟨rfl, rfl, H⟩
  · replace H := H.2 hc2
    refine jm_aload_n jd_Patterns_take_65 rfl rfl ?_
    refine jm_gR jd_Patterns_take_66 jf_Patterns_23 jm_SH_9 rfl ?_
    refine jm_aload_n jd_Patterns_take_69 rfl rfl ?_
    refine jm_gI jd_Patterns_take_70 jf_Patterns_43 jm_SH_9 ?_
    obtain ⟨hb3, H⟩ := H
    refine jm_aaload jd_Patterns_take_73 jm_SH_13 (by decide) hb3 (jm_SH_r13 _ (by omega)) ?_
    refine jm_iload jd_Patterns_take_74 rfl ?_
    refine jm_aload_n jd_Patterns_take_76 rfl rfl ?_
    refine jm_gR jd_Patterns_take_77 jf_Patterns_36 jm_SH_1 rfl ?_
    refine jm_iload jd_Patterns_take_80 rfl ?_
    obtain ⟨hb4, H⟩ := H
    refine jm_iaload jd_Patterns_take_82 jm_SH_2 hb4 ?_
    obtain ⟨hb5, H⟩ := H
    refine jm_iastore jd_Patterns_take_83 (jm_SH_s13 _ (by omega)) hb5 ?_
    refine jm_iinc jd_Patterns_take_84 rfl (by decide) (ls2 := [some (jm_R 9), some (jm_R 1), none, none, some (jm_I (jm_w32 (x4 + 1)))]) rfl ?_
    refine jm_goto (tgt := 51) jd_Patterns_take_87 rfl ?_
    exact H
set_option maxRecDepth 4000 in
theorem jb_Patterns_chainFrom {E : jm_Env} {x1 : Int} {h : jm_H} {K : Int → jm_H → Prop} (H : (0 ≤ x1 ∧ x1 < 16) ∧ (((¬ h 12 (Int.toNat x1) = 1) → K (-1) h) ∧ ((h 12 (Int.toNat x1) = 1) → (0 ≤ x1 ∧ x1 < 16) ∧ (jm_CI E jm_SH jm_m_Patterns_headOf 0 [jm_I (h (14 + (Int.toNat x1)) 0)] h (fun v4 h4 => K v4 h4))))) : jm_CI E jm_SH jm_m_Patterns_chainFrom 1 [jm_R 9, jm_I x1] h K := by
  refine jm_body (ls0 := [some (jm_R 9), some (jm_I x1)]) (by decide +kernel) rfl rfl (Nat.le_of_ble_eq_true rfl) ?_
  refine jm_aload_n jd_Patterns_chainFrom_0 rfl rfl ?_
  refine jm_gR jd_Patterns_chainFrom_1 jf_Patterns_18 jm_SH_9 rfl ?_
  refine jm_iload_n jd_Patterns_chainFrom_4 rfl rfl ?_
  obtain ⟨hb1, H⟩ := H
  refine jm_iaload jd_Patterns_chainFrom_5 jm_SH_12 hb1 ?_
  refine jm_iconst jd_Patterns_chainFrom_6 (jm_o32c rfl) ?_
  refine jm_icmp_ne (tgt := 24) jd_Patterns_chainFrom_7 rfl (fun hc2 => ?_) (fun hc2 => ?_)
  · replace H := H.1 hc2
    refine jm_iconst jd_Patterns_chainFrom_24 (jm_o32c rfl) ?_
    exact jm_ireturn jd_Patterns_chainFrom_25 rfl (by decide) ⟨rfl, _, rfl, H⟩
  · replace H := H.2 hc2
    refine jm_aload_n jd_Patterns_chainFrom_10 rfl rfl ?_
    refine jm_gR jd_Patterns_chainFrom_11 jf_Patterns_23 jm_SH_9 rfl ?_
    refine jm_iload_n jd_Patterns_chainFrom_14 rfl rfl ?_
    obtain ⟨hb3, H⟩ := H
    refine jm_aaload jd_Patterns_chainFrom_15 jm_SH_13 (by decide) hb3 (jm_SH_r13 _ (by omega)) ?_
    refine jm_iconst jd_Patterns_chainFrom_16 (jm_o32c rfl) ?_
    refine jm_iaload jd_Patterns_chainFrom_17 (jm_SH_s13 _ (by omega)) (by decide) ?_
    refine jm_topI (y := h (14 + (Int.toNat x1)) 0) rfl ?_
    refine jm_cS (M' := jm_m_Patterns_headOf) (d' := 0) (av := [jm_I (h (14 + (Int.toNat x1)) 0)]) jd_Patterns_chainFrom_18 jk_Patterns_headOf jw_493 rfl (by omega) ⟨rfl, rfl⟩ (by decide) (Nat.le_of_ble_eq_true rfl) (jm_hqI (fun v4 h4 H => ?_)) H
    refine jm_goto (tgt := 25) jd_Patterns_chainFrom_21 rfl ?_
    exact jm_ireturn jd_Patterns_chainFrom_25 rfl (by decide) ⟨rfl, _, rfl, H⟩
set_option maxRecDepth 4000 in
theorem jb_Patterns_headOf {E : jm_Env} {x0 : Int} {h : jm_H} {K : Int → jm_H → Prop} (H : ((¬ x0 = 82) → ((¬ x0 = 65) → K (-1) h) ∧ ((x0 = 65) → K 1 h)) ∧ ((x0 = 82) → K 0 h)) : jm_CI E jm_SH jm_m_Patterns_headOf 0 [jm_I x0] h K := by
  refine jm_body (ls0 := [some (jm_I x0)]) (by decide +kernel) rfl rfl (Nat.le_of_ble_eq_true rfl) ?_
  refine jm_iload_n jd_Patterns_headOf_0 rfl rfl ?_
  refine jm_bipush jd_Patterns_headOf_1 jb_82 ?_
  refine jm_icmp_ne (tgt := 8) jd_Patterns_headOf_3 rfl (fun hc1 => ?_) (fun hc1 => ?_)
  · replace H := H.1 hc1
    refine jm_iload_n jd_Patterns_headOf_8 rfl rfl ?_
    refine jm_bipush jd_Patterns_headOf_9 jb_65 ?_
    refine jm_icmp_ne (tgt := 18) jd_Patterns_headOf_11 rfl (fun hc2 => ?_) (fun hc2 => ?_)
    · replace H := H.1 hc2
      refine jm_iconst jd_Patterns_headOf_18 (jm_o32c rfl) ?_
      exact jm_ireturn jd_Patterns_headOf_19 rfl (by decide) ⟨rfl, _, rfl, H⟩
    · replace H := H.2 hc2
      refine jm_iconst jd_Patterns_headOf_14 (jm_o32c rfl) ?_
      refine jm_goto (tgt := 19) jd_Patterns_headOf_15 rfl ?_
      exact jm_ireturn jd_Patterns_headOf_19 rfl (by decide) ⟨rfl, _, rfl, H⟩
  · replace H := H.2 hc1
    refine jm_iconst jd_Patterns_headOf_6 (jm_o32c rfl) ?_
    exact jm_ireturn jd_Patterns_headOf_7 rfl (by decide) ⟨rfl, _, rfl, H⟩
set_option maxRecDepth 4000 in
theorem jb_Patterns_fits {E : jm_Env} {x0 x1 : Int} {h : jm_H} {K : Int → jm_H → Prop} (H : (x0 = 75 → jm_CI E jm_SH jm_m_Pad_isNumber 0 [jm_I x1] h (fun v2 h2 => (v2 = 0 ∨ v2 = 1) ∧ K v2 h2)) ∧ ((x0 = 86 → jm_CI E jm_SH jm_m_Pad_isVariable 0 [jm_I x1] h (fun v4 h4 => (v4 = 0 ∨ v4 = 1) ∧ K v4 h4)) ∧ (((¬ x0 = 75 ∧ ¬ x0 = 86) → ((¬ x0 = x1) → K 0 h) ∧ ((x0 = x1) → K 1 h))))) : jm_CI E jm_SH jm_m_Patterns_fits 1 [jm_I x0, jm_I x1] h K := by
  refine jm_body (ls0 := [some (jm_I x0), some (jm_I x1)]) (by decide +kernel) rfl rfl (Nat.le_of_ble_eq_true rfl) ?_
  refine jm_iload_n jd_Patterns_fits_0 rfl rfl ?_
  by_cases hc1 : x0 = 75
  · replace H := H.1 hc1
    refine jm_lookup (tgt := 28) jd_Patterns_fits_1 (by decide) (by first | (rw [hc1]; rfl) | rw [hc1]) rfl ?_
    refine jm_iload_n jd_Patterns_fits_28 rfl rfl ?_
    refine jm_cS (M' := jm_m_Pad_isNumber) (d' := 0) (av := [jm_I x1]) jd_Patterns_fits_29 jk_Pad_isNumber jw_539 rfl (by omega) ⟨rfl, rfl⟩ (by decide) (Nat.le_of_ble_eq_true rfl) (jm_hqI (fun v2 h2 H => ?_)) H
    exact jm_zreturn jd_Patterns_fits_32 rfl H.1 (by decide) ⟨rfl, _, rfl, H.2⟩
  · replace H := H.2
    by_cases hc3 : x0 = 86
    · replace H := H.1 hc3
      refine jm_lookup (tgt := 33) jd_Patterns_fits_1 (by decide) (by first | (rw [hc3]; rfl) | rw [hc3]) rfl ?_
      refine jm_iload_n jd_Patterns_fits_33 rfl rfl ?_
      refine jm_cS (M' := jm_m_Pad_isVariable) (d' := 0) (av := [jm_I x1]) jd_Patterns_fits_34 jk_Pad_isVariable jw_540 rfl (by omega) ⟨rfl, rfl⟩ (by decide) (Nat.le_of_ble_eq_true rfl) (jm_hqI (fun v4 h4 H => ?_)) H
      exact jm_zreturn jd_Patterns_fits_37 rfl H.1 (by decide) ⟨rfl, _, rfl, H.2⟩
    · replace H := H.2
      replace H := H ⟨hc1, hc3⟩
      refine jm_lookup (off := 37) (tgt := 38) jd_Patterns_fits_1 (by decide) (by simp [Op.lookupswitch.offset_cons, Op.lookupswitch.offset_nil, Ne.symm hc1, Ne.symm hc3]) rfl ?_
      refine jm_iload_n jd_Patterns_fits_38 rfl rfl ?_
      refine jm_iload_n jd_Patterns_fits_39 rfl rfl ?_
      refine jm_icmp_ne (tgt := 47) jd_Patterns_fits_40 rfl (fun hc5 => ?_) (fun hc5 => ?_)
      · replace H := H.1 hc5
        refine jm_iconst jd_Patterns_fits_47 (jm_o32c rfl) ?_
        exact jm_zreturn jd_Patterns_fits_48 rfl (Or.inl rfl) (by decide) ⟨rfl, _, rfl, H⟩
      · replace H := H.2 hc5
        refine jm_iconst jd_Patterns_fits_43 (jm_o32c rfl) ?_
        refine jm_goto (tgt := 48) jd_Patterns_fits_44 rfl ?_
        exact jm_zreturn jd_Patterns_fits_48 rfl (Or.inr rfl) (by decide) ⟨rfl, _, rfl, H⟩
