set_option maxRecDepth 4000 in
theorem jb_Row_isOp {E : jm_Env} {x0 : Int} {h : jm_H} {K : Int → jm_H → Prop} (H : ((x0 < 0) → K 0 h) ∧ ((¬ x0 < 0) → ((6 < x0) → K 0 h) ∧ ((¬ 6 < x0) → K 1 h))) : jm_CI E jm_SH jm_m_Row_isOp 0 [jm_I x0] h K := by
  refine jm_body (ls0 := [some (jm_I x0)]) (by decide +kernel) rfl rfl (Nat.le_of_ble_eq_true rfl) ?_
  refine jm_iload_n jd_Row_isOp_0 rfl rfl ?_
  refine jm_if_lt (tgt := 14) jd_Row_isOp_1 rfl (fun hc1 => ?_) (fun hc1 => ?_)
  · replace H := H.1 hc1
    refine jm_iconst jd_Row_isOp_14 (jm_o32c rfl) ?_
    exact jm_zreturn jd_Row_isOp_15 rfl (Or.inl rfl) (by decide) ⟨rfl, _, rfl, H⟩
  · replace H := H.2 hc1
    refine jm_iload_n jd_Row_isOp_4 rfl rfl ?_
    refine jm_bipush jd_Row_isOp_5 jb_6 ?_
    refine jm_icmp_gt (tgt := 14) jd_Row_isOp_7 rfl (fun hc2 => ?_) (fun hc2 => ?_)
    · replace H := H.1 hc2
      refine jm_iconst jd_Row_isOp_14 (jm_o32c rfl) ?_
      exact jm_zreturn jd_Row_isOp_15 rfl (Or.inl rfl) (by decide) ⟨rfl, _, rfl, H⟩
    · replace H := H.2 hc2
      refine jm_iconst jd_Row_isOp_10 (jm_o32c rfl) ?_
      refine jm_goto (tgt := 15) jd_Row_isOp_11 rfl ?_
      exact jm_zreturn jd_Row_isOp_15 rfl (Or.inr rfl) (by decide) ⟨rfl, _, rfl, H⟩
set_option maxRecDepth 4000 in
theorem jb_Row_isRegister {E : jm_Env} {x0 : Int} {h : jm_H} {K : Int → jm_H → Prop} (H : ((x0 < 0) → K 0 h) ∧ ((¬ x0 < 0) → ((6 ≤ x0) → K 0 h) ∧ ((¬ 6 ≤ x0) → K 1 h))) : jm_CI E jm_SH jm_m_Row_isRegister 0 [jm_I x0] h K := by
  refine jm_body (ls0 := [some (jm_I x0)]) (by decide +kernel) rfl rfl (Nat.le_of_ble_eq_true rfl) ?_
  refine jm_iload_n jd_Row_isRegister_0 rfl rfl ?_
  refine jm_if_lt (tgt := 14) jd_Row_isRegister_1 rfl (fun hc1 => ?_) (fun hc1 => ?_)
  · replace H := H.1 hc1
    refine jm_iconst jd_Row_isRegister_14 (jm_o32c rfl) ?_
    exact jm_zreturn jd_Row_isRegister_15 rfl (Or.inl rfl) (by decide) ⟨rfl, _, rfl, H⟩
  · replace H := H.2 hc1
    refine jm_iload_n jd_Row_isRegister_4 rfl rfl ?_
    refine jm_bipush jd_Row_isRegister_5 jb_6 ?_
    refine jm_icmp_ge (tgt := 14) jd_Row_isRegister_7 rfl (fun hc2 => ?_) (fun hc2 => ?_)
    · replace H := H.1 hc2
      refine jm_iconst jd_Row_isRegister_14 (jm_o32c rfl) ?_
      exact jm_zreturn jd_Row_isRegister_15 rfl (Or.inl rfl) (by decide) ⟨rfl, _, rfl, H⟩
    · replace H := H.2 hc2
      refine jm_iconst jd_Row_isRegister_10 (jm_o32c rfl) ?_
      refine jm_goto (tgt := 15) jd_Row_isRegister_11 rfl ?_
      exact jm_zreturn jd_Row_isRegister_15 rfl (Or.inr rfl) (by decide) ⟨rfl, _, rfl, H⟩
set_option maxRecDepth 4000 in
theorem jb_Row_hasSecond {E : jm_Env} {x0 : Int} {h : jm_H} {K : Int → jm_H → Prop} (H : ((5 ≤ x0) → K 0 h) ∧ ((¬ 5 ≤ x0) → K 1 h)) : jm_CI E jm_SH jm_m_Row_hasSecond 0 [jm_I x0] h K := by
  refine jm_body (ls0 := [some (jm_I x0)]) (by decide +kernel) rfl rfl (Nat.le_of_ble_eq_true rfl) ?_
  refine jm_iload_n jd_Row_hasSecond_0 rfl rfl ?_
  refine jm_iconst jd_Row_hasSecond_1 (jm_o32c rfl) ?_
  refine jm_icmp_ge (tgt := 9) jd_Row_hasSecond_2 rfl (fun hc1 => ?_) (fun hc1 => ?_)
  · replace H := H.1 hc1
    refine jm_iconst jd_Row_hasSecond_9 (jm_o32c rfl) ?_
    exact jm_zreturn jd_Row_hasSecond_10 rfl (Or.inl rfl) (by decide) ⟨rfl, _, rfl, H⟩
  · replace H := H.2 hc1
    refine jm_iconst jd_Row_hasSecond_5 (jm_o32c rfl) ?_
    refine jm_goto (tgt := 10) jd_Row_hasSecond_6 rfl ?_
    exact jm_zreturn jd_Row_hasSecond_10 rfl (Or.inr rfl) (by decide) ⟨rfl, _, rfl, H⟩
set_option maxRecDepth 4000 in
theorem jb_Row_has {E : jm_Env} {x1 : Int} {h : jm_H} {K : Int → jm_H → Prop} (H : ((x1 < 0) → K 0 h) ∧ ((¬ x1 < 0) → ((h 37 3 ≤ x1) → K 0 h) ∧ ((¬ h 37 3 ≤ x1) → K 1 h))) : jm_CI E jm_SH jm_m_Row_has 0 [jm_R 37, jm_I x1] h K := by
  refine jm_body (ls0 := [some (jm_R 37), some (jm_I x1)]) (by decide +kernel) rfl rfl (Nat.le_of_ble_eq_true rfl) ?_
  refine jm_iload_n jd_Row_has_0 rfl rfl ?_
  refine jm_if_lt (tgt := 16) jd_Row_has_1 rfl (fun hc1 => ?_) (fun hc1 => ?_)
  · replace H := H.1 hc1
    refine jm_iconst jd_Row_has_16 (jm_o32c rfl) ?_
    exact jm_zreturn jd_Row_has_17 rfl (Or.inl rfl) (by decide) ⟨rfl, _, rfl, H⟩
  · replace H := H.2 hc1
    refine jm_iload_n jd_Row_has_4 rfl rfl ?_
    refine jm_aload_n jd_Row_has_5 rfl rfl ?_
    refine jm_gI jd_Row_has_6 jf_Row_25 jm_SH_37 ?_
    refine jm_icmp_ge (tgt := 16) jd_Row_has_9 rfl (fun hc2 => ?_) (fun hc2 => ?_)
    · replace H := H.1 hc2
      refine jm_iconst jd_Row_has_16 (jm_o32c rfl) ?_
      exact jm_zreturn jd_Row_has_17 rfl (Or.inl rfl) (by decide) ⟨rfl, _, rfl, H⟩
    · replace H := H.2 hc2
      refine jm_iconst jd_Row_has_12 (jm_o32c rfl) ?_
      refine jm_goto (tgt := 17) jd_Row_has_13 rfl ?_
      exact jm_zreturn jd_Row_has_17 rfl (Or.inr rfl) (by decide) ⟨rfl, _, rfl, H⟩
set_option maxRecDepth 4000 in
theorem jb_Row_append {E : jm_Env} {x1 x2 x3 x4 x5 : Int} {h : jm_H} {K : Int → jm_H → Prop} (H : ((h 37 3 < 12) → (0 ≤ h 37 3 ∧ h 37 3 < 12) ∧ ((0 ≤ h 37 3 ∧ h 37 3 < 12) ∧ ((0 ≤ h 37 3 ∧ h 37 3 < 12) ∧ ((0 ≤ h 37 3 ∧ h 37 3 < 12) ∧ ((0 ≤ h 37 3 ∧ h 37 3 < 12) ∧ ((0 ≤ h 37 3 ∧ h 37 3 < 12) ∧ (K 1 (jm_up (jm_up (jm_up (jm_up (jm_up (jm_up (jm_up (jm_up h 39 (Int.toNat (h 37 3)) x1) 40 (Int.toNat (h 37 3)) x2) 41 (Int.toNat (h 37 3)) x3) 42 (Int.toNat (h 37 3)) x4) 43 (Int.toNat (h 37 3)) x5) 44 (Int.toNat (h 37 3)) 1) 37 3 (jm_w32 ((h 37 3) + 1))) 37 4 (jm_w32 ((h 37 4) + 1)))))))))) ∧ ((¬ h 37 3 < 12) → K 0 h)) : jm_CI E jm_SH jm_m_Row_append 0 [jm_R 37, jm_I x1, jm_I x2, jm_I x3, jm_I x4, jm_I x5] h K := by
  refine jm_body (ls0 := [some (jm_R 37), some (jm_I x1), some (jm_I x2), some (jm_I x3), some (jm_I x4), some (jm_I x5)]) (by decide +kernel) rfl rfl (Nat.le_of_ble_eq_true rfl) ?_
  refine jm_aload_n jd_Row_append_0 rfl rfl ?_
  refine jm_gI jd_Row_append_1 jf_Row_25 jm_SH_37 ?_
  refine jm_bipush jd_Row_append_4 jb_12 ?_
  refine jm_icmp_lt (tgt := 11) jd_Row_append_6 rfl (fun hc1 => ?_) (fun hc1 => ?_)
  · replace H := H.1 hc1
    refine jm_aload_n jd_Row_append_11 rfl rfl ?_
    refine jm_gR jd_Row_append_12 jf_Row_11 jm_SH_37 rfl ?_
    refine jm_iconst jd_Row_append_15 (jm_o32c rfl) ?_
    refine jm_aaload jd_Row_append_16 jm_SH_38 (by decide) (by decide) rfl ?_
    refine jm_aload_n jd_Row_append_17 rfl rfl ?_
    refine jm_gI jd_Row_append_18 jf_Row_25 jm_SH_37 ?_
    refine jm_iload_n jd_Row_append_21 rfl rfl ?_
    obtain ⟨hb2, H⟩ := H
    refine jm_iastore jd_Row_append_22 jm_SH_39 hb2 ?_
    refine jm_aload_n jd_Row_append_23 rfl rfl ?_
    refine jm_gR jd_Row_append_24 jf_Row_11 jm_SH_37 rfl ?_
    refine jm_iconst jd_Row_append_27 (jm_o32c rfl) ?_
    refine jm_aaload jd_Row_append_28 jm_SH_38 (by decide) (by decide) rfl ?_
    refine jm_aload_n jd_Row_append_29 rfl rfl ?_
    refine jm_gI jd_Row_append_30 jf_Row_25 jm_SH_37 ?_
    refine jm_topI (y := h 37 3) rfl ?_
    refine jm_iload_n jd_Row_append_33 rfl rfl ?_
    obtain ⟨hb3, H⟩ := H
    refine jm_iastore jd_Row_append_34 jm_SH_40 hb3 ?_
    refine jm_aload_n jd_Row_append_35 rfl rfl ?_
    refine jm_gR jd_Row_append_36 jf_Row_11 jm_SH_37 rfl ?_
    refine jm_iconst jd_Row_append_39 (jm_o32c rfl) ?_
    refine jm_aaload jd_Row_append_40 jm_SH_38 (by decide) (by decide) rfl ?_
    refine jm_aload_n jd_Row_append_41 rfl rfl ?_
    refine jm_gI jd_Row_append_42 jf_Row_25 jm_SH_37 ?_
    refine jm_topI (y := h 37 3) rfl ?_
    refine jm_iload_n jd_Row_append_45 rfl rfl ?_
    obtain ⟨hb4, H⟩ := H
    refine jm_iastore jd_Row_append_46 jm_SH_41 hb4 ?_
    refine jm_aload_n jd_Row_append_47 rfl rfl ?_
    refine jm_gR jd_Row_append_48 jf_Row_11 jm_SH_37 rfl ?_
    refine jm_iconst jd_Row_append_51 (jm_o32c rfl) ?_
    refine jm_aaload jd_Row_append_52 jm_SH_38 (by decide) (by decide) rfl ?_
    refine jm_aload_n jd_Row_append_53 rfl rfl ?_
    refine jm_gI jd_Row_append_54 jf_Row_25 jm_SH_37 ?_
    refine jm_topI (y := h 37 3) rfl ?_
    refine jm_iload jd_Row_append_57 rfl ?_
    obtain ⟨hb5, H⟩ := H
    refine jm_iastore jd_Row_append_59 jm_SH_42 hb5 ?_
    refine jm_aload_n jd_Row_append_60 rfl rfl ?_
    refine jm_gR jd_Row_append_61 jf_Row_11 jm_SH_37 rfl ?_
    refine jm_iconst jd_Row_append_64 (jm_o32c rfl) ?_
    refine jm_aaload jd_Row_append_65 jm_SH_38 (by decide) (by decide) rfl ?_
    refine jm_aload_n jd_Row_append_66 rfl rfl ?_
    refine jm_gI jd_Row_append_67 jf_Row_25 jm_SH_37 ?_
    refine jm_topI (y := h 37 3) rfl ?_
    refine jm_iload jd_Row_append_70 rfl ?_
    obtain ⟨hb6, H⟩ := H
    refine jm_iastore jd_Row_append_72 jm_SH_43 hb6 ?_
    refine jm_aload_n jd_Row_append_73 rfl rfl ?_
    refine jm_gR jd_Row_append_74 jf_Row_11 jm_SH_37 rfl ?_
    refine jm_iconst jd_Row_append_77 (jm_o32c rfl) ?_
    refine jm_aaload jd_Row_append_78 jm_SH_38 (by decide) (by decide) rfl ?_
    refine jm_aload_n jd_Row_append_79 rfl rfl ?_
    refine jm_gI jd_Row_append_80 jf_Row_25 jm_SH_37 ?_
    refine jm_topI (y := h 37 3) rfl ?_
    refine jm_iconst jd_Row_append_83 (jm_o32c rfl) ?_
    obtain ⟨hb7, H⟩ := H
    refine jm_iastore jd_Row_append_84 jm_SH_44 hb7 ?_
    refine jm_aload_n jd_Row_append_85 rfl rfl ?_
    refine jm_dup jd_Row_append_86 rfl ?_
    refine jm_gI jd_Row_append_87 jf_Row_25 jm_SH_37 ?_
    refine jm_topI (y := h 37 3) rfl ?_
    refine jm_iconst jd_Row_append_90 (jm_o32c rfl) ?_
    refine jm_iadd jd_Row_append_91 ?_
    refine jm_sI jd_Row_append_92 jp_Row_25 jm_SH_37 ?_
    refine jm_aload_n jd_Row_append_95 rfl rfl ?_
    refine jm_dup jd_Row_append_96 rfl ?_
    refine jm_gI jd_Row_append_97 jf_Row_21 jm_SH_37 ?_
    refine jm_topI (y := h 37 4) rfl ?_
    refine jm_iconst jd_Row_append_100 (jm_o32c rfl) ?_
    refine jm_iadd jd_Row_append_101 ?_
    refine jm_sI jd_Row_append_102 jp_Row_21 jm_SH_37 ?_
    refine jm_iconst jd_Row_append_105 (jm_o32c rfl) ?_
    exact jm_zreturn jd_Row_append_106 rfl (Or.inr rfl) (by decide) ⟨rfl, _, rfl, H⟩
  · replace H := H.2 hc1
    refine jm_iconst jd_Row_append_9 (jm_o32c rfl) ?_
    exact jm_zreturn jd_Row_append_10 rfl (Or.inl rfl) (by decide) ⟨rfl, _, rfl, H⟩
set_option maxRecDepth 4000 in
theorem jb_Row_empty {E : jm_Env} {h : jm_H} {K : jm_H → Prop} (H : K (jm_up (jm_up h 37 3 0) 37 4 (jm_w32 ((h 37 4) + 1)))) : jm_CV E jm_SH jm_m_Row_empty 0 [jm_R 37] h K := by
  refine jm_body (ls0 := [some (jm_R 37)]) (by decide +kernel) rfl rfl (Nat.le_of_ble_eq_true rfl) ?_
  refine jm_aload_n jd_Row_empty_0 rfl rfl ?_
  refine jm_iconst jd_Row_empty_1 (jm_o32c rfl) ?_
  refine jm_sI jd_Row_empty_2 jp_Row_25 jm_SH_37 ?_
  refine jm_aload_n jd_Row_empty_5 rfl rfl ?_
  refine jm_dup jd_Row_empty_6 rfl ?_
  refine jm_gI jd_Row_empty_7 jf_Row_21 jm_SH_37 ?_
  refine jm_topI (y := h 37 4) rfl ?_
  refine jm_iconst jd_Row_empty_10 (jm_o32c rfl) ?_
  refine jm_iadd jd_Row_empty_11 ?_
  refine jm_sI jd_Row_empty_12 jp_Row_21 jm_SH_37 ?_
  exact jm_vreturn jd_Row_empty_15 rfl (by decide) ⟨rfl, rfl, H⟩
set_option maxRecDepth 4000 in
theorem jb_Row_remove {E : jm_Env} {x1 : Int} {h : jm_H} {K : jm_H → Prop} (H : jm_CI E jm_SH jm_m_Row_has 0 [jm_R 37, jm_I x1] h (fun v1 h1 => ((¬ v1 = 0) → jm_BV E jm_SH jm_m_Row_remove 1 21 [some (jm_R 37), some (jm_I x1), some (jm_I 0), none] [] (jm_up h1 37 3 (jm_w32 ((h1 37 3) - 1))) K) ∧ ((v1 = 0) → K h1))) : jm_CV E jm_SH jm_m_Row_remove 1 [jm_R 37, jm_I x1] h K := by
  refine jm_body (ls0 := [some (jm_R 37), some (jm_I x1), none, none]) (by decide +kernel) rfl rfl (Nat.le_of_ble_eq_true rfl) ?_
  refine jm_aload_n jd_Row_remove_0 rfl rfl ?_
  refine jm_iload_n jd_Row_remove_1 rfl rfl ?_
  refine jm_cV (M' := jm_m_Row_has) (d' := 0) (av := [jm_I x1]) jd_Row_remove_2 jk_Row_has jw_695 rfl (by omega) ⟨rfl, rfl⟩ (by decide) (Nat.le_of_ble_eq_true rfl) jm_SH_37 rfl rfl (jm_hqI (fun v1 h1 H => ?_)) H
  refine jm_if_ne (tgt := 9) jd_Row_remove_5 rfl (fun hc2 => ?_) (fun hc2 => ?_)
  · replace H := H.1 hc2
    refine jm_aload_n jd_Row_remove_9 rfl rfl ?_
    refine jm_dup jd_Row_remove_10 rfl ?_
    refine jm_gI jd_Row_remove_11 jf_Row_25 jm_SH_37 ?_
    refine jm_iconst jd_Row_remove_14 (jm_o32c rfl) ?_
    refine jm_isub jd_Row_remove_15 ?_
    refine jm_sI jd_Row_remove_16 jp_Row_25 jm_SH_37 ?_
    refine jm_iconst jd_Row_remove_19 (jm_o32c rfl) ?_
    refine jm_istore_n (i := 2) jd_Row_remove_20 rfl (by decide) (ls2 := [some (jm_R 37), some (jm_I x1), some (jm_I 0), none]) rfl ?_
    exact H
  · replace H := H.2 hc2
    exact jm_vreturn jd_Row_remove_8 rfl (by decide) ⟨rfl, rfl, H⟩
set_option maxRecDepth 4000 in
theorem jb_Row_remove_21 {E : jm_Env} {x1 x2 : Int} {h : jm_H} {K : jm_H → Prop} (H : ((6 ≤ x2) → K (jm_up h 37 4 (jm_w32 ((h 37 4) + 1)))) ∧ ((¬ 6 ≤ x2) → jm_BV E jm_SH jm_m_Row_remove 1 29 [some (jm_R 37), some (jm_I x1), some (jm_I x2), some (jm_I x1)] [] h K)) : jm_BV E jm_SH jm_m_Row_remove 1 21 [some (jm_R 37), some (jm_I x1), some (jm_I x2), none] [] h K := by
  refine jm_iload_n jd_Row_remove_21 rfl rfl ?_
  refine jm_bipush jd_Row_remove_22 jb_6 ?_
  refine jm_icmp_ge (tgt := 67) jd_Row_remove_24 rfl (fun hc1 => ?_) (fun hc1 => ?_)
  · replace H := H.1 hc1
    refine jm_aload_n jd_Row_remove_67 rfl rfl ?_
    refine jm_dup jd_Row_remove_68 rfl ?_
    refine jm_gI jd_Row_remove_69 jf_Row_21 jm_SH_37 ?_
    refine jm_iconst jd_Row_remove_72 (jm_o32c rfl) ?_
    refine jm_iadd jd_Row_remove_73 ?_
    refine jm_sI jd_Row_remove_74 jp_Row_21 jm_SH_37 ?_
    exact jm_vreturn jd_Row_remove_77 rfl (by decide) ⟨rfl, rfl, H⟩
  · replace H := H.2 hc1
    refine jm_iload_n jd_Row_remove_27 rfl rfl ?_
    refine jm_istore_n (i := 3) jd_Row_remove_28 rfl (by decide) (ls2 := [some (jm_R 37), some (jm_I x1), some (jm_I x2), some (jm_I x1)]) rfl ?_
    exact H
set_option maxRecDepth 4000 in
theorem jb_Row_remove_29 {E : jm_Env} {x1 x2 x3 : Int} {h : jm_H} {K : jm_H → Prop} (H : ((h 37 3 ≤ x3) → jm_BV E jm_SH jm_m_Row_remove 1 21 [some (jm_R 37), some (jm_I x1), some (jm_I (jm_w32 (x2 + 1))), none] [] h K) ∧ ((¬ h 37 3 ≤ x3) → (0 ≤ x2 ∧ x2 < 6) ∧ ((0 ≤ x2 ∧ x2 < 6) ∧ ((0 ≤ jm_w32 (x3 + 1) ∧ jm_w32 (x3 + 1) < 12) ∧ ((0 ≤ x3 ∧ x3 < 12) ∧ (jm_BV E jm_SH jm_m_Row_remove 1 29 [some (jm_R 37), some (jm_I x1), some (jm_I x2), some (jm_I (jm_w32 (x3 + 1)))] [] (jm_up h (39 + (Int.toNat x2)) (Int.toNat x3) (h (39 + (Int.toNat x2)) (Int.toNat (jm_w32 (x3 + 1))))) K)))))) : jm_BV E jm_SH jm_m_Row_remove 1 29 [some (jm_R 37), some (jm_I x1), some (jm_I x2), some (jm_I x3)] [] h K := by
  refine jm_iload_n jd_Row_remove_29 rfl rfl ?_
  refine jm_aload_n jd_Row_remove_30 rfl rfl ?_
  refine jm_gI jd_Row_remove_31 jf_Row_25 jm_SH_37 ?_
  refine jm_icmp_ge (tgt := 61) jd_Row_remove_34 rfl (fun hc1 => ?_) (fun hc1 => ?_)
  · replace H := H.1 hc1
    refine jm_iinc jd_Row_remove_61 rfl (by decide) (ls2 := [some (jm_R 37), some (jm_I x1), some (jm_I (jm_w32 (x2 + 1))), some (jm_I x3)]) rfl ?_
    refine jm_goto (tgt := 21) jd_Row_remove_64 rfl ?_
    refine jm_keepG [true, true, true, false] (ls2 := [some (jm_R 37), some (jm_I x1), some (jm_I (jm_w32 (x2 + 1))), none]) (by rfl) (by rfl) ?_
    exact H
  · replace H := H.2 hc1
    refine jm_aload_n jd_Row_remove_37 rfl rfl ?_
    refine jm_gR jd_Row_remove_38 jf_Row_11 jm_SH_37 rfl ?_
    refine jm_iload_n jd_Row_remove_41 rfl rfl ?_
    obtain ⟨hb2, H⟩ := H
    refine jm_aaload jd_Row_remove_42 jm_SH_38 (by decide) hb2 (jm_SH_r38 _ (by omega)) ?_
    refine jm_iload_n jd_Row_remove_43 rfl rfl ?_
    refine jm_aload_n jd_Row_remove_44 rfl rfl ?_
    refine jm_gR jd_Row_remove_45 jf_Row_11 jm_SH_37 rfl ?_
    refine jm_iload_n jd_Row_remove_48 rfl rfl ?_
    obtain ⟨hb3, H⟩ := H
    refine jm_aaload jd_Row_remove_49 jm_SH_38 (by decide) hb3 (jm_SH_r38 _ (by omega)) ?_
    refine jm_iload_n jd_Row_remove_50 rfl rfl ?_
    refine jm_iconst jd_Row_remove_51 (jm_o32c rfl) ?_
    refine jm_iadd jd_Row_remove_52 ?_
    obtain ⟨hb4, H⟩ := H
    refine jm_iaload jd_Row_remove_53 (jm_SH_s38 _ (by omega)) hb4 ?_
    obtain ⟨hb5, H⟩ := H
    refine jm_iastore jd_Row_remove_54 (jm_SH_s38 _ (by omega)) hb5 ?_
    refine jm_iinc jd_Row_remove_55 rfl (by decide) (ls2 := [some (jm_R 37), some (jm_I x1), some (jm_I x2), some (jm_I (jm_w32 (x3 + 1)))]) rfl ?_
    refine jm_goto (tgt := 29) jd_Row_remove_58 rfl ?_
    exact H
set_option maxRecDepth 4000 in
theorem jb_Row_rearrange {E : jm_Env} {h : jm_H} {K : jm_H → Prop} (H : jm_BV E jm_SH jm_m_Row_rearrange 1 2 [some (jm_R 37), some (jm_R 55), some (jm_I 0), none] [] h K) : jm_CV E jm_SH jm_m_Row_rearrange 1 [jm_R 37, jm_R 55] h K := by
  refine jm_body (ls0 := [some (jm_R 37), some (jm_R 55), none, none]) (by decide +kernel) rfl rfl (Nat.le_of_ble_eq_true rfl) ?_
  refine jm_iconst jd_Row_rearrange_0 (jm_o32c rfl) ?_
  refine jm_istore_n (i := 2) jd_Row_rearrange_1 rfl (by decide) (ls2 := [some (jm_R 37), some (jm_R 55), some (jm_I 0), none]) rfl ?_
  exact H
set_option maxRecDepth 4000 in
theorem jb_Row_rearrange_2 {E : jm_Env} {x2 : Int} {h : jm_H} {K : jm_H → Prop} (H : ((6 ≤ x2) → K (jm_up h 37 4 (jm_w32 ((h 37 4) + 1)))) ∧ ((¬ 6 ≤ x2) → jm_BV E jm_SH jm_m_Row_rearrange 1 10 [some (jm_R 37), some (jm_R 55), some (jm_I x2), some (jm_I 0)] [] h K)) : jm_BV E jm_SH jm_m_Row_rearrange 1 2 [some (jm_R 37), some (jm_R 55), some (jm_I x2), none] [] h K := by
  refine jm_iload_n jd_Row_rearrange_2 rfl rfl ?_
  refine jm_bipush jd_Row_rearrange_3 jb_6 ?_
  refine jm_icmp_ge (tgt := 92) jd_Row_rearrange_5 rfl (fun hc1 => ?_) (fun hc1 => ?_)
  · replace H := H.1 hc1
    refine jm_aload_n jd_Row_rearrange_92 rfl rfl ?_
    refine jm_dup jd_Row_rearrange_93 rfl ?_
    refine jm_gI jd_Row_rearrange_94 jf_Row_21 jm_SH_37 ?_
    refine jm_iconst jd_Row_rearrange_97 (jm_o32c rfl) ?_
    refine jm_iadd jd_Row_rearrange_98 ?_
    refine jm_sI jd_Row_rearrange_99 jp_Row_21 jm_SH_37 ?_
    exact jm_vreturn jd_Row_rearrange_102 rfl (by decide) ⟨rfl, rfl, H⟩
  · replace H := H.2 hc1
    refine jm_iconst jd_Row_rearrange_8 (jm_o32c rfl) ?_
    refine jm_istore_n (i := 3) jd_Row_rearrange_9 rfl (by decide) (ls2 := [some (jm_R 37), some (jm_R 55), some (jm_I x2), some (jm_I 0)]) rfl ?_
    exact H
set_option maxRecDepth 4000 in
theorem jb_Row_rearrange_10 {E : jm_Env} {x2 x3 : Int} {h : jm_H} {K : jm_H → Prop} (H : ((h 37 3 ≤ x3) → jm_BV E jm_SH jm_m_Row_rearrange 1 40 [some (jm_R 37), some (jm_R 55), some (jm_I x2), some (jm_I 0)] [] h K) ∧ ((¬ h 37 3 ≤ x3) → (0 ≤ x2 ∧ x2 < 6) ∧ ((0 ≤ x3 ∧ x3 < 12) ∧ ((0 ≤ x3 ∧ x3 < 12) ∧ (jm_BV E jm_SH jm_m_Row_rearrange 1 10 [some (jm_R 37), some (jm_R 55), some (jm_I x2), some (jm_I (jm_w32 (x3 + 1)))] [] (jm_up h 46 (Int.toNat x3) (h (39 + (Int.toNat x2)) (Int.toNat x3))) K))))) : jm_BV E jm_SH jm_m_Row_rearrange 1 10 [some (jm_R 37), some (jm_R 55), some (jm_I x2), some (jm_I x3)] [] h K := by
  refine jm_iload_n jd_Row_rearrange_10 rfl rfl ?_
  refine jm_aload_n jd_Row_rearrange_11 rfl rfl ?_
  refine jm_gI jd_Row_rearrange_12 jf_Row_25 jm_SH_37 ?_
  refine jm_icmp_ge (tgt := 38) jd_Row_rearrange_15 rfl (fun hc1 => ?_) (fun hc1 => ?_)
  · replace H := H.1 hc1
    refine jm_iconst jd_Row_rearrange_38 (jm_o32c rfl) ?_
    refine jm_istore_n (i := 3) jd_Row_rearrange_39 rfl (by decide) (ls2 := [some (jm_R 37), some (jm_R 55), some (jm_I x2), some (jm_I 0)]) rfl ?_
    exact H
  · replace H := H.2 hc1
    refine jm_aload_n jd_Row_rearrange_18 rfl rfl ?_
    refine jm_gR jd_Row_rearrange_19 jf_Row_18 jm_SH_37 rfl ?_
    refine jm_iload_n jd_Row_rearrange_22 rfl rfl ?_
    refine jm_aload_n jd_Row_rearrange_23 rfl rfl ?_
    refine jm_gR jd_Row_rearrange_24 jf_Row_11 jm_SH_37 rfl ?_
    refine jm_iload_n jd_Row_rearrange_27 rfl rfl ?_
    obtain ⟨hb2, H⟩ := H
    refine jm_aaload jd_Row_rearrange_28 jm_SH_38 (by decide) hb2 (jm_SH_r38 _ (by omega)) ?_
    refine jm_iload_n jd_Row_rearrange_29 rfl rfl ?_
    obtain ⟨hb3, H⟩ := H
    refine jm_iaload jd_Row_rearrange_30 (jm_SH_s38 _ (by omega)) hb3 ?_
    obtain ⟨hb4, H⟩ := H
    refine jm_iastore jd_Row_rearrange_31 jm_SH_46 hb4 ?_
    refine jm_iinc jd_Row_rearrange_32 rfl (by decide) (ls2 := [some (jm_R 37), some (jm_R 55), some (jm_I x2), some (jm_I (jm_w32 (x3 + 1)))]) rfl ?_
    refine jm_goto (tgt := 10) jd_Row_rearrange_35 rfl ?_
    exact H
set_option maxRecDepth 4000 in
theorem jb_Row_rearrange_40 {E : jm_Env} {x2 x3 : Int} {h : jm_H} {K : jm_H → Prop} (H : ((h 37 3 ≤ x3) → jm_BV E jm_SH jm_m_Row_rearrange 1 2 [some (jm_R 37), some (jm_R 55), some (jm_I (jm_w32 (x2 + 1))), none] [] h K) ∧ ((¬ h 37 3 ≤ x3) → ((10 ≤ x3) → jm_BV E jm_SH jm_m_Row_rearrange 1 2 [some (jm_R 37), some (jm_R 55), some (jm_I (jm_w32 (x2 + 1))), none] [] h K) ∧ ((¬ 10 ≤ x3) → (0 ≤ x3 ∧ x3 < 10) ∧ (jm_CI E jm_SH jm_m_Row_has 0 [jm_R 37, jm_I (h 55 (Int.toNat x3))] h (fun v4 h4 => ((v4 = 0) → jm_BV E jm_SH jm_m_Row_rearrange 1 40 [some (jm_R 37), some (jm_R 55), some (jm_I x2), some (jm_I (jm_w32 (x3 + 1)))] [] h4 K) ∧ ((¬ v4 = 0) → (0 ≤ x2 ∧ x2 < 6) ∧ ((0 ≤ x3 ∧ x3 < 10) ∧ ((0 ≤ h4 55 (Int.toNat x3) ∧ h4 55 (Int.toNat x3) < 12) ∧ ((0 ≤ x3 ∧ x3 < 12) ∧ (jm_BV E jm_SH jm_m_Row_rearrange 1 40 [some (jm_R 37), some (jm_R 55), some (jm_I x2), some (jm_I (jm_w32 (x3 + 1)))] [] (jm_up h4 (39 + (Int.toNat x2)) (Int.toNat x3) (h4 46 (Int.toNat (h4 55 (Int.toNat x3))))) K)))))))))) : jm_BV E jm_SH jm_m_Row_rearrange 1 40 [some (jm_R 37), some (jm_R 55), some (jm_I x2), some (jm_I x3)] [] h K := by
  refine jm_iload_n jd_Row_rearrange_40 rfl rfl ?_
  refine jm_aload_n jd_Row_rearrange_41 rfl rfl ?_
  refine jm_gI jd_Row_rearrange_42 jf_Row_25 jm_SH_37 ?_
  refine jm_icmp_ge (tgt := 86) jd_Row_rearrange_45 rfl (fun hc1 => ?_) (fun hc1 => ?_)
  · replace H := H.1 hc1
    refine jm_iinc jd_Row_rearrange_86 rfl (by decide) (ls2 := [some (jm_R 37), some (jm_R 55), some (jm_I (jm_w32 (x2 + 1))), some (jm_I x3)]) rfl ?_
    refine jm_goto (tgt := 2) jd_Row_rearrange_89 rfl ?_
    refine jm_keepG [true, true, true, false] (ls2 := [some (jm_R 37), some (jm_R 55), some (jm_I (jm_w32 (x2 + 1))), none]) (by rfl) (by rfl) ?_
    exact H
  · replace H := H.2 hc1
    refine jm_iload_n jd_Row_rearrange_48 rfl rfl ?_
    refine jm_aload_n jd_Row_rearrange_49 rfl rfl ?_
    refine jm_alen jd_Row_rearrange_50 jm_SH_55 (by decide) (by decide) ?_
    refine jm_topI (y := 10) rfl ?_
    refine jm_icmp_ge (tgt := 86) jd_Row_rearrange_51 rfl (fun hc2 => ?_) (fun hc2 => ?_)
    · replace H := H.1 hc2
      refine jm_iinc jd_Row_rearrange_86 rfl (by decide) (ls2 := [some (jm_R 37), some (jm_R 55), some (jm_I (jm_w32 (x2 + 1))), some (jm_I x3)]) rfl ?_
      refine jm_goto (tgt := 2) jd_Row_rearrange_89 rfl ?_
      refine jm_keepG [true, true, true, false] (ls2 := [some (jm_R 37), some (jm_R 55), some (jm_I (jm_w32 (x2 + 1))), none]) (by rfl) (by rfl) ?_
      exact H
    · replace H := H.2 hc2
      refine jm_aload_n jd_Row_rearrange_54 rfl rfl ?_
      refine jm_aload_n jd_Row_rearrange_55 rfl rfl ?_
      refine jm_iload_n jd_Row_rearrange_56 rfl rfl ?_
      obtain ⟨hb3, H⟩ := H
      refine jm_iaload jd_Row_rearrange_57 jm_SH_55 hb3 ?_
      refine jm_cV (M' := jm_m_Row_has) (d' := 0) (av := [jm_I (h 55 (Int.toNat x3))]) jd_Row_rearrange_58 jk_Row_has jw_695 rfl (by omega) ⟨rfl, rfl⟩ (by decide) (Nat.le_of_ble_eq_true rfl) jm_SH_37 rfl rfl (jm_hqI (fun v4 h4 H => ?_)) H
      refine jm_if_eq (tgt := 80) jd_Row_rearrange_61 rfl (fun hc5 => ?_) (fun hc5 => ?_)
      · replace H := H.1 hc5
        refine jm_iinc jd_Row_rearrange_80 rfl (by decide) (ls2 := [some (jm_R 37), some (jm_R 55), some (jm_I x2), some (jm_I (jm_w32 (x3 + 1)))]) rfl ?_
        refine jm_goto (tgt := 40) jd_Row_rearrange_83 rfl ?_
        exact H
      · replace H := H.2 hc5
        refine jm_aload_n jd_Row_rearrange_64 rfl rfl ?_
        refine jm_gR jd_Row_rearrange_65 jf_Row_11 jm_SH_37 rfl ?_
        refine jm_iload_n jd_Row_rearrange_68 rfl rfl ?_
        obtain ⟨hb6, H⟩ := H
        refine jm_aaload jd_Row_rearrange_69 jm_SH_38 (by decide) hb6 (jm_SH_r38 _ (by omega)) ?_
        refine jm_iload_n jd_Row_rearrange_70 rfl rfl ?_
        refine jm_aload_n jd_Row_rearrange_71 rfl rfl ?_
        refine jm_gR jd_Row_rearrange_72 jf_Row_18 jm_SH_37 rfl ?_
        refine jm_aload_n jd_Row_rearrange_75 rfl rfl ?_
        refine jm_iload_n jd_Row_rearrange_76 rfl rfl ?_
        obtain ⟨hb7, H⟩ := H
        refine jm_iaload jd_Row_rearrange_77 jm_SH_55 hb7 ?_
        obtain ⟨hb8, H⟩ := H
        refine jm_iaload jd_Row_rearrange_78 jm_SH_46 hb8 ?_
        obtain ⟨hb9, H⟩ := H
        refine jm_iastore jd_Row_rearrange_79 (jm_SH_s38 _ (by omega)) hb9 ?_
        refine jm_iinc jd_Row_rearrange_80 rfl (by decide) (ls2 := [some (jm_R 37), some (jm_R 55), some (jm_I x2), some (jm_I (jm_w32 (x3 + 1)))]) rfl ?_
        refine jm_goto (tgt := 40) jd_Row_rearrange_83 rfl ?_
        exact H
set_option maxRecDepth 4000 in
theorem jb_Row_uses {E : jm_Env} {x1 x2 : Int} {h : jm_H} {K : Int → jm_H → Prop} (H : (0 ≤ x1 ∧ x1 < 12) ∧ (((h 41 (Int.toNat x1) = x2) → K 1 h) ∧ ((¬ h 41 (Int.toNat x1) = x2) → (0 ≤ x1 ∧ x1 < 12) ∧ (jm_CI E jm_SH jm_m_Row_hasSecond 0 [jm_I (h 39 (Int.toNat x1))] h (fun v4 h4 => ((v4 = 0) → K 0 h4) ∧ ((¬ v4 = 0) → (0 ≤ x1 ∧ x1 < 12) ∧ (((¬ h4 42 (Int.toNat x1) = x2) → K 0 h4) ∧ ((h4 42 (Int.toNat x1) = x2) → K 1 h4)))))))) : jm_CI E jm_SH jm_m_Row_uses 1 [jm_R 37, jm_I x1, jm_I x2] h K := by
  refine jm_body (ls0 := [some (jm_R 37), some (jm_I x1), some (jm_I x2)]) (by decide +kernel) rfl rfl (Nat.le_of_ble_eq_true rfl) ?_
  refine jm_aload_n jd_Row_uses_0 rfl rfl ?_
  refine jm_gR jd_Row_uses_1 jf_Row_11 jm_SH_37 rfl ?_
  refine jm_iconst jd_Row_uses_4 (jm_o32c rfl) ?_
  refine jm_aaload jd_Row_uses_5 jm_SH_38 (by decide) (by decide) rfl ?_
  refine jm_iload_n jd_Row_uses_6 rfl rfl ?_
  obtain ⟨hb1, H⟩ := H
  refine jm_iaload jd_Row_uses_7 jm_SH_41 hb1 ?_
  refine jm_iload_n jd_Row_uses_8 rfl rfl ?_
  refine jm_icmp_eq (tgt := 38) jd_Row_uses_9 rfl (fun hc2 => ?_) (fun hc2 => ?_)
  · replace H := H.1 hc2
    refine jm_iconst jd_Row_uses_38 (jm_o32c rfl) ?_
    refine jm_goto (tgt := 43) jd_Row_uses_39 rfl ?_
    exact jm_zreturn jd_Row_uses_43 rfl (Or.inr rfl) (by decide) ⟨rfl, _, rfl, H⟩
  · replace H := H.2 hc2
    refine jm_aload_n jd_Row_uses_12 rfl rfl ?_
    refine jm_gR jd_Row_uses_13 jf_Row_11 jm_SH_37 rfl ?_
    refine jm_iconst jd_Row_uses_16 (jm_o32c rfl) ?_
    refine jm_aaload jd_Row_uses_17 jm_SH_38 (by decide) (by decide) rfl ?_
    refine jm_iload_n jd_Row_uses_18 rfl rfl ?_
    obtain ⟨hb3, H⟩ := H
    refine jm_iaload jd_Row_uses_19 jm_SH_39 hb3 ?_
    refine jm_cS (M' := jm_m_Row_hasSecond) (d' := 0) (av := [jm_I (h 39 (Int.toNat x1))]) jd_Row_uses_20 jk_Row_hasSecond jw_625 rfl (by omega) ⟨rfl, rfl⟩ (by decide) (Nat.le_of_ble_eq_true rfl) (jm_hqI (fun v4 h4 H => ?_)) H
    refine jm_if_eq (tgt := 42) jd_Row_uses_23 rfl (fun hc5 => ?_) (fun hc5 => ?_)
    · replace H := H.1 hc5
      refine jm_iconst jd_Row_uses_42 (jm_o32c rfl) ?_
      exact jm_zreturn jd_Row_uses_43 rfl (Or.inl rfl) (by decide) ⟨rfl, _, rfl, H⟩
    · replace H := H.2 hc5
      refine jm_aload_n jd_Row_uses_26 rfl rfl ?_
      refine jm_gR jd_Row_uses_27 jf_Row_11 jm_SH_37 rfl ?_
      refine jm_iconst jd_Row_uses_30 (jm_o32c rfl) ?_
      refine jm_aaload jd_Row_uses_31 jm_SH_38 (by decide) (by decide) rfl ?_
      refine jm_iload_n jd_Row_uses_32 rfl rfl ?_
      obtain ⟨hb6, H⟩ := H
      refine jm_iaload jd_Row_uses_33 jm_SH_42 hb6 ?_
      refine jm_iload_n jd_Row_uses_34 rfl rfl ?_
      refine jm_icmp_ne (tgt := 42) jd_Row_uses_35 rfl (fun hc7 => ?_) (fun hc7 => ?_)
      · replace H := H.1 hc7
        refine jm_iconst jd_Row_uses_42 (jm_o32c rfl) ?_
        exact jm_zreturn jd_Row_uses_43 rfl (Or.inl rfl) (by decide) ⟨rfl, _, rfl, H⟩
      · replace H := H.2 hc7
        refine jm_iconst jd_Row_uses_38 (jm_o32c rfl) ?_
        refine jm_goto (tgt := 43) jd_Row_uses_39 rfl ?_
        exact jm_zreturn jd_Row_uses_43 rfl (Or.inr rfl) (by decide) ⟨rfl, _, rfl, H⟩
set_option maxRecDepth 4000 in
theorem jb_Row_clash {E : jm_Env} {x1 x2 : Int} {h : jm_H} {K : Int → jm_H → Prop} (H : (0 ≤ x1 ∧ x1 < 12) ∧ ((0 ≤ x2 ∧ x2 < 12) ∧ (((h 40 (Int.toNat x1) = h 40 (Int.toNat x2)) → K 1 h) ∧ ((¬ h 40 (Int.toNat x1) = h 40 (Int.toNat x2)) → jm_CI E jm_SH jm_m_Row_uses 1 [jm_R 37, jm_I x2, jm_I (h 40 (Int.toNat x1))] h (fun v4 h4 => ((¬ v4 = 0) → K 1 h4) ∧ ((v4 = 0) → jm_CI E jm_SH jm_m_Row_uses 1 [jm_R 37, jm_I x1, jm_I (h 40 (Int.toNat x2))] h4 (fun v6 h6 => ((v6 = 0) → K 0 h6) ∧ ((¬ v6 = 0) → K 1 h6)))))))) : jm_CI E jm_SH jm_m_Row_clash 2 [jm_R 37, jm_I x1, jm_I x2] h K := by
  refine jm_body (ls0 := [some (jm_R 37), some (jm_I x1), some (jm_I x2), none, none]) (by decide +kernel) rfl rfl (Nat.le_of_ble_eq_true rfl) ?_
  refine jm_aload_n jd_Row_clash_0 rfl rfl ?_
  refine jm_gR jd_Row_clash_1 jf_Row_11 jm_SH_37 rfl ?_
  refine jm_iconst jd_Row_clash_4 (jm_o32c rfl) ?_
  refine jm_aaload jd_Row_clash_5 jm_SH_38 (by decide) (by decide) rfl ?_
  refine jm_iload_n jd_Row_clash_6 rfl rfl ?_
  obtain ⟨hb1, H⟩ := H
  refine jm_iaload jd_Row_clash_7 jm_SH_40 hb1 ?_
  refine jm_istore_n (i := 3) jd_Row_clash_8 rfl (by decide) (ls2 := [some (jm_R 37), some (jm_I x1), some (jm_I x2), some (jm_I (h 40 (Int.toNat x1))), none]) rfl ?_
  refine jm_aload_n jd_Row_clash_9 rfl rfl ?_
  refine jm_gR jd_Row_clash_10 jf_Row_11 jm_SH_37 rfl ?_
  refine jm_iconst jd_Row_clash_13 (jm_o32c rfl) ?_
  refine jm_aaload jd_Row_clash_14 jm_SH_38 (by decide) (by decide) rfl ?_
  refine jm_iload_n jd_Row_clash_15 rfl rfl ?_
  obtain ⟨hb2, H⟩ := H
  refine jm_iaload jd_Row_clash_16 jm_SH_40 hb2 ?_
  refine jm_istore (i := 4) jd_Row_clash_17 (by decide) (ls2 := [some (jm_R 37), some (jm_I x1), some (jm_I x2), some (jm_I (h 40 (Int.toNat x1))), some (jm_I (h 40 (Int.toNat x2)))]) rfl ?_
  refine jm_iload_n jd_Row_clash_19 rfl rfl ?_
  refine jm_iload jd_Row_clash_20 rfl ?_
  refine jm_icmp_eq (tgt := 44) jd_Row_clash_22 rfl (fun hc3 => ?_) (fun hc3 => ?_)
  · replace H := H.1 hc3
    refine jm_iconst jd_Row_clash_44 (jm_o32c rfl) ?_
    refine jm_goto (tgt := 49) jd_Row_clash_45 rfl ?_
    exact jm_zreturn jd_Row_clash_49 rfl (Or.inr rfl) (by decide) ⟨rfl, _, rfl, H⟩
  · replace H := H.2 hc3
    refine jm_aload_n jd_Row_clash_25 rfl rfl ?_
    refine jm_iload_n jd_Row_clash_26 rfl rfl ?_
    refine jm_iload_n jd_Row_clash_27 rfl rfl ?_
    refine jm_cV (M' := jm_m_Row_uses) (d' := 1) (av := [jm_I x2, jm_I (h 40 (Int.toNat x1))]) jd_Row_clash_28 jk_Row_uses jw_643 rfl (by omega) ⟨rfl, rfl⟩ (by decide) (Nat.le_of_ble_eq_true rfl) jm_SH_37 rfl rfl (jm_hqI (fun v4 h4 H => ?_)) H
    refine jm_if_ne (tgt := 44) jd_Row_clash_31 rfl (fun hc5 => ?_) (fun hc5 => ?_)
    · replace H := H.1 hc5
      refine jm_iconst jd_Row_clash_44 (jm_o32c rfl) ?_
      refine jm_goto (tgt := 49) jd_Row_clash_45 rfl ?_
      exact jm_zreturn jd_Row_clash_49 rfl (Or.inr rfl) (by decide) ⟨rfl, _, rfl, H⟩
    · replace H := H.2 hc5
      refine jm_aload_n jd_Row_clash_34 rfl rfl ?_
      refine jm_iload_n jd_Row_clash_35 rfl rfl ?_
      refine jm_iload jd_Row_clash_36 rfl ?_
      refine jm_cV (M' := jm_m_Row_uses) (d' := 1) (av := [jm_I x1, jm_I (h 40 (Int.toNat x2))]) jd_Row_clash_38 jk_Row_uses jw_643 rfl (by omega) ⟨rfl, rfl⟩ (by decide) (Nat.le_of_ble_eq_true rfl) jm_SH_37 rfl rfl (jm_hqI (fun v6 h6 H => ?_)) H
      refine jm_if_eq (tgt := 48) jd_Row_clash_41 rfl (fun hc7 => ?_) (fun hc7 => ?_)
      · replace H := H.1 hc7
        refine jm_iconst jd_Row_clash_48 (jm_o32c rfl) ?_
        exact jm_zreturn jd_Row_clash_49 rfl (Or.inl rfl) (by decide) ⟨rfl, _, rfl, H⟩
      · replace H := H.2 hc7
        refine jm_iconst jd_Row_clash_44 (jm_o32c rfl) ?_
        refine jm_goto (tgt := 49) jd_Row_clash_45 rfl ?_
        exact jm_zreturn jd_Row_clash_49 rfl (Or.inr rfl) (by decide) ⟨rfl, _, rfl, H⟩
set_option maxRecDepth 4000 in
theorem jb_Row_setterAhead {E : jm_Env} {x1 x2 : Int} {h : jm_H} {K : Int → jm_H → Prop} (H : jm_BI E jm_SH jm_m_Row_setterAhead 0 4 [some (jm_R 37), none, some (jm_I x2), some (jm_I (jm_w32 (x1 - 1)))] [] h K) : jm_CI E jm_SH jm_m_Row_setterAhead 0 [jm_R 37, jm_I x1, jm_I x2] h K := by
  refine jm_body (ls0 := [some (jm_R 37), some (jm_I x1), some (jm_I x2), none]) (by decide +kernel) rfl rfl (Nat.le_of_ble_eq_true rfl) ?_
  refine jm_iload_n jd_Row_setterAhead_0 rfl rfl ?_
  refine jm_iconst jd_Row_setterAhead_1 (jm_o32c rfl) ?_
  refine jm_isub jd_Row_setterAhead_2 ?_
  refine jm_istore_n (i := 3) jd_Row_setterAhead_3 rfl (by decide) (ls2 := [some (jm_R 37), some (jm_I x1), some (jm_I x2), some (jm_I (jm_w32 (x1 - 1)))]) rfl ?_
  refine jm_keepG [true, false, true, true] (ls2 := [some (jm_R 37), none, some (jm_I x2), some (jm_I (jm_w32 (x1 - 1)))]) (by rfl) (by rfl) ?_
  exact H
set_option maxRecDepth 4000 in
theorem jb_Row_setterAhead_4 {E : jm_Env} {x2 x3 : Int} {h : jm_H} {K : Int → jm_H → Prop} (H : ((x3 < 0) → K (-1) h) ∧ ((¬ x3 < 0) → (0 ≤ x3 ∧ x3 < 12) ∧ (((¬ h 40 (Int.toNat x3) = x2) → jm_BI E jm_SH jm_m_Row_setterAhead 0 4 [some (jm_R 37), none, some (jm_I x2), some (jm_I (jm_w32 (x3 + (-1))))] [] h K) ∧ ((h 40 (Int.toNat x3) = x2) → K x3 h)))) : jm_BI E jm_SH jm_m_Row_setterAhead 0 4 [some (jm_R 37), none, some (jm_I x2), some (jm_I x3)] [] h K := by
  refine jm_iload_n jd_Row_setterAhead_4 rfl rfl ?_
  refine jm_if_lt (tgt := 28) jd_Row_setterAhead_5 rfl (fun hc1 => ?_) (fun hc1 => ?_)
  · replace H := H.1 hc1
    refine jm_iconst jd_Row_setterAhead_28 (jm_o32c rfl) ?_
    exact jm_ireturn jd_Row_setterAhead_29 rfl (by decide) ⟨rfl, _, rfl, H⟩
  · replace H := H.2 hc1
    refine jm_aload_n jd_Row_setterAhead_8 rfl rfl ?_
    refine jm_gR jd_Row_setterAhead_9 jf_Row_11 jm_SH_37 rfl ?_
    refine jm_iconst jd_Row_setterAhead_12 (jm_o32c rfl) ?_
    refine jm_aaload jd_Row_setterAhead_13 jm_SH_38 (by decide) (by decide) rfl ?_
    refine jm_iload_n jd_Row_setterAhead_14 rfl rfl ?_
    obtain ⟨hb2, H⟩ := H
    refine jm_iaload jd_Row_setterAhead_15 jm_SH_40 hb2 ?_
    refine jm_iload_n jd_Row_setterAhead_16 rfl rfl ?_
    refine jm_icmp_ne (tgt := 22) jd_Row_setterAhead_17 rfl (fun hc3 => ?_) (fun hc3 => ?_)
    · replace H := H.1 hc3
      refine jm_iinc jd_Row_setterAhead_22 rfl (by decide) (ls2 := [some (jm_R 37), none, some (jm_I x2), some (jm_I (jm_w32 (x3 + (-1))))]) rfl ?_
      refine jm_goto (tgt := 4) jd_Row_setterAhead_25 rfl ?_
      exact H
    · replace H := H.2 hc3
      refine jm_iload_n jd_Row_setterAhead_20 rfl rfl ?_
      exact jm_ireturn jd_Row_setterAhead_21 rfl (by decide) ⟨rfl, _, rfl, H⟩
set_option maxRecDepth 4000 in
theorem jb_Row_firstSetter {E : jm_Env} {x1 : Int} {h : jm_H} {K : Int → jm_H → Prop} (H : (0 ≤ x1 ∧ x1 < 12) ∧ (jm_CI E jm_SH jm_m_Row_setterAhead 0 [jm_R 37, jm_I x1, jm_I (h 41 (Int.toNat x1))] h (fun v2 h2 => K v2 h2))) : jm_CI E jm_SH jm_m_Row_firstSetter 1 [jm_R 37, jm_I x1] h K := by
  refine jm_body (ls0 := [some (jm_R 37), some (jm_I x1)]) (by decide +kernel) rfl rfl (Nat.le_of_ble_eq_true rfl) ?_
  refine jm_aload_n jd_Row_firstSetter_0 rfl rfl ?_
  refine jm_iload_n jd_Row_firstSetter_1 rfl rfl ?_
  refine jm_aload_n jd_Row_firstSetter_2 rfl rfl ?_
  refine jm_gR jd_Row_firstSetter_3 jf_Row_11 jm_SH_37 rfl ?_
  refine jm_iconst jd_Row_firstSetter_6 (jm_o32c rfl) ?_
  refine jm_aaload jd_Row_firstSetter_7 jm_SH_38 (by decide) (by decide) rfl ?_
  refine jm_iload_n jd_Row_firstSetter_8 rfl rfl ?_
  obtain ⟨hb1, H⟩ := H
  refine jm_iaload jd_Row_firstSetter_9 jm_SH_41 hb1 ?_
  refine jm_cV (M' := jm_m_Row_setterAhead) (d' := 0) (av := [jm_I x1, jm_I (h 41 (Int.toNat x1))]) jd_Row_firstSetter_10 jk_Row_setterAhead jw_613 rfl (by omega) ⟨rfl, rfl⟩ (by decide) (Nat.le_of_ble_eq_true rfl) jm_SH_37 rfl rfl (jm_hqI (fun v2 h2 H => ?_)) H
  exact jm_ireturn jd_Row_firstSetter_13 rfl (by decide) ⟨rfl, _, rfl, H⟩
set_option maxRecDepth 4000 in
theorem jb_Row_secondSetter {E : jm_Env} {x1 : Int} {h : jm_H} {K : Int → jm_H → Prop} (H : (0 ≤ x1 ∧ x1 < 12) ∧ (jm_CI E jm_SH jm_m_Row_hasSecond 0 [jm_I (h 39 (Int.toNat x1))] h (fun v2 h2 => ((v2 = 0) → K (-1) h2) ∧ ((¬ v2 = 0) → (0 ≤ x1 ∧ x1 < 12) ∧ (jm_CI E jm_SH jm_m_Row_setterAhead 0 [jm_R 37, jm_I x1, jm_I (h2 42 (Int.toNat x1))] h2 (fun v5 h5 => K v5 h5)))))) : jm_CI E jm_SH jm_m_Row_secondSetter 1 [jm_R 37, jm_I x1] h K := by
  refine jm_body (ls0 := [some (jm_R 37), some (jm_I x1)]) (by decide +kernel) rfl rfl (Nat.le_of_ble_eq_true rfl) ?_
  refine jm_aload_n jd_Row_secondSetter_0 rfl rfl ?_
  refine jm_gR jd_Row_secondSetter_1 jf_Row_11 jm_SH_37 rfl ?_
  refine jm_iconst jd_Row_secondSetter_4 (jm_o32c rfl) ?_
  refine jm_aaload jd_Row_secondSetter_5 jm_SH_38 (by decide) (by decide) rfl ?_
  refine jm_iload_n jd_Row_secondSetter_6 rfl rfl ?_
  obtain ⟨hb1, H⟩ := H
  refine jm_iaload jd_Row_secondSetter_7 jm_SH_39 hb1 ?_
  refine jm_cS (M' := jm_m_Row_hasSecond) (d' := 0) (av := [jm_I (h 39 (Int.toNat x1))]) jd_Row_secondSetter_8 jk_Row_hasSecond jw_625 rfl (by omega) ⟨rfl, rfl⟩ (by decide) (Nat.le_of_ble_eq_true rfl) (jm_hqI (fun v2 h2 H => ?_)) H
  refine jm_if_eq (tgt := 30) jd_Row_secondSetter_11 rfl (fun hc3 => ?_) (fun hc3 => ?_)
  · replace H := H.1 hc3
    refine jm_iconst jd_Row_secondSetter_30 (jm_o32c rfl) ?_
    exact jm_ireturn jd_Row_secondSetter_31 rfl (by decide) ⟨rfl, _, rfl, H⟩
  · replace H := H.2 hc3
    refine jm_aload_n jd_Row_secondSetter_14 rfl rfl ?_
    refine jm_iload_n jd_Row_secondSetter_15 rfl rfl ?_
    refine jm_aload_n jd_Row_secondSetter_16 rfl rfl ?_
    refine jm_gR jd_Row_secondSetter_17 jf_Row_11 jm_SH_37 rfl ?_
    refine jm_iconst jd_Row_secondSetter_20 (jm_o32c rfl) ?_
    refine jm_aaload jd_Row_secondSetter_21 jm_SH_38 (by decide) (by decide) rfl ?_
    refine jm_iload_n jd_Row_secondSetter_22 rfl rfl ?_
    obtain ⟨hb4, H⟩ := H
    refine jm_iaload jd_Row_secondSetter_23 jm_SH_42 hb4 ?_
    refine jm_cV (M' := jm_m_Row_setterAhead) (d' := 0) (av := [jm_I x1, jm_I (h2 42 (Int.toNat x1))]) jd_Row_secondSetter_24 jk_Row_setterAhead jw_613 rfl (by omega) ⟨rfl, rfl⟩ (by decide) (Nat.le_of_ble_eq_true rfl) jm_SH_37 rfl rfl (jm_hqI (fun v5 h5 H => ?_)) H
    refine jm_goto (tgt := 31) jd_Row_secondSetter_27 rfl ?_
    exact jm_ireturn jd_Row_secondSetter_31 rfl (by decide) ⟨rfl, _, rfl, H⟩
set_option maxRecDepth 4000 in
theorem jb_Row_cycleOf {E : jm_Env} {x1 : Int} {h : jm_H} {K : Int → jm_H → Prop} (H : jm_CV E jm_SH jm_m_Row_findCycles 2 [jm_R 37] h (fun h1 => (0 ≤ x1 ∧ x1 < 12) ∧ (K (h1 45 (Int.toNat x1)) h1))) : jm_CI E jm_SH jm_m_Row_cycleOf 3 [jm_R 37, jm_I x1] h K := by
  refine jm_body (ls0 := [some (jm_R 37), some (jm_I x1)]) (by decide +kernel) rfl rfl (Nat.le_of_ble_eq_true rfl) ?_
  refine jm_aload_n jd_Row_cycleOf_0 rfl rfl ?_
  refine jm_cV (M' := jm_m_Row_findCycles) (d' := 2) (av := []) jd_Row_cycleOf_1 jk_Row_findCycles jw_605 rfl (by omega) ⟨rfl, rfl⟩ (by decide) (Nat.le_of_ble_eq_true rfl) jm_SH_37 rfl rfl (jm_hqV (fun h1 H => ?_)) H
  refine jm_aload_n jd_Row_cycleOf_4 rfl rfl ?_
  refine jm_gR jd_Row_cycleOf_5 jf_Row_14 jm_SH_37 rfl ?_
  refine jm_iload_n jd_Row_cycleOf_8 rfl rfl ?_
  obtain ⟨hb2, H⟩ := H
  refine jm_iaload jd_Row_cycleOf_9 jm_SH_45 hb2 ?_
  exact jm_ireturn jd_Row_cycleOf_10 rfl (by decide) ⟨rfl, _, rfl, H⟩
set_option maxRecDepth 4000 in
theorem jb_Row_endAsWritten {E : jm_Env} {h : jm_H} {K : Int → jm_H → Prop} (H : jm_CV E jm_SH jm_m_Row_findCycles 2 [jm_R 37] h (fun h1 => jm_BI E jm_SH jm_m_Row_endAsWritten 3 8 [some (jm_R 37), some (jm_I 0), some (jm_I 0)] [] h1 K)) : jm_CI E jm_SH jm_m_Row_endAsWritten 3 [jm_R 37] h K := by
  refine jm_body (ls0 := [some (jm_R 37), none, none]) (by decide +kernel) rfl rfl (Nat.le_of_ble_eq_true rfl) ?_
  refine jm_aload_n jd_Row_endAsWritten_0 rfl rfl ?_
  refine jm_cV (M' := jm_m_Row_findCycles) (d' := 2) (av := []) jd_Row_endAsWritten_1 jk_Row_findCycles jw_605 rfl (by omega) ⟨rfl, rfl⟩ (by decide) (Nat.le_of_ble_eq_true rfl) jm_SH_37 rfl rfl (jm_hqV (fun h1 H => ?_)) H
  refine jm_iconst jd_Row_endAsWritten_4 (jm_o32c rfl) ?_
  refine jm_istore_n (i := 1) jd_Row_endAsWritten_5 rfl (by decide) (ls2 := [some (jm_R 37), some (jm_I 0), none]) rfl ?_
  refine jm_iconst jd_Row_endAsWritten_6 (jm_o32c rfl) ?_
  refine jm_istore_n (i := 2) jd_Row_endAsWritten_7 rfl (by decide) (ls2 := [some (jm_R 37), some (jm_I 0), some (jm_I 0)]) rfl ?_
  exact H
set_option maxRecDepth 4000 in
theorem jb_Row_endAsWritten_8 {E : jm_Env} {x1 x2 : Int} {h : jm_H} {K : Int → jm_H → Prop} (H : ((h 37 3 ≤ x2) → K x1 h) ∧ ((¬ h 37 3 ≤ x2) → (0 ≤ x2 ∧ x2 < 12) ∧ ((0 ≤ x2 ∧ x2 < 12) ∧ (jm_BI E jm_SH jm_m_Row_endAsWritten 3 8 [some (jm_R 37), some (jm_I (max x1 (jm_w32 ((h 45 (Int.toNat x2)) + (h 43 (Int.toNat x2)))))), some (jm_I (jm_w32 (x2 + 1)))] [] h K)))) : jm_BI E jm_SH jm_m_Row_endAsWritten 3 8 [some (jm_R 37), some (jm_I x1), some (jm_I x2)] [] h K := by
  refine jm_iload_n jd_Row_endAsWritten_8 rfl rfl ?_
  refine jm_aload_n jd_Row_endAsWritten_9 rfl rfl ?_
  refine jm_gI jd_Row_endAsWritten_10 jf_Row_25 jm_SH_37 ?_
  refine jm_icmp_ge (tgt := 42) jd_Row_endAsWritten_13 rfl (fun hc1 => ?_) (fun hc1 => ?_)
  · replace H := H.1 hc1
    refine jm_iload_n jd_Row_endAsWritten_42 rfl rfl ?_
    exact jm_ireturn jd_Row_endAsWritten_43 rfl (by decide) ⟨rfl, _, rfl, H⟩
  · replace H := H.2 hc1
    refine jm_iload_n jd_Row_endAsWritten_16 rfl rfl ?_
    refine jm_aload_n jd_Row_endAsWritten_17 rfl rfl ?_
    refine jm_gR jd_Row_endAsWritten_18 jf_Row_14 jm_SH_37 rfl ?_
    refine jm_iload_n jd_Row_endAsWritten_21 rfl rfl ?_
    obtain ⟨hb2, H⟩ := H
    refine jm_iaload jd_Row_endAsWritten_22 jm_SH_45 hb2 ?_
    refine jm_aload_n jd_Row_endAsWritten_23 rfl rfl ?_
    refine jm_gR jd_Row_endAsWritten_24 jf_Row_11 jm_SH_37 rfl ?_
    refine jm_iconst jd_Row_endAsWritten_27 (jm_o32c rfl) ?_
    refine jm_aaload jd_Row_endAsWritten_28 jm_SH_38 (by decide) (by decide) rfl ?_
    refine jm_iload_n jd_Row_endAsWritten_29 rfl rfl ?_
    obtain ⟨hb3, H⟩ := H
    refine jm_iaload jd_Row_endAsWritten_30 jm_SH_43 hb3 ?_
    refine jm_iadd jd_Row_endAsWritten_31 ?_
    refine jm_max jd_Row_endAsWritten_32 jw_626 jw_464 jw_13 jw_465 (by omega) (by decide) (Nat.le_of_ble_eq_true rfl) ?_
    refine jm_istore_n (i := 1) jd_Row_endAsWritten_35 rfl (by decide) (ls2 := [some (jm_R 37), some (jm_I (max x1 (jm_w32 ((h 45 (Int.toNat x2)) + (h 43 (Int.toNat x2)))))), some (jm_I x2)]) rfl ?_
    refine jm_iinc jd_Row_endAsWritten_36 rfl (by decide) (ls2 := [some (jm_R 37), some (jm_I (max x1 (jm_w32 ((h 45 (Int.toNat x2)) + (h 43 (Int.toNat x2)))))), some (jm_I (jm_w32 (x2 + 1)))]) rfl ?_
    refine jm_goto (tgt := 8) jd_Row_endAsWritten_39 rfl ?_
    exact H
set_option maxRecDepth 4000 in
theorem jb_Row_findCycles {E : jm_Env} {h : jm_H} {K : jm_H → Prop} (H : jm_BV E jm_SH jm_m_Row_findCycles 2 4 [some (jm_R 37), some (jm_I 0), some (jm_I 0)] [] h K) : jm_CV E jm_SH jm_m_Row_findCycles 2 [jm_R 37] h K := by
  refine jm_body (ls0 := [some (jm_R 37), none, none]) (by decide +kernel) rfl rfl (Nat.le_of_ble_eq_true rfl) ?_
  refine jm_iconst jd_Row_findCycles_0 (jm_o32c rfl) ?_
  refine jm_istore_n (i := 1) jd_Row_findCycles_1 rfl (by decide) (ls2 := [some (jm_R 37), some (jm_I 0), none]) rfl ?_
  refine jm_iconst jd_Row_findCycles_2 (jm_o32c rfl) ?_
  refine jm_istore_n (i := 2) jd_Row_findCycles_3 rfl (by decide) (ls2 := [some (jm_R 37), some (jm_I 0), some (jm_I 0)]) rfl ?_
  exact H
set_option maxRecDepth 4000 in
theorem jb_Row_findCycles_4 {E : jm_Env} {x1 x2 : Int} {h : jm_H} {K : jm_H → Prop} (H : ((h 37 3 ≤ x2) → K h) ∧ ((¬ h 37 3 ≤ x2) → jm_CI E jm_SH jm_m_Row_firstSetter 1 [jm_R 37, jm_I x2] h (fun v2 h2 => jm_CI E jm_SH jm_m_Row_readyAt 0 [jm_R 37, jm_I v2] h2 (fun v3 h3 => jm_CI E jm_SH jm_m_Row_secondSetter 1 [jm_R 37, jm_I x2] h3 (fun v4 h4 => jm_CI E jm_SH jm_m_Row_readyAt 0 [jm_R 37, jm_I v4] h4 (fun v5 h5 => (0 ≤ x2 ∧ x2 < 12) ∧ (jm_BV E jm_SH jm_m_Row_findCycles 2 4 [some (jm_R 37), some (jm_I (jm_w32 (max x1 (max v3 v5) + 1))), some (jm_I (jm_w32 (x2 + 1)))] [] (jm_up h5 45 (Int.toNat x2) (max x1 (max v3 v5))) K))))))) : jm_BV E jm_SH jm_m_Row_findCycles 2 4 [some (jm_R 37), some (jm_I x1), some (jm_I x2)] [] h K := by
  refine jm_iload_n jd_Row_findCycles_4 rfl rfl ?_
  refine jm_aload_n jd_Row_findCycles_5 rfl rfl ?_
  refine jm_gI jd_Row_findCycles_6 jf_Row_25 jm_SH_37 ?_
  refine jm_icmp_ge (tgt := 54) jd_Row_findCycles_9 rfl (fun hc1 => ?_) (fun hc1 => ?_)
  · replace H := H.1 hc1
    exact jm_vreturn jd_Row_findCycles_54 rfl (by decide) ⟨rfl, rfl, H⟩
  · replace H := H.2 hc1
    refine jm_iload_n jd_Row_findCycles_12 rfl rfl ?_
    refine jm_aload_n jd_Row_findCycles_13 rfl rfl ?_
    refine jm_aload_n jd_Row_findCycles_14 rfl rfl ?_
    refine jm_iload_n jd_Row_findCycles_15 rfl rfl ?_
    refine jm_cV (M' := jm_m_Row_firstSetter) (d' := 1) (av := [jm_I x2]) jd_Row_findCycles_16 jk_Row_firstSetter jw_609 rfl (by omega) ⟨rfl, rfl⟩ (by decide) (Nat.le_of_ble_eq_true rfl) jm_SH_37 rfl rfl (jm_hqI (fun v2 h2 H => ?_)) H
    refine jm_cV (M' := jm_m_Row_readyAt) (d' := 0) (av := [jm_I v2]) jd_Row_findCycles_19 jk_Row_readyAt jw_617 rfl (by omega) ⟨rfl, rfl⟩ (by decide) (Nat.le_of_ble_eq_true rfl) jm_SH_37 rfl rfl (jm_hqI (fun v3 h3 H => ?_)) H
    refine jm_aload_n jd_Row_findCycles_22 rfl rfl ?_
    refine jm_aload_n jd_Row_findCycles_23 rfl rfl ?_
    refine jm_iload_n jd_Row_findCycles_24 rfl rfl ?_
    refine jm_cV (M' := jm_m_Row_secondSetter) (d' := 1) (av := [jm_I x2]) jd_Row_findCycles_25 jk_Row_secondSetter jw_621 rfl (by omega) ⟨rfl, rfl⟩ (by decide) (Nat.le_of_ble_eq_true rfl) jm_SH_37 rfl rfl (jm_hqI (fun v4 h4 H => ?_)) H
    refine jm_cV (M' := jm_m_Row_readyAt) (d' := 0) (av := [jm_I v4]) jd_Row_findCycles_28 jk_Row_readyAt jw_617 rfl (by omega) ⟨rfl, rfl⟩ (by decide) (Nat.le_of_ble_eq_true rfl) jm_SH_37 rfl rfl (jm_hqI (fun v5 h5 H => ?_)) H
    refine jm_max jd_Row_findCycles_31 jw_626 jw_464 jw_13 jw_465 (by omega) (by decide) (Nat.le_of_ble_eq_true rfl) ?_
    refine jm_max jd_Row_findCycles_34 jw_626 jw_464 jw_13 jw_465 (by omega) (by decide) (Nat.le_of_ble_eq_true rfl) ?_
    refine jm_istore_n (i := 1) jd_Row_findCycles_37 rfl (by decide) (ls2 := [some (jm_R 37), some (jm_I (max x1 (max v3 v5))), some (jm_I x2)]) rfl ?_
    refine jm_aload_n jd_Row_findCycles_38 rfl rfl ?_
    refine jm_gR jd_Row_findCycles_39 jf_Row_14 jm_SH_37 rfl ?_
    refine jm_iload_n jd_Row_findCycles_42 rfl rfl ?_
    refine jm_iload_n jd_Row_findCycles_43 rfl rfl ?_
    obtain ⟨hb6, H⟩ := H
    refine jm_iastore jd_Row_findCycles_44 jm_SH_45 hb6 ?_
    refine jm_iinc jd_Row_findCycles_45 rfl (by decide) (ls2 := [some (jm_R 37), some (jm_I (jm_w32 (max x1 (max v3 v5) + 1))), some (jm_I x2)]) rfl ?_
    refine jm_iinc jd_Row_findCycles_48 rfl (by decide) (ls2 := [some (jm_R 37), some (jm_I (jm_w32 (max x1 (max v3 v5) + 1))), some (jm_I (jm_w32 (x2 + 1)))]) rfl ?_
    refine jm_goto (tgt := 4) jd_Row_findCycles_51 rfl ?_
    exact H
set_option maxRecDepth 4000 in
theorem jb_Row_readyAt {E : jm_Env} {x1 : Int} {h : jm_H} {K : Int → jm_H → Prop} (H : ((0 ≤ x1) → (0 ≤ x1 ∧ x1 < 12) ∧ ((0 ≤ x1 ∧ x1 < 12) ∧ (K (jm_w32 ((h 45 (Int.toNat x1)) + (h 43 (Int.toNat x1)))) h))) ∧ ((¬ 0 ≤ x1) → K 0 h)) : jm_CI E jm_SH jm_m_Row_readyAt 0 [jm_R 37, jm_I x1] h K := by
  refine jm_body (ls0 := [some (jm_R 37), some (jm_I x1)]) (by decide +kernel) rfl rfl (Nat.le_of_ble_eq_true rfl) ?_
  refine jm_iload_n jd_Row_readyAt_0 rfl rfl ?_
  refine jm_if_ge (tgt := 8) jd_Row_readyAt_1 rfl (fun hc1 => ?_) (fun hc1 => ?_)
  · replace H := H.1 hc1
    refine jm_aload_n jd_Row_readyAt_8 rfl rfl ?_
    refine jm_gR jd_Row_readyAt_9 jf_Row_14 jm_SH_37 rfl ?_
    refine jm_iload_n jd_Row_readyAt_12 rfl rfl ?_
    obtain ⟨hb2, H⟩ := H
    refine jm_iaload jd_Row_readyAt_13 jm_SH_45 hb2 ?_
    refine jm_aload_n jd_Row_readyAt_14 rfl rfl ?_
    refine jm_gR jd_Row_readyAt_15 jf_Row_11 jm_SH_37 rfl ?_
    refine jm_iconst jd_Row_readyAt_18 (jm_o32c rfl) ?_
    refine jm_aaload jd_Row_readyAt_19 jm_SH_38 (by decide) (by decide) rfl ?_
    refine jm_iload_n jd_Row_readyAt_20 rfl rfl ?_
    obtain ⟨hb3, H⟩ := H
    refine jm_iaload jd_Row_readyAt_21 jm_SH_43 hb3 ?_
    refine jm_iadd jd_Row_readyAt_22 ?_
    exact jm_ireturn jd_Row_readyAt_23 rfl (by decide) ⟨rfl, _, rfl, H⟩
  · replace H := H.2 hc1
    refine jm_iconst jd_Row_readyAt_4 (jm_o32c rfl) ?_
    refine jm_goto (tgt := 23) jd_Row_readyAt_5 rfl ?_
    exact jm_ireturn jd_Row_readyAt_23 rfl (by decide) ⟨rfl, _, rfl, H⟩
