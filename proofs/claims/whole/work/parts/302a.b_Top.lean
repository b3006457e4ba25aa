set_option maxRecDepth 4000 in
theorem jb_Top_say {E : jm_Env} {x1 : Int} {h : jm_H} {K : Int → jm_H → Prop} (H : ((x1 < 33) → K (-2) h) ∧ ((¬ x1 < 33) → ((x1 ≤ 126) → jm_CI E jm_SH jm_m_Pad_lay 0 [jm_R 1, jm_I x1] h (fun v3 h3 => ((v3 = 0) → K (-4) h3) ∧ ((¬ v3 = 0) → K (h3 1 2) h3))) ∧ ((¬ x1 ≤ 126) → K (-2) h))) : jm_CI E jm_SH jm_m_Top_say 1 [jm_R 0, jm_I x1] h K := by
  refine jm_body (ls0 := [some (jm_R 0), some (jm_I x1)]) (by decide +kernel) rfl rfl (Nat.le_of_ble_eq_true rfl) ?_
  refine jm_iload_n jd_Top_say_0 rfl rfl ?_
  refine jm_bipush jd_Top_say_1 jb_33 ?_
  refine jm_icmp_lt (tgt := 12) jd_Top_say_3 rfl (fun hc1 => ?_) (fun hc1 => ?_)
  · replace H := H.1 hc1
    refine jm_bipush jd_Top_say_12 jb_m2 ?_
    exact jm_ireturn jd_Top_say_14 rfl (by decide) ⟨rfl, _, rfl, H⟩
  · replace H := H.2 hc1
    refine jm_iload_n jd_Top_say_6 rfl rfl ?_
    refine jm_bipush jd_Top_say_7 jb_126 ?_
    refine jm_icmp_le (tgt := 15) jd_Top_say_9 rfl (fun hc2 => ?_) (fun hc2 => ?_)
    · replace H := H.1 hc2
      refine jm_aload_n jd_Top_say_15 rfl rfl ?_
      refine jm_gR jd_Top_say_16 jf_Top_10 jm_SH_0 rfl ?_
      refine jm_iload_n jd_Top_say_19 rfl rfl ?_
      refine jm_cV (M' := jm_m_Pad_lay) (d' := 0) (av := [jm_I x1]) jd_Top_say_20 jk_Pad_lay jw_397 rfl (by omega) ⟨rfl, rfl⟩ (by decide) (Nat.le_of_ble_eq_true rfl) jm_SH_1 rfl rfl (jm_hqI (fun v3 h3 H => ?_)) H
      refine jm_if_eq (tgt := 36) jd_Top_say_23 rfl (fun hc4 => ?_) (fun hc4 => ?_)
      · replace H := H.1 hc4
        refine jm_bipush jd_Top_say_36 jb_m4 ?_
        exact jm_ireturn jd_Top_say_38 rfl (by decide) ⟨rfl, _, rfl, H⟩
      · replace H := H.2 hc4
        refine jm_aload_n jd_Top_say_26 rfl rfl ?_
        refine jm_gR jd_Top_say_27 jf_Top_10 jm_SH_0 rfl ?_
        refine jm_gI jd_Top_say_30 jf_Top_82 jm_SH_1 ?_
        refine jm_goto (tgt := 38) jd_Top_say_33 rfl ?_
        exact jm_ireturn jd_Top_say_38 rfl (by decide) ⟨rfl, _, rfl, H⟩
    · replace H := H.2 hc2
      refine jm_bipush jd_Top_say_12 jb_m2 ?_
      exact jm_ireturn jd_Top_say_14 rfl (by decide) ⟨rfl, _, rfl, H⟩
set_option maxRecDepth 4000 in
theorem jb_Top_wipe {E : jm_Env} {h : jm_H} {K : Int → jm_H → Prop} (H : K (h 1 2) (jm_up h 1 2 0)) : jm_CI E jm_SH jm_m_Top_wipe 0 [jm_R 0] h K := by
  refine jm_body (ls0 := [some (jm_R 0), none]) (by decide +kernel) rfl rfl (Nat.le_of_ble_eq_true rfl) ?_
  refine jm_aload_n jd_Top_wipe_0 rfl rfl ?_
  refine jm_gR jd_Top_wipe_1 jf_Top_10 jm_SH_0 rfl ?_
  refine jm_gI jd_Top_wipe_4 jf_Top_82 jm_SH_1 ?_
  refine jm_istore_n (i := 1) jd_Top_wipe_7 rfl (by decide) (ls2 := [some (jm_R 0), some (jm_I (h 1 2))]) rfl ?_
  refine jm_aload_n jd_Top_wipe_8 rfl rfl ?_
  refine jm_gR jd_Top_wipe_9 jf_Top_10 jm_SH_0 rfl ?_
  refine jm_iconst jd_Top_wipe_12 (jm_o32c rfl) ?_
  refine jm_sI jd_Top_wipe_13 jp_Top_82 jm_SH_1 ?_
  refine jm_iload_n jd_Top_wipe_16 rfl rfl ?_
  exact jm_ireturn jd_Top_wipe_17 rfl (by decide) ⟨rfl, _, rfl, H⟩
set_option maxRecDepth 4000 in
theorem jb_Top_fault {E : jm_Env} {h : jm_H} {K : Int → jm_H → Prop} (H : jm_CI E jm_SH jm_m_Pad_faultAsTree 3 [jm_R 1] h (fun v1 h1 => K v1 h1)) : jm_CI E jm_SH jm_m_Top_fault 4 [jm_R 0] h K := by
  refine jm_body (ls0 := [some (jm_R 0)]) (by decide +kernel) rfl rfl (Nat.le_of_ble_eq_true rfl) ?_
  refine jm_aload_n jd_Top_fault_0 rfl rfl ?_
  refine jm_gR jd_Top_fault_1 jf_Top_10 jm_SH_0 rfl ?_
  refine jm_cV (M' := jm_m_Pad_faultAsTree) (d' := 3) (av := []) jd_Top_fault_4 jk_Pad_faultAsTree jw_409 rfl (by omega) ⟨rfl, rfl⟩ (by decide) (Nat.le_of_ble_eq_true rfl) jm_SH_1 rfl rfl (jm_hqI (fun v1 h1 H => ?_)) H
  exact jm_ireturn jd_Top_fault_7 rfl (by decide) ⟨rfl, _, rfl, H⟩
set_option maxRecDepth 4000 in
theorem jb_Top_read {E : jm_Env} {h : jm_H} {K : Int → jm_H → Prop} (H : jm_CI E jm_SH jm_m_Pad_faultAsTree 3 [jm_R 1] h (fun v1 h1 => ((v1 = -6) → ((h1 1 2 ≤ 30) → jm_CV E jm_SH jm_m_Tree_take 3 [jm_R 4, jm_R 1] h1 (fun h4 => K (h4 4 4) (jm_up (jm_up h4 30 9 1) 1 2 0))) ∧ ((¬ h1 1 2 ≤ 30) → K (-4) h1)) ∧ ((¬ v1 = -6) → K (-5) h1))) : jm_CI E jm_SH jm_m_Top_read 4 [jm_R 0] h K := by
  refine jm_body (ls0 := [some (jm_R 0)]) (by decide +kernel) rfl rfl (Nat.le_of_ble_eq_true rfl) ?_
  refine jm_aload_n jd_Top_read_0 rfl rfl ?_
  refine jm_gR jd_Top_read_1 jf_Top_10 jm_SH_0 rfl ?_
  refine jm_cV (M' := jm_m_Pad_faultAsTree) (d' := 3) (av := []) jd_Top_read_4 jk_Pad_faultAsTree jw_409 rfl (by omega) ⟨rfl, rfl⟩ (by decide) (Nat.le_of_ble_eq_true rfl) jm_SH_1 rfl rfl (jm_hqI (fun v1 h1 H => ?_)) H
  refine jm_bipush jd_Top_read_7 jb_m6 ?_
  refine jm_icmp_eq (tgt := 15) jd_Top_read_9 rfl (fun hc2 => ?_) (fun hc2 => ?_)
  · replace H := H.1 hc2
    refine jm_aload_n jd_Top_read_15 rfl rfl ?_
    refine jm_gR jd_Top_read_16 jf_Top_10 jm_SH_0 rfl ?_
    refine jm_gI jd_Top_read_19 jf_Top_82 jm_SH_1 ?_
    refine jm_bipush jd_Top_read_22 jb_30 ?_
    refine jm_icmp_le (tgt := 30) jd_Top_read_24 rfl (fun hc3 => ?_) (fun hc3 => ?_)
    · replace H := H.1 hc3
      refine jm_aload_n jd_Top_read_30 rfl rfl ?_
      refine jm_gR jd_Top_read_31 jf_Top_19 jm_SH_0 rfl ?_
      refine jm_aload_n jd_Top_read_34 rfl rfl ?_
      refine jm_gR jd_Top_read_35 jf_Top_10 jm_SH_0 rfl ?_
      refine jm_cV (M' := jm_m_Tree_take) (d' := 3) (av := [jm_R 1]) jd_Top_read_38 jk_Tree_take jw_443 rfl (by omega) ⟨rfl, rfl⟩ (by decide) (Nat.le_of_ble_eq_true rfl) jm_SH_4 rfl rfl (jm_hqV (fun h4 H => ?_)) H
      refine jm_aload_n jd_Top_read_41 rfl rfl ?_
      refine jm_gR jd_Top_read_42 jf_Top_35 jm_SH_0 rfl ?_
      refine jm_iconst jd_Top_read_45 (jm_o32c rfl) ?_
      refine jm_sZ jd_Top_read_46 jp_Top_94 (Or.inr rfl) jm_SH_30 ?_
      refine jm_aload_n jd_Top_read_49 rfl rfl ?_
      refine jm_gR jd_Top_read_50 jf_Top_10 jm_SH_0 rfl ?_
      refine jm_iconst jd_Top_read_53 (jm_o32c rfl) ?_
      refine jm_sI jd_Top_read_54 jp_Top_82 jm_SH_1 ?_
      refine jm_aload_n jd_Top_read_57 rfl rfl ?_
      refine jm_gR jd_Top_read_58 jf_Top_19 jm_SH_0 rfl ?_
      refine jm_gI jd_Top_read_61 jf_Top_98 jm_SH_4 ?_
      refine jm_topI (y := h4 4 4) rfl ?_
      exact jm_ireturn jd_Top_read_64 rfl (by decide) ⟨rfl, _, rfl, H⟩
    · replace H := H.2 hc3
      refine jm_bipush jd_Top_read_27 jb_m4 ?_
      exact jm_ireturn jd_Top_read_29 rfl (by decide) ⟨rfl, _, rfl, H⟩
  · replace H := H.2 hc2
    refine jm_bipush jd_Top_read_12 jb_m5 ?_
    exact jm_ireturn jd_Top_read_14 rfl (by decide) ⟨rfl, _, rfl, H⟩
set_option maxRecDepth 4000 in
theorem jb_Top_node {E : jm_Env} {x1 x2 : Int} {h : jm_H} {K : Int → jm_H → Prop} (H : jm_CI E jm_SH jm_m_Tree_has 0 [jm_R 4, jm_I x1] h (fun v1 h1 => ((¬ v1 = 0) → (x2 = 0 → (0 ≤ x1 ∧ x1 < 30) ∧ (K (h1 5 (Int.toNat x1)) h1)) ∧ ((x2 = 1 → (0 ≤ x1 ∧ x1 < 30) ∧ (K (h1 6 (Int.toNat x1)) h1)) ∧ ((x2 = 2 → (0 ≤ x1 ∧ x1 < 30) ∧ (jm_CI E jm_SH jm_m_Pad_partsOf 0 [jm_I (h1 5 (Int.toNat x1))] h1 (fun v9 h9 => K v9 h9))) ∧ ((x2 = 3 → (0 ≤ x1 ∧ x1 < 30) ∧ (K (h1 7 (Int.toNat x1)) h1)) ∧ ((x2 = 4 → (0 ≤ x1 ∧ x1 < 30) ∧ (K (h1 8 (Int.toNat x1)) h1)) ∧ (((¬ x2 = 0 ∧ ¬ x2 = 1 ∧ ¬ x2 = 2 ∧ ¬ x2 = 3 ∧ ¬ x2 = 4) → K (-2) h1))))))) ∧ ((v1 = 0) → K (-1) h1))) : jm_CI E jm_SH jm_m_Top_node 1 [jm_R 0, jm_I x1, jm_I x2] h K := by
  refine jm_body (ls0 := [some (jm_R 0), some (jm_I x1), some (jm_I x2)]) (by decide +kernel) rfl rfl (Nat.le_of_ble_eq_true rfl) ?_
  refine jm_aload_n jd_Top_node_0 rfl rfl ?_
  refine jm_gR jd_Top_node_1 jf_Top_19 jm_SH_0 rfl ?_
  refine jm_iload_n jd_Top_node_4 rfl rfl ?_
  refine jm_cV (M' := jm_m_Tree_has) (d' := 0) (av := [jm_I x1]) jd_Top_node_5 jk_Tree_has jw_470 rfl (by omega) ⟨rfl, rfl⟩ (by decide) (Nat.le_of_ble_eq_true rfl) jm_SH_4 rfl rfl (jm_hqI (fun v1 h1 H => ?_)) H
  refine jm_if_ne (tgt := 13) jd_Top_node_8 rfl (fun hc2 => ?_) (fun hc2 => ?_)
  · replace H := H.1 hc2
    refine jm_iload_n jd_Top_node_13 rfl rfl ?_
    by_cases hc3 : x2 = 0
    · replace H := H.1 hc3
      refine jm_tableIn (tgt := 48) jd_Top_node_14 (by omega) (by omega) (by first | (rw [hc3]; rfl) | rw [hc3]) rfl ?_
      refine jm_aload_n jd_Top_node_48 rfl rfl ?_
      refine jm_gR jd_Top_node_49 jf_Top_19 jm_SH_0 rfl ?_
      refine jm_gR jd_Top_node_52 jf_Top_102 jm_SH_4 rfl ?_
      refine jm_iload_n jd_Top_node_55 rfl rfl ?_
      obtain ⟨hb4, H⟩ := H
      refine jm_iaload jd_Top_node_56 jm_SH_5 hb4 ?_
      exact jm_ireturn jd_Top_node_57 rfl (by decide) ⟨rfl, _, rfl, H⟩
    · replace H := H.2
      by_cases hc5 : x2 = 1
      · replace H := H.1 hc5
        refine jm_tableIn (tgt := 58) jd_Top_node_14 (by omega) (by omega) (by first | (rw [hc5]; rfl) | rw [hc5]) rfl ?_
        refine jm_aload_n jd_Top_node_58 rfl rfl ?_
        refine jm_gR jd_Top_node_59 jf_Top_19 jm_SH_0 rfl ?_
        refine jm_gR jd_Top_node_62 jf_Top_106 jm_SH_4 rfl ?_
        refine jm_iload_n jd_Top_node_65 rfl rfl ?_
        obtain ⟨hb6, H⟩ := H
        refine jm_iaload jd_Top_node_66 jm_SH_6 hb6 ?_
        exact jm_ireturn jd_Top_node_67 rfl (by decide) ⟨rfl, _, rfl, H⟩
      · replace H := H.2
        by_cases hc7 : x2 = 2
        · replace H := H.1 hc7
          refine jm_tableIn (tgt := 68) jd_Top_node_14 (by omega) (by omega) (by first | (rw [hc7]; rfl) | rw [hc7]) rfl ?_
          refine jm_aload_n jd_Top_node_68 rfl rfl ?_
          refine jm_gR jd_Top_node_69 jf_Top_19 jm_SH_0 rfl ?_
          refine jm_gR jd_Top_node_72 jf_Top_102 jm_SH_4 rfl ?_
          refine jm_iload_n jd_Top_node_75 rfl rfl ?_
          obtain ⟨hb8, H⟩ := H
          refine jm_iaload jd_Top_node_76 jm_SH_5 hb8 ?_
          refine jm_cS (M' := jm_m_Pad_partsOf) (d' := 0) (av := [jm_I (h1 5 (Int.toNat x1))]) jd_Top_node_77 jk_Pad_partsOf jw_474 rfl (by omega) ⟨rfl, rfl⟩ (by decide) (Nat.le_of_ble_eq_true rfl) (jm_hqI (fun v9 h9 H => ?_)) H
          exact jm_ireturn jd_Top_node_80 rfl (by decide) ⟨rfl, _, rfl, H⟩
        · replace H := H.2
          by_cases hc10 : x2 = 3
          · replace H := H.1 hc10
            refine jm_tableIn (tgt := 81) jd_Top_node_14 (by omega) (by omega) (by first | (rw [hc10]; rfl) | rw [hc10]) rfl ?_
            refine jm_aload_n jd_Top_node_81 rfl rfl ?_
            refine jm_gR jd_Top_node_82 jf_Top_19 jm_SH_0 rfl ?_
            refine jm_gR jd_Top_node_85 jf_Top_113 jm_SH_4 rfl ?_
            refine jm_iload_n jd_Top_node_88 rfl rfl ?_
            obtain ⟨hb11, H⟩ := H
            refine jm_iaload jd_Top_node_89 jm_SH_7 hb11 ?_
            exact jm_ireturn jd_Top_node_90 rfl (by decide) ⟨rfl, _, rfl, H⟩
          · replace H := H.2
            by_cases hc12 : x2 = 4
            · replace H := H.1 hc12
              refine jm_tableIn (tgt := 91) jd_Top_node_14 (by omega) (by omega) (by first | (rw [hc12]; rfl) | rw [hc12]) rfl ?_
              refine jm_aload_n jd_Top_node_91 rfl rfl ?_
              refine jm_gR jd_Top_node_92 jf_Top_19 jm_SH_0 rfl ?_
              refine jm_gR jd_Top_node_95 jf_Top_116 jm_SH_4 rfl ?_
              refine jm_iload_n jd_Top_node_98 rfl rfl ?_
              obtain ⟨hb13, H⟩ := H
              refine jm_iaload jd_Top_node_99 jm_SH_8 hb13 ?_
              exact jm_ireturn jd_Top_node_100 rfl (by decide) ⟨rfl, _, rfl, H⟩
            · replace H := H.2
              replace H := H ⟨hc3, hc5, hc7, hc10, hc12⟩
              refine jm_tableOut (tgt := 101) jd_Top_node_14 (by omega) rfl ?_
              refine jm_bipush jd_Top_node_101 jb_m2 ?_
              exact jm_ireturn jd_Top_node_103 rfl (by decide) ⟨rfl, _, rfl, H⟩
  · replace H := H.2 hc2
    refine jm_iconst jd_Top_node_11 (jm_o32c rfl) ?_
    exact jm_ireturn jd_Top_node_12 rfl (by decide) ⟨rfl, _, rfl, H⟩
set_option maxRecDepth 4000 in
theorem jb_Top_pattern {E : jm_Env} {x1 x2 : Int} {h : jm_H} {K : Int → jm_H → Prop} (H : jm_CI E jm_SH jm_m_Top_isHead 0 [jm_I x1] h (fun v1 h1 => ((v1 = 0) → K (-2) h1) ∧ ((¬ v1 = 0) → jm_CI E jm_SH jm_m_Top_isPrice 0 [jm_I x2] h1 (fun v3 h3 => ((¬ v3 = 0) → ((h3 9 4 < 16) → jm_CI E jm_SH jm_m_Patterns_allows 4 [jm_R 9, jm_R 1, jm_I x1] h3 (fun v6 h6 => ((¬ v6 = 0) → jm_CV E jm_SH jm_m_Patterns_take 1 [jm_R 9, jm_R 1, jm_I x1, jm_I x2] h6 (fun h8 => K (jm_w32 ((h8 9 4) - 1)) (jm_up (jm_up h8 30 9 1) 1 2 0))) ∧ ((v6 = 0) → K (-5) h6))) ∧ ((¬ h3 9 4 < 16) → K (-4) h3)) ∧ ((v3 = 0) → K (-2) h3))))) : jm_CI E jm_SH jm_m_Top_pattern 5 [jm_R 0, jm_I x1, jm_I x2] h K := by
  refine jm_body (ls0 := [some (jm_R 0), some (jm_I x1), some (jm_I x2)]) (by decide +kernel) rfl rfl (Nat.le_of_ble_eq_true rfl) ?_
  refine jm_iload_n jd_Top_pattern_0 rfl rfl ?_
  refine jm_cS (M' := jm_m_Top_isHead) (d' := 0) (av := [jm_I x1]) jd_Top_pattern_1 jk_Top_isHead jw_479 rfl (by omega) ⟨rfl, rfl⟩ (by decide) (Nat.le_of_ble_eq_true rfl) (jm_hqI (fun v1 h1 H => ?_)) H
  refine jm_if_eq (tgt := 14) jd_Top_pattern_4 rfl (fun hc2 => ?_) (fun hc2 => ?_)
  · replace H := H.1 hc2
    refine jm_bipush jd_Top_pattern_14 jb_m2 ?_
    exact jm_ireturn jd_Top_pattern_16 rfl (by decide) ⟨rfl, _, rfl, H⟩
  · replace H := H.2 hc2
    refine jm_iload_n jd_Top_pattern_7 rfl rfl ?_
    refine jm_cS (M' := jm_m_Top_isPrice) (d' := 0) (av := [jm_I x2]) jd_Top_pattern_8 jk_Top_isPrice jw_482 rfl (by omega) ⟨rfl, rfl⟩ (by decide) (Nat.le_of_ble_eq_true rfl) (jm_hqI (fun v3 h3 H => ?_)) H
    refine jm_if_ne (tgt := 17) jd_Top_pattern_11 rfl (fun hc4 => ?_) (fun hc4 => ?_)
    · replace H := H.1 hc4
      refine jm_aload_n jd_Top_pattern_17 rfl rfl ?_
      refine jm_gR jd_Top_pattern_18 jf_Top_26 jm_SH_0 rfl ?_
      refine jm_gI jd_Top_pattern_21 jf_Top_125 jm_SH_9 ?_
      refine jm_bipush jd_Top_pattern_24 jb_16 ?_
      refine jm_icmp_lt (tgt := 32) jd_Top_pattern_26 rfl (fun hc5 => ?_) (fun hc5 => ?_)
      · replace H := H.1 hc5
        refine jm_aload_n jd_Top_pattern_32 rfl rfl ?_
        refine jm_gR jd_Top_pattern_33 jf_Top_26 jm_SH_0 rfl ?_
        refine jm_aload_n jd_Top_pattern_36 rfl rfl ?_
        refine jm_gR jd_Top_pattern_37 jf_Top_10 jm_SH_0 rfl ?_
        refine jm_iload_n jd_Top_pattern_40 rfl rfl ?_
        refine jm_cV (M' := jm_m_Patterns_allows) (d' := 4) (av := [jm_R 1, jm_I x1]) jd_Top_pattern_41 jk_Patterns_allows jw_485 rfl (by omega) ⟨rfl, rfl⟩ (by decide) (Nat.le_of_ble_eq_true rfl) jm_SH_9 rfl rfl (jm_hqI (fun v6 h6 H => ?_)) H
        refine jm_if_ne (tgt := 50) jd_Top_pattern_44 rfl (fun hc7 => ?_) (fun hc7 => ?_)
        · replace H := H.1 hc7
          refine jm_aload_n jd_Top_pattern_50 rfl rfl ?_
          refine jm_gR jd_Top_pattern_51 jf_Top_26 jm_SH_0 rfl ?_
          refine jm_aload_n jd_Top_pattern_54 rfl rfl ?_
          refine jm_gR jd_Top_pattern_55 jf_Top_10 jm_SH_0 rfl ?_
          refine jm_iload_n jd_Top_pattern_58 rfl rfl ?_
          refine jm_iload_n jd_Top_pattern_59 rfl rfl ?_
          refine jm_cV (M' := jm_m_Patterns_take) (d' := 1) (av := [jm_R 1, jm_I x1, jm_I x2]) jd_Top_pattern_60 jk_Patterns_take jw_494 rfl (by omega) ⟨rfl, rfl⟩ (by decide) (Nat.le_of_ble_eq_true rfl) jm_SH_9 rfl rfl (jm_hqV (fun h8 H => ?_)) H
          refine jm_aload_n jd_Top_pattern_63 rfl rfl ?_
          refine jm_gR jd_Top_pattern_64 jf_Top_35 jm_SH_0 rfl ?_
          refine jm_iconst jd_Top_pattern_67 (jm_o32c rfl) ?_
          refine jm_sZ jd_Top_pattern_68 jp_Top_94 (Or.inr rfl) jm_SH_30 ?_
          refine jm_aload_n jd_Top_pattern_71 rfl rfl ?_
          refine jm_gR jd_Top_pattern_72 jf_Top_10 jm_SH_0 rfl ?_
          refine jm_iconst jd_Top_pattern_75 (jm_o32c rfl) ?_
          refine jm_sI jd_Top_pattern_76 jp_Top_82 jm_SH_1 ?_
          refine jm_aload_n jd_Top_pattern_79 rfl rfl ?_
          refine jm_gR jd_Top_pattern_80 jf_Top_26 jm_SH_0 rfl ?_
          refine jm_gI jd_Top_pattern_83 jf_Top_125 jm_SH_9 ?_
          refine jm_topI (y := h8 9 4) rfl ?_
          refine jm_iconst jd_Top_pattern_86 (jm_o32c rfl) ?_
          refine jm_isub jd_Top_pattern_87 ?_
          exact jm_ireturn jd_Top_pattern_88 rfl (by decide) ⟨rfl, _, rfl, H⟩
        · replace H := H.2 hc7
          refine jm_bipush jd_Top_pattern_47 jb_m5 ?_
          exact jm_ireturn jd_Top_pattern_49 rfl (by decide) ⟨rfl, _, rfl, H⟩
      · replace H := H.2 hc5
        refine jm_bipush jd_Top_pattern_29 jb_m4 ?_
        exact jm_ireturn jd_Top_pattern_31 rfl (by decide) ⟨rfl, _, rfl, H⟩
    · replace H := H.2 hc4
      refine jm_bipush jd_Top_pattern_14 jb_m2 ?_
      exact jm_ireturn jd_Top_pattern_16 rfl (by decide) ⟨rfl, _, rfl, H⟩
set_option maxRecDepth 4000 in
theorem jb_Top_price {E : jm_Env} {x1 x2 : Int} {h : jm_H} {K : Int → jm_H → Prop} (H : ((x1 < 0) → K (-1) h) ∧ ((¬ x1 < 0) → ((x1 < h 9 4) → jm_CI E jm_SH jm_m_Top_isPrice 0 [jm_I x2] h (fun v3 h3 => ((¬ v3 = 0) → (0 ≤ x1 ∧ x1 < 16) ∧ ((0 ≤ x1 ∧ x1 < 16) ∧ (K (h3 11 (Int.toNat x1)) (jm_up (jm_up h3 11 (Int.toNat x1) x2) 30 9 1)))) ∧ ((v3 = 0) → K (-2) h3))) ∧ ((¬ x1 < h 9 4) → K (-1) h))) : jm_CI E jm_SH jm_m_Top_price 1 [jm_R 0, jm_I x1, jm_I x2] h K := by
  refine jm_body (ls0 := [some (jm_R 0), some (jm_I x1), some (jm_I x2), none]) (by decide +kernel) rfl rfl (Nat.le_of_ble_eq_true rfl) ?_
  refine jm_iload_n jd_Top_price_0 rfl rfl ?_
  refine jm_if_lt (tgt := 15) jd_Top_price_1 rfl (fun hc1 => ?_) (fun hc1 => ?_)
  · replace H := H.1 hc1
    refine jm_iconst jd_Top_price_15 (jm_o32c rfl) ?_
    exact jm_ireturn jd_Top_price_16 rfl (by decide) ⟨rfl, _, rfl, H⟩
  · replace H := H.2 hc1
    refine jm_iload_n jd_Top_price_4 rfl rfl ?_
    refine jm_aload_n jd_Top_price_5 rfl rfl ?_
    refine jm_gR jd_Top_price_6 jf_Top_26 jm_SH_0 rfl ?_
    refine jm_gI jd_Top_price_9 jf_Top_125 jm_SH_9 ?_
    refine jm_icmp_lt (tgt := 17) jd_Top_price_12 rfl (fun hc2 => ?_) (fun hc2 => ?_)
    · replace H := H.1 hc2
      refine jm_iload_n jd_Top_price_17 rfl rfl ?_
      refine jm_cS (M' := jm_m_Top_isPrice) (d' := 0) (av := [jm_I x2]) jd_Top_price_18 jk_Top_isPrice jw_482 rfl (by omega) ⟨rfl, rfl⟩ (by decide) (Nat.le_of_ble_eq_true rfl) (jm_hqI (fun v3 h3 H => ?_)) H
      refine jm_if_ne (tgt := 27) jd_Top_price_21 rfl (fun hc4 => ?_) (fun hc4 => ?_)
      · replace H := H.1 hc4
        refine jm_aload_n jd_Top_price_27 rfl rfl ?_
        refine jm_gR jd_Top_price_28 jf_Top_26 jm_SH_0 rfl ?_
        refine jm_gR jd_Top_price_31 jf_Top_133 jm_SH_9 rfl ?_
        refine jm_iload_n jd_Top_price_34 rfl rfl ?_
        obtain ⟨hb5, H⟩ := H
        refine jm_iaload jd_Top_price_35 jm_SH_11 hb5 ?_
        refine jm_istore_n (i := 3) jd_Top_price_36 rfl (by decide) (ls2 := [some (jm_R 0), some (jm_I x1), some (jm_I x2), some (jm_I (h3 11 (Int.toNat x1)))]) rfl ?_
        refine jm_aload_n jd_Top_price_37 rfl rfl ?_
        refine jm_gR jd_Top_price_38 jf_Top_26 jm_SH_0 rfl ?_
        refine jm_gR jd_Top_price_41 jf_Top_133 jm_SH_9 rfl ?_
        refine jm_iload_n jd_Top_price_44 rfl rfl ?_
        refine jm_iload_n jd_Top_price_45 rfl rfl ?_
        obtain ⟨hb6, H⟩ := H
        refine jm_iastore jd_Top_price_46 jm_SH_11 hb6 ?_
        refine jm_aload_n jd_Top_price_47 rfl rfl ?_
        refine jm_gR jd_Top_price_48 jf_Top_35 jm_SH_0 rfl ?_
        refine jm_iconst jd_Top_price_51 (jm_o32c rfl) ?_
        refine jm_sZ jd_Top_price_52 jp_Top_94 (Or.inr rfl) jm_SH_30 ?_
        refine jm_iload_n jd_Top_price_55 rfl rfl ?_
        exact jm_ireturn jd_Top_price_56 rfl (by decide) ⟨rfl, _, rfl, H⟩
      · replace H := H.2 hc4
        refine jm_bipush jd_Top_price_24 jb_m2 ?_
        exact jm_ireturn jd_Top_price_26 rfl (by decide) ⟨rfl, _, rfl, H⟩
    · replace H := H.2 hc2
      refine jm_iconst jd_Top_price_15 (jm_o32c rfl) ?_
      exact jm_ireturn jd_Top_price_16 rfl (by decide) ⟨rfl, _, rfl, H⟩
set_option maxRecDepth 4000 in
theorem jb_Top_clear {E : jm_Env} {h : jm_H} {K : Int → jm_H → Prop} (H : K (h 9 4) (jm_up (jm_up h 9 4 0) 30 9 1)) : jm_CI E jm_SH jm_m_Top_clear 0 [jm_R 0] h K := by
  refine jm_body (ls0 := [some (jm_R 0), none]) (by decide +kernel) rfl rfl (Nat.le_of_ble_eq_true rfl) ?_
  refine jm_aload_n jd_Top_clear_0 rfl rfl ?_
  refine jm_gR jd_Top_clear_1 jf_Top_26 jm_SH_0 rfl ?_
  refine jm_gI jd_Top_clear_4 jf_Top_125 jm_SH_9 ?_
  refine jm_istore_n (i := 1) jd_Top_clear_7 rfl (by decide) (ls2 := [some (jm_R 0), some (jm_I (h 9 4))]) rfl ?_
  refine jm_aload_n jd_Top_clear_8 rfl rfl ?_
  refine jm_gR jd_Top_clear_9 jf_Top_26 jm_SH_0 rfl ?_
  refine jm_iconst jd_Top_clear_12 (jm_o32c rfl) ?_
  refine jm_sI jd_Top_clear_13 jp_Top_125 jm_SH_9 ?_
  refine jm_aload_n jd_Top_clear_16 rfl rfl ?_
  refine jm_gR jd_Top_clear_17 jf_Top_35 jm_SH_0 rfl ?_
  refine jm_iconst jd_Top_clear_20 (jm_o32c rfl) ?_
  refine jm_sZ jd_Top_clear_21 jp_Top_94 (Or.inr rfl) jm_SH_30 ?_
  refine jm_iload_n jd_Top_clear_24 rfl rfl ?_
  exact jm_ireturn jd_Top_clear_25 rfl (by decide) ⟨rfl, _, rfl, H⟩
set_option maxRecDepth 4000 in
theorem jb_Top_cover {E : jm_Env} {x1 x2 x3 : Int} {h : jm_H} {K : Int → jm_H → Prop} (H : jm_CI E jm_SH jm_m_Tree_has 0 [jm_R 4, jm_I x1] h (fun v1 h1 => ((¬ v1 = 0) → jm_CI E jm_SH jm_m_Top_isHead 0 [jm_I x2] h1 (fun v3 h3 => ((v3 = 0) → K (-2) h3) ∧ ((¬ v3 = 0) → jm_CI E jm_SH jm_m_Top_isBit 0 [jm_I x3] h3 (fun v5 h5 => ((¬ v5 = 0) → jm_CV E jm_SH jm_m_Covering_refresh 33 [jm_R 30] h5 (fun h7 => jm_CI E jm_SH jm_m_Covering_at 0 [jm_I x1, jm_I x2] h7 (fun v8 h8 => (0 ≤ v8 ∧ v8 < 60) ∧ (((0 ≤ h8 34 (Int.toNat v8)) → ((¬ x3 = 0) → (0 ≤ v8 ∧ v8 < 60) ∧ (K (h8 34 (Int.toNat v8)) h8)) ∧ ((x3 = 0) → (0 ≤ v8 ∧ v8 < 60) ∧ (K (h8 33 (Int.toNat v8)) h8))) ∧ ((¬ 0 ≤ h8 34 (Int.toNat v8)) → K (-6) h8))))) ∧ ((v5 = 0) → K (-2) h5))))) ∧ ((v1 = 0) → K (-1) h1))) : jm_CI E jm_SH jm_m_Top_cover 34 [jm_R 0, jm_I x1, jm_I x2, jm_I x3] h K := by
  refine jm_body (ls0 := [some (jm_R 0), some (jm_I x1), some (jm_I x2), some (jm_I x3), none]) (by decide +kernel) rfl rfl (Nat.le_of_ble_eq_true rfl) ?_
  refine jm_aload_n jd_Top_cover_0 rfl rfl ?_
  refine jm_gR jd_Top_cover_1 jf_Top_19 jm_SH_0 rfl ?_
  refine jm_iload_n jd_Top_cover_4 rfl rfl ?_
  refine jm_cV (M' := jm_m_Tree_has) (d' := 0) (av := [jm_I x1]) jd_Top_cover_5 jk_Tree_has jw_470 rfl (by omega) ⟨rfl, rfl⟩ (by decide) (Nat.le_of_ble_eq_true rfl) jm_SH_4 rfl rfl (jm_hqI (fun v1 h1 H => ?_)) H
  refine jm_if_ne (tgt := 13) jd_Top_cover_8 rfl (fun hc2 => ?_) (fun hc2 => ?_)
  · replace H := H.1 hc2
    refine jm_iload_n jd_Top_cover_13 rfl rfl ?_
    refine jm_cS (M' := jm_m_Top_isHead) (d' := 0) (av := [jm_I x2]) jd_Top_cover_14 jk_Top_isHead jw_479 rfl (by omega) ⟨rfl, rfl⟩ (by decide) (Nat.le_of_ble_eq_true rfl) (jm_hqI (fun v3 h3 H => ?_)) H
    refine jm_if_eq (tgt := 27) jd_Top_cover_17 rfl (fun hc4 => ?_) (fun hc4 => ?_)
    · replace H := H.1 hc4
      refine jm_bipush jd_Top_cover_27 jb_m2 ?_
      exact jm_ireturn jd_Top_cover_29 rfl (by decide) ⟨rfl, _, rfl, H⟩
    · replace H := H.2 hc4
      refine jm_iload_n jd_Top_cover_20 rfl rfl ?_
      refine jm_cS (M' := jm_m_Top_isBit) (d' := 0) (av := [jm_I x3]) jd_Top_cover_21 jk_Top_isBit jw_511 rfl (by omega) ⟨rfl, rfl⟩ (by decide) (Nat.le_of_ble_eq_true rfl) (jm_hqI (fun v5 h5 H => ?_)) H
      refine jm_if_ne (tgt := 30) jd_Top_cover_24 rfl (fun hc6 => ?_) (fun hc6 => ?_)
      · replace H := H.1 hc6
        refine jm_aload_n jd_Top_cover_30 rfl rfl ?_
        refine jm_gR jd_Top_cover_31 jf_Top_35 jm_SH_0 rfl ?_
        refine jm_cV (M' := jm_m_Covering_refresh) (d' := 33) (av := []) jd_Top_cover_34 jk_Covering_refresh jw_514 rfl (by omega) ⟨rfl, rfl⟩ (by decide) (Nat.le_of_ble_eq_true rfl) jm_SH_30 rfl rfl (jm_hqV (fun h7 H => ?_)) H
        refine jm_iload_n jd_Top_cover_37 rfl rfl ?_
        refine jm_iload_n jd_Top_cover_38 rfl rfl ?_
        refine jm_cS (M' := jm_m_Covering_at) (d' := 0) (av := [jm_I x1, jm_I x2]) jd_Top_cover_39 jk_Covering_at jw_557 rfl (by omega) ⟨rfl, rfl⟩ (by decide) (Nat.le_of_ble_eq_true rfl) (jm_hqI (fun v8 h8 H => ?_)) H
        refine jm_istore (i := 4) jd_Top_cover_42 (by decide) (ls2 := [some (jm_R 0), some (jm_I x1), some (jm_I x2), some (jm_I x3), some (jm_I v8)]) rfl ?_
        refine jm_aload_n jd_Top_cover_44 rfl rfl ?_
        refine jm_gR jd_Top_cover_45 jf_Top_35 jm_SH_0 rfl ?_
        refine jm_gR jd_Top_cover_48 jf_Top_146 jm_SH_30 rfl ?_
        refine jm_iload jd_Top_cover_51 rfl ?_
        obtain ⟨hb9, H⟩ := H
        refine jm_iaload jd_Top_cover_53 jm_SH_34 hb9 ?_
        refine jm_if_ge (tgt := 60) jd_Top_cover_54 rfl (fun hc10 => ?_) (fun hc10 => ?_)
        · replace H := H.1 hc10
          refine jm_iload_n jd_Top_cover_60 rfl rfl ?_
          refine jm_if_ne (tgt := 77) jd_Top_cover_61 rfl (fun hc11 => ?_) (fun hc11 => ?_)
          · replace H := H.1 hc11
            refine jm_aload_n jd_Top_cover_77 rfl rfl ?_
            refine jm_gR jd_Top_cover_78 jf_Top_35 jm_SH_0 rfl ?_
            refine jm_gR jd_Top_cover_81 jf_Top_146 jm_SH_30 rfl ?_
            refine jm_iload jd_Top_cover_84 rfl ?_
            obtain ⟨hb12, H⟩ := H
            refine jm_iaload jd_Top_cover_86 jm_SH_34 hb12 ?_
            exact jm_ireturn jd_Top_cover_87 rfl (by decide) ⟨rfl, _, rfl, H⟩
          · replace H := H.2 hc11
            refine jm_aload_n jd_Top_cover_64 rfl rfl ?_
            refine jm_gR jd_Top_cover_65 jf_Top_35 jm_SH_0 rfl ?_
            refine jm_gR jd_Top_cover_68 jf_Top_149 jm_SH_30 rfl ?_
            refine jm_iload jd_Top_cover_71 rfl ?_
            obtain ⟨hb13, H⟩ := H
            refine jm_iaload jd_Top_cover_73 jm_SH_33 hb13 ?_
            refine jm_goto (tgt := 87) jd_Top_cover_74 rfl ?_
            exact jm_ireturn jd_Top_cover_87 rfl (by decide) ⟨rfl, _, rfl, H⟩
        · replace H := H.2 hc10
          refine jm_bipush jd_Top_cover_57 jb_m6 ?_
          exact jm_ireturn jd_Top_cover_59 rfl (by decide) ⟨rfl, _, rfl, H⟩
      · replace H := H.2 hc6
        refine jm_bipush jd_Top_cover_27 jb_m2 ?_
        exact jm_ireturn jd_Top_cover_29 rfl (by decide) ⟨rfl, _, rfl, H⟩
  · replace H := H.2 hc2
    refine jm_iconst jd_Top_cover_11 (jm_o32c rfl) ?_
    exact jm_ireturn jd_Top_cover_12 rfl (by decide) ⟨rfl, _, rfl, H⟩
set_option maxRecDepth 4000 in
theorem jb_Top_code {E : jm_Env} {x1 x2 : Int} {h : jm_H} {K : Int → jm_H → Prop} (H : jm_CI E jm_SH jm_m_Top_isBit 0 [jm_I x2] h (fun v1 h1 => ((¬ v1 = 0) → ((¬ h1 4 4 = 0) → jm_CV E jm_SH jm_m_Covering_refresh 33 [jm_R 30] h1 (fun h4 => ((¬ h4 30 8 = 0) → ((¬ x1 = -1) → ((x1 < 0) → K (-6) h4) ∧ ((¬ x1 < 0) → ((x1 < h4 30 8) → ((¬ x2 = 0) → (0 ≤ x1 ∧ x1 < 60) ∧ (K (h4 36 (Int.toNat x1)) h4)) ∧ ((x2 = 0) → (0 ≤ x1 ∧ x1 < 60) ∧ (K (h4 35 (Int.toNat x1)) h4))) ∧ ((¬ x1 < h4 30 8) → K (-6) h4))) ∧ ((x1 = -1) → K (h4 30 8) h4)) ∧ ((h4 30 8 = 0) → K (-5) h4))) ∧ ((h1 4 4 = 0) → K (-3) h1)) ∧ ((v1 = 0) → K (-2) h1))) : jm_CI E jm_SH jm_m_Top_code 34 [jm_R 0, jm_I x1, jm_I x2] h K := by
  refine jm_body (ls0 := [some (jm_R 0), some (jm_I x1), some (jm_I x2)]) (by decide +kernel) rfl rfl (Nat.le_of_ble_eq_true rfl) ?_
  refine jm_iload_n jd_Top_code_0 rfl rfl ?_
  refine jm_cS (M' := jm_m_Top_isBit) (d' := 0) (av := [jm_I x2]) jd_Top_code_1 jk_Top_isBit jw_511 rfl (by omega) ⟨rfl, rfl⟩ (by decide) (Nat.le_of_ble_eq_true rfl) (jm_hqI (fun v1 h1 H => ?_)) H
  refine jm_if_ne (tgt := 10) jd_Top_code_4 rfl (fun hc2 => ?_) (fun hc2 => ?_)
  · replace H := H.1 hc2
    refine jm_aload_n jd_Top_code_10 rfl rfl ?_
    refine jm_gR jd_Top_code_11 jf_Top_19 jm_SH_0 rfl ?_
    refine jm_gI jd_Top_code_14 jf_Top_98 jm_SH_4 ?_
    refine jm_if_ne (tgt := 23) jd_Top_code_17 rfl (fun hc3 => ?_) (fun hc3 => ?_)
    · replace H := H.1 hc3
      refine jm_aload_n jd_Top_code_23 rfl rfl ?_
      refine jm_gR jd_Top_code_24 jf_Top_35 jm_SH_0 rfl ?_
      refine jm_cV (M' := jm_m_Covering_refresh) (d' := 33) (av := []) jd_Top_code_27 jk_Covering_refresh jw_514 rfl (by omega) ⟨rfl, rfl⟩ (by decide) (Nat.le_of_ble_eq_true rfl) jm_SH_30 rfl rfl (jm_hqV (fun h4 H => ?_)) H
      refine jm_aload_n jd_Top_code_30 rfl rfl ?_
      refine jm_gR jd_Top_code_31 jf_Top_35 jm_SH_0 rfl ?_
      refine jm_gI jd_Top_code_34 jf_Top_152 jm_SH_30 ?_
      refine jm_if_ne (tgt := 43) jd_Top_code_37 rfl (fun hc5 => ?_) (fun hc5 => ?_)
      · replace H := H.1 hc5
        refine jm_iload_n jd_Top_code_43 rfl rfl ?_
        refine jm_iconst jd_Top_code_44 (jm_o32c rfl) ?_
        refine jm_icmp_ne (tgt := 56) jd_Top_code_45 rfl (fun hc6 => ?_) (fun hc6 => ?_)
        · replace H := H.1 hc6
          refine jm_iload_n jd_Top_code_56 rfl rfl ?_
          refine jm_if_lt (tgt := 71) jd_Top_code_57 rfl (fun hc7 => ?_) (fun hc7 => ?_)
          · replace H := H.1 hc7
            refine jm_bipush jd_Top_code_71 jb_m6 ?_
            exact jm_ireturn jd_Top_code_73 rfl (by decide) ⟨rfl, _, rfl, H⟩
          · replace H := H.2 hc7
            refine jm_iload_n jd_Top_code_60 rfl rfl ?_
            refine jm_aload_n jd_Top_code_61 rfl rfl ?_
            refine jm_gR jd_Top_code_62 jf_Top_35 jm_SH_0 rfl ?_
            refine jm_gI jd_Top_code_65 jf_Top_152 jm_SH_30 ?_
            refine jm_icmp_lt (tgt := 74) jd_Top_code_68 rfl (fun hc8 => ?_) (fun hc8 => ?_)
            · replace H := H.1 hc8
              refine jm_iload_n jd_Top_code_74 rfl rfl ?_
              refine jm_if_ne (tgt := 90) jd_Top_code_75 rfl (fun hc9 => ?_) (fun hc9 => ?_)
              · replace H := H.1 hc9
                refine jm_aload_n jd_Top_code_90 rfl rfl ?_
                refine jm_gR jd_Top_code_91 jf_Top_35 jm_SH_0 rfl ?_
                refine jm_gR jd_Top_code_94 jf_Top_158 jm_SH_30 rfl ?_
                refine jm_iload_n jd_Top_code_97 rfl rfl ?_
                obtain ⟨hb10, H⟩ := H
                refine jm_iaload jd_Top_code_98 jm_SH_36 hb10 ?_
                exact jm_ireturn jd_Top_code_99 rfl (by decide) ⟨rfl, _, rfl, H⟩
              · replace H := H.2 hc9
                refine jm_aload_n jd_Top_code_78 rfl rfl ?_
                refine jm_gR jd_Top_code_79 jf_Top_35 jm_SH_0 rfl ?_
                refine jm_gR jd_Top_code_82 jf_Top_155 jm_SH_30 rfl ?_
                refine jm_iload_n jd_Top_code_85 rfl rfl ?_
                obtain ⟨hb11, H⟩ := H
                refine jm_iaload jd_Top_code_86 jm_SH_35 hb11 ?_
                refine jm_goto (tgt := 99) jd_Top_code_87 rfl ?_
                exact jm_ireturn jd_Top_code_99 rfl (by decide) ⟨rfl, _, rfl, H⟩
            · replace H := H.2 hc8
              refine jm_bipush jd_Top_code_71 jb_m6 ?_
              exact jm_ireturn jd_Top_code_73 rfl (by decide) ⟨rfl, _, rfl, H⟩
        · replace H := H.2 hc6
          refine jm_aload_n jd_Top_code_48 rfl rfl ?_
          refine jm_gR jd_Top_code_49 jf_Top_35 jm_SH_0 rfl ?_
          refine jm_gI jd_Top_code_52 jf_Top_152 jm_SH_30 ?_
          exact jm_ireturn jd_Top_code_55 rfl (by decide) ⟨rfl, _, rfl, H⟩
      · replace H := H.2 hc5
        refine jm_bipush jd_Top_code_40 jb_m5 ?_
        exact jm_ireturn jd_Top_code_42 rfl (by decide) ⟨rfl, _, rfl, H⟩
    · replace H := H.2 hc3
      refine jm_bipush jd_Top_code_20 jb_m3 ?_
      exact jm_ireturn jd_Top_code_22 rfl (by decide) ⟨rfl, _, rfl, H⟩
  · replace H := H.2 hc2
    refine jm_bipush jd_Top_code_7 jb_m2 ?_
    exact jm_ireturn jd_Top_code_9 rfl (by decide) ⟨rfl, _, rfl, H⟩
set_option maxRecDepth 4000 in
theorem jb_Top_stores {E : jm_Env} {x1 : Int} {h : jm_H} {K : Int → jm_H → Prop} (H : ((x1 < 2) → K (-2) h) ∧ ((¬ x1 < 2) → ((x1 ≤ 8) → ((¬ h 4 4 = 0) → jm_CI E jm_SH jm_m_Tree_storesWith 2 [jm_R 4, jm_I x1] h (fun v4 h4 => K v4 h4)) ∧ ((h 4 4 = 0) → K (-3) h)) ∧ ((¬ x1 ≤ 8) → K (-2) h))) : jm_CI E jm_SH jm_m_Top_stores 3 [jm_R 0, jm_I x1] h K := by
  refine jm_body (ls0 := [some (jm_R 0), some (jm_I x1)]) (by decide +kernel) rfl rfl (Nat.le_of_ble_eq_true rfl) ?_
  refine jm_iload_n jd_Top_stores_0 rfl rfl ?_
  refine jm_iconst jd_Top_stores_1 (jm_o32c rfl) ?_
  refine jm_icmp_lt (tgt := 11) jd_Top_stores_2 rfl (fun hc1 => ?_) (fun hc1 => ?_)
  · replace H := H.1 hc1
    refine jm_bipush jd_Top_stores_11 jb_m2 ?_
    exact jm_ireturn jd_Top_stores_13 rfl (by decide) ⟨rfl, _, rfl, H⟩
  · replace H := H.2 hc1
    refine jm_iload_n jd_Top_stores_5 rfl rfl ?_
    refine jm_bipush jd_Top_stores_6 jb_8 ?_
    refine jm_icmp_le (tgt := 14) jd_Top_stores_8 rfl (fun hc2 => ?_) (fun hc2 => ?_)
    · replace H := H.1 hc2
      refine jm_aload_n jd_Top_stores_14 rfl rfl ?_
      refine jm_gR jd_Top_stores_15 jf_Top_19 jm_SH_0 rfl ?_
      refine jm_gI jd_Top_stores_18 jf_Top_98 jm_SH_4 ?_
      refine jm_if_ne (tgt := 29) jd_Top_stores_21 rfl (fun hc3 => ?_) (fun hc3 => ?_)
      · replace H := H.1 hc3
        refine jm_aload_n jd_Top_stores_29 rfl rfl ?_
        refine jm_gR jd_Top_stores_30 jf_Top_19 jm_SH_0 rfl ?_
        refine jm_iload_n jd_Top_stores_33 rfl rfl ?_
        refine jm_cV (M' := jm_m_Tree_storesWith) (d' := 2) (av := [jm_I x1]) jd_Top_stores_34 jk_Tree_storesWith jw_566 rfl (by omega) ⟨rfl, rfl⟩ (by decide) (Nat.le_of_ble_eq_true rfl) jm_SH_4 rfl rfl (jm_hqI (fun v4 h4 H => ?_)) H
        exact jm_ireturn jd_Top_stores_37 rfl (by decide) ⟨rfl, _, rfl, H⟩
      · replace H := H.2 hc3
        refine jm_bipush jd_Top_stores_24 jb_m3 ?_
        refine jm_goto (tgt := 37) jd_Top_stores_26 rfl ?_
        exact jm_ireturn jd_Top_stores_37 rfl (by decide) ⟨rfl, _, rfl, H⟩
    · replace H := H.2 hc2
      refine jm_bipush jd_Top_stores_11 jb_m2 ?_
      exact jm_ireturn jd_Top_stores_13 rfl (by decide) ⟨rfl, _, rfl, H⟩
set_option maxRecDepth 4000 in
theorem jb_Top_add {E : jm_Env} {x1 x2 x3 x4 x5 : Int} {h : jm_H} {K : Int → jm_H → Prop} (H : jm_CI E jm_SH jm_m_Row_isOp 0 [jm_I x1] h (fun v1 h1 => ((v1 = 0) → K (-2) h1) ∧ ((¬ v1 = 0) → jm_CI E jm_SH jm_m_Row_isRegister 0 [jm_I x2] h1 (fun v3 h3 => ((v3 = 0) → K (-2) h3) ∧ ((¬ v3 = 0) → jm_CI E jm_SH jm_m_Row_isRegister 0 [jm_I x3] h3 (fun v5 h5 => ((v5 = 0) → K (-2) h5) ∧ ((¬ v5 = 0) → jm_CI E jm_SH jm_m_Row_isRegister 0 [jm_I x4] h5 (fun v7 h7 => ((¬ v7 = 0) → ((x5 < 1) → K (-2) h7) ∧ ((¬ x5 < 1) → ((5 < x5) → K (-2) h7) ∧ ((¬ 5 < x5) → jm_CI E jm_SH jm_m_Row_hasSecond 0 [jm_I x1] h7 (fun v11 h11 => ((¬ v11 = 0) → jm_BI E jm_SH jm_m_Top_add 1 59 [some (jm_R 0), some (jm_I x1), some (jm_I x2), some (jm_I x3), some (jm_I x4), some (jm_I x5)] [] h11 K) ∧ ((v11 = 0) → ((x4 = 0) → jm_BI E jm_SH jm_m_Top_add 1 59 [some (jm_R 0), some (jm_I x1), some (jm_I x2), some (jm_I x3), some (jm_I x4), some (jm_I x5)] [] h11 K) ∧ ((¬ x4 = 0) → K (-2) h11)))))) ∧ ((v7 = 0) → K (-2) h7))))))))) : jm_CI E jm_SH jm_m_Top_add 1 [jm_R 0, jm_I x1, jm_I x2, jm_I x3, jm_I x4, jm_I x5] h K := by
  refine jm_body (ls0 := [some (jm_R 0), some (jm_I x1), some (jm_I x2), some (jm_I x3), some (jm_I x4), some (jm_I x5)]) (by decide +kernel) rfl rfl (Nat.le_of_ble_eq_true rfl) ?_
  refine jm_iload_n jd_Top_add_0 rfl rfl ?_
  refine jm_cS (M' := jm_m_Row_isOp) (d' := 0) (av := [jm_I x1]) jd_Top_add_1 jk_Row_isOp jw_574 rfl (by omega) ⟨rfl, rfl⟩ (by decide) (Nat.le_of_ble_eq_true rfl) (jm_hqI (fun v1 h1 H => ?_)) H
  refine jm_if_eq (tgt := 29) jd_Top_add_4 rfl (fun hc2 => ?_) (fun hc2 => ?_)
  · replace H := H.1 hc2
    refine jm_bipush jd_Top_add_29 jb_m2 ?_
    exact jm_ireturn jd_Top_add_31 rfl (by decide) ⟨rfl, _, rfl, H⟩
  · replace H := H.2 hc2
    refine jm_iload_n jd_Top_add_7 rfl rfl ?_
    refine jm_cS (M' := jm_m_Row_isRegister) (d' := 0) (av := [jm_I x2]) jd_Top_add_8 jk_Row_isRegister jw_577 rfl (by omega) ⟨rfl, rfl⟩ (by decide) (Nat.le_of_ble_eq_true rfl) (jm_hqI (fun v3 h3 H => ?_)) H
    refine jm_if_eq (tgt := 29) jd_Top_add_11 rfl (fun hc4 => ?_) (fun hc4 => ?_)
    · replace H := H.1 hc4
      refine jm_bipush jd_Top_add_29 jb_m2 ?_
      exact jm_ireturn jd_Top_add_31 rfl (by decide) ⟨rfl, _, rfl, H⟩
    · replace H := H.2 hc4
      refine jm_iload_n jd_Top_add_14 rfl rfl ?_
      refine jm_cS (M' := jm_m_Row_isRegister) (d' := 0) (av := [jm_I x3]) jd_Top_add_15 jk_Row_isRegister jw_577 rfl (by omega) ⟨rfl, rfl⟩ (by decide) (Nat.le_of_ble_eq_true rfl) (jm_hqI (fun v5 h5 H => ?_)) H
      refine jm_if_eq (tgt := 29) jd_Top_add_18 rfl (fun hc6 => ?_) (fun hc6 => ?_)
      · replace H := H.1 hc6
        refine jm_bipush jd_Top_add_29 jb_m2 ?_
        exact jm_ireturn jd_Top_add_31 rfl (by decide) ⟨rfl, _, rfl, H⟩
      · replace H := H.2 hc6
        refine jm_iload jd_Top_add_21 rfl ?_
        refine jm_cS (M' := jm_m_Row_isRegister) (d' := 0) (av := [jm_I x4]) jd_Top_add_23 jk_Row_isRegister jw_577 rfl (by omega) ⟨rfl, rfl⟩ (by decide) (Nat.le_of_ble_eq_true rfl) (jm_hqI (fun v7 h7 H => ?_)) H
        refine jm_if_ne (tgt := 32) jd_Top_add_26 rfl (fun hc8 => ?_) (fun hc8 => ?_)
        · replace H := H.1 hc8
          refine jm_iload jd_Top_add_32 rfl ?_
          refine jm_iconst jd_Top_add_34 (jm_o32c rfl) ?_
          refine jm_icmp_lt (tgt := 56) jd_Top_add_35 rfl (fun hc9 => ?_) (fun hc9 => ?_)
          · replace H := H.1 hc9
            refine jm_bipush jd_Top_add_56 jb_m2 ?_
            exact jm_ireturn jd_Top_add_58 rfl (by decide) ⟨rfl, _, rfl, H⟩
          · replace H := H.2 hc9
            refine jm_iload jd_Top_add_38 rfl ?_
            refine jm_iconst jd_Top_add_40 (jm_o32c rfl) ?_
            refine jm_icmp_gt (tgt := 56) jd_Top_add_41 rfl (fun hc10 => ?_) (fun hc10 => ?_)
            · replace H := H.1 hc10
              refine jm_bipush jd_Top_add_56 jb_m2 ?_
              exact jm_ireturn jd_Top_add_58 rfl (by decide) ⟨rfl, _, rfl, H⟩
            · replace H := H.2 hc10
              refine jm_iload_n jd_Top_add_44 rfl rfl ?_
              refine jm_cS (M' := jm_m_Row_hasSecond) (d' := 0) (av := [jm_I x1]) jd_Top_add_45 jk_Row_hasSecond jw_580 rfl (by omega) ⟨rfl, rfl⟩ (by decide) (Nat.le_of_ble_eq_true rfl) (jm_hqI (fun v11 h11 H => ?_)) H
              refine jm_if_ne (tgt := 59) jd_Top_add_48 rfl (fun hc12 => ?_) (fun hc12 => ?_)
              · replace H := H.1 hc12
                exact H
              · replace H := H.2 hc12
                refine jm_iload jd_Top_add_51 rfl ?_
                refine jm_if_eq (tgt := 59) jd_Top_add_53 rfl (fun hc13 => ?_) (fun hc13 => ?_)
                · replace H := H.1 hc13
                  exact H
                · replace H := H.2 hc13
                  refine jm_bipush jd_Top_add_56 jb_m2 ?_
                  exact jm_ireturn jd_Top_add_58 rfl (by decide) ⟨rfl, _, rfl, H⟩
        · replace H := H.2 hc8
          refine jm_bipush jd_Top_add_29 jb_m2 ?_
          exact jm_ireturn jd_Top_add_31 rfl (by decide) ⟨rfl, _, rfl, H⟩
set_option maxRecDepth 4000 in
theorem jb_Top_add_59 {E : jm_Env} {x1 x2 x3 x4 x5 : Int} {h : jm_H} {K : Int → jm_H → Prop} (H : jm_CI E jm_SH jm_m_Row_append 0 [jm_R 37, jm_I x1, jm_I x2, jm_I x3, jm_I x4, jm_I x5] h (fun v1 h1 => ((v1 = 0) → K (-4) h1) ∧ ((¬ v1 = 0) → K (jm_w32 ((h1 37 3) - 1)) h1))) : jm_BI E jm_SH jm_m_Top_add 1 59 [some (jm_R 0), some (jm_I x1), some (jm_I x2), some (jm_I x3), some (jm_I x4), some (jm_I x5)] [] h K := by
  refine jm_aload_n jd_Top_add_59 rfl rfl ?_
  refine jm_gR jd_Top_add_60 jf_Top_42 jm_SH_0 rfl ?_
  refine jm_iload_n jd_Top_add_63 rfl rfl ?_
  refine jm_iload_n jd_Top_add_64 rfl rfl ?_
  refine jm_iload_n jd_Top_add_65 rfl rfl ?_
  refine jm_iload jd_Top_add_66 rfl ?_
  refine jm_iload jd_Top_add_68 rfl ?_
  refine jm_cV (M' := jm_m_Row_append) (d' := 0) (av := [jm_I x1, jm_I x2, jm_I x3, jm_I x4, jm_I x5]) jd_Top_add_70 jk_Row_append jw_581 rfl (by omega) ⟨rfl, rfl⟩ (by decide) (Nat.le_of_ble_eq_true rfl) jm_SH_37 rfl rfl (jm_hqI (fun v1 h1 H => ?_)) H
  refine jm_if_eq (tgt := 88) jd_Top_add_73 rfl (fun hc2 => ?_) (fun hc2 => ?_)
  · replace H := H.1 hc2
    refine jm_bipush jd_Top_add_88 jb_m4 ?_
    exact jm_ireturn jd_Top_add_90 rfl (by decide) ⟨rfl, _, rfl, H⟩
  · replace H := H.2 hc2
    refine jm_aload_n jd_Top_add_76 rfl rfl ?_
    refine jm_gR jd_Top_add_77 jf_Top_42 jm_SH_0 rfl ?_
    refine jm_gI jd_Top_add_80 jf_Top_177 jm_SH_37 ?_
    refine jm_iconst jd_Top_add_83 (jm_o32c rfl) ?_
    refine jm_isub jd_Top_add_84 ?_
    refine jm_goto (tgt := 90) jd_Top_add_85 rfl ?_
    exact jm_ireturn jd_Top_add_90 rfl (by decide) ⟨rfl, _, rfl, H⟩
set_option maxRecDepth 4000 in
theorem jb_Top_drop {E : jm_Env} {h : jm_H} {K : Int → jm_H → Prop} (H : jm_CV E jm_SH jm_m_Row_empty 0 [jm_R 37] h (fun h1 => K (h 37 3) h1)) : jm_CI E jm_SH jm_m_Top_drop 1 [jm_R 0] h K := by
  refine jm_body (ls0 := [some (jm_R 0), none]) (by decide +kernel) rfl rfl (Nat.le_of_ble_eq_true rfl) ?_
  refine jm_aload_n jd_Top_drop_0 rfl rfl ?_
  refine jm_gR jd_Top_drop_1 jf_Top_42 jm_SH_0 rfl ?_
  refine jm_gI jd_Top_drop_4 jf_Top_177 jm_SH_37 ?_
  refine jm_istore_n (i := 1) jd_Top_drop_7 rfl (by decide) (ls2 := [some (jm_R 0), some (jm_I (h 37 3))]) rfl ?_
  refine jm_aload_n jd_Top_drop_8 rfl rfl ?_
  refine jm_gR jd_Top_drop_9 jf_Top_42 jm_SH_0 rfl ?_
  refine jm_cV (M' := jm_m_Row_empty) (d' := 0) (av := []) jd_Top_drop_12 jk_Row_empty jw_589 rfl (by omega) ⟨rfl, rfl⟩ (by decide) (Nat.le_of_ble_eq_true rfl) jm_SH_37 rfl rfl (jm_hqV (fun h1 H => ?_)) H
  refine jm_iload_n jd_Top_drop_15 rfl rfl ?_
  exact jm_ireturn jd_Top_drop_16 rfl (by decide) ⟨rfl, _, rfl, H⟩
set_option maxRecDepth 4000 in
theorem jb_Top_about {E : jm_Env} {x1 x2 : Int} {h : jm_H} {K : Int → jm_H → Prop} (H : jm_CI E jm_SH jm_m_Row_has 0 [jm_R 37, jm_I x1] h (fun v1 h1 => ((¬ v1 = 0) → ((x2 < 0) → K (-2) h1) ∧ ((¬ x2 < 0) → ((x2 ≤ 5) → ((¬ x2 = 5) → (0 ≤ x2 ∧ x2 < 6) ∧ ((0 ≤ x1 ∧ x1 < 12) ∧ (K (h1 (39 + (Int.toNat x2)) (Int.toNat x1)) h1))) ∧ ((x2 = 5) → jm_CI E jm_SH jm_m_Row_cycleOf 3 [jm_R 37, jm_I x1] h1 (fun v8 h8 => K v8 h8))) ∧ ((¬ x2 ≤ 5) → K (-2) h1))) ∧ ((v1 = 0) → K (-1) h1))) : jm_CI E jm_SH jm_m_Top_about 4 [jm_R 0, jm_I x1, jm_I x2] h K := by
  refine jm_body (ls0 := [some (jm_R 0), some (jm_I x1), some (jm_I x2)]) (by decide +kernel) rfl rfl (Nat.le_of_ble_eq_true rfl) ?_
  refine jm_aload_n jd_Top_about_0 rfl rfl ?_
  refine jm_gR jd_Top_about_1 jf_Top_42 jm_SH_0 rfl ?_
  refine jm_iload_n jd_Top_about_4 rfl rfl ?_
  refine jm_cV (M' := jm_m_Row_has) (d' := 0) (av := [jm_I x1]) jd_Top_about_5 jk_Row_has jw_597 rfl (by omega) ⟨rfl, rfl⟩ (by decide) (Nat.le_of_ble_eq_true rfl) jm_SH_37 rfl rfl (jm_hqI (fun v1 h1 H => ?_)) H
  refine jm_if_ne (tgt := 13) jd_Top_about_8 rfl (fun hc2 => ?_) (fun hc2 => ?_)
  · replace H := H.1 hc2
    refine jm_iload_n jd_Top_about_13 rfl rfl ?_
    refine jm_if_lt (tgt := 22) jd_Top_about_14 rfl (fun hc3 => ?_) (fun hc3 => ?_)
    · replace H := H.1 hc3
      refine jm_bipush jd_Top_about_22 jb_m2 ?_
      exact jm_ireturn jd_Top_about_24 rfl (by decide) ⟨rfl, _, rfl, H⟩
    · replace H := H.2 hc3
      refine jm_iload_n jd_Top_about_17 rfl rfl ?_
      refine jm_iconst jd_Top_about_18 (jm_o32c rfl) ?_
      refine jm_icmp_le (tgt := 25) jd_Top_about_19 rfl (fun hc4 => ?_) (fun hc4 => ?_)
      · replace H := H.1 hc4
        refine jm_iload_n jd_Top_about_25 rfl rfl ?_
        refine jm_iconst jd_Top_about_26 (jm_o32c rfl) ?_
        refine jm_icmp_ne (tgt := 41) jd_Top_about_27 rfl (fun hc5 => ?_) (fun hc5 => ?_)
        · replace H := H.1 hc5
          refine jm_aload_n jd_Top_about_41 rfl rfl ?_
          refine jm_gR jd_Top_about_42 jf_Top_42 jm_SH_0 rfl ?_
          refine jm_gR jd_Top_about_45 jf_Top_185 jm_SH_37 rfl ?_
          refine jm_iload_n jd_Top_about_48 rfl rfl ?_
          obtain ⟨hb6, H⟩ := H
          refine jm_aaload jd_Top_about_49 jm_SH_38 (by decide) hb6 (jm_SH_r38 _ (by omega)) ?_
          refine jm_iload_n jd_Top_about_50 rfl rfl ?_
          obtain ⟨hb7, H⟩ := H
          refine jm_iaload jd_Top_about_51 (jm_SH_s38 _ (by omega)) hb7 ?_
          exact jm_ireturn jd_Top_about_52 rfl (by decide) ⟨rfl, _, rfl, H⟩
        · replace H := H.2 hc5
          refine jm_aload_n jd_Top_about_30 rfl rfl ?_
          refine jm_gR jd_Top_about_31 jf_Top_42 jm_SH_0 rfl ?_
          refine jm_iload_n jd_Top_about_34 rfl rfl ?_
          refine jm_cV (M' := jm_m_Row_cycleOf) (d' := 3) (av := [jm_I x1]) jd_Top_about_35 jk_Row_cycleOf jw_601 rfl (by omega) ⟨rfl, rfl⟩ (by decide) (Nat.le_of_ble_eq_true rfl) jm_SH_37 rfl rfl (jm_hqI (fun v8 h8 H => ?_)) H
          refine jm_goto (tgt := 52) jd_Top_about_38 rfl ?_
          exact jm_ireturn jd_Top_about_52 rfl (by decide) ⟨rfl, _, rfl, H⟩
      · replace H := H.2 hc4
        refine jm_bipush jd_Top_about_22 jb_m2 ?_
        exact jm_ireturn jd_Top_about_24 rfl (by decide) ⟨rfl, _, rfl, H⟩
  · replace H := H.2 hc2
    refine jm_iconst jd_Top_about_11 (jm_o32c rfl) ?_
    exact jm_ireturn jd_Top_about_12 rfl (by decide) ⟨rfl, _, rfl, H⟩
set_option maxRecDepth 4000 in
theorem jb_Top_end {E : jm_Env} {h : jm_H} {K : Int → jm_H → Prop} (H : jm_CI E jm_SH jm_m_Row_endAsWritten 3 [jm_R 37] h (fun v1 h1 => K v1 h1)) : jm_CI E jm_SH jm_m_Top_end 4 [jm_R 0] h K := by
  refine jm_body (ls0 := [some (jm_R 0)]) (by decide +kernel) rfl rfl (Nat.le_of_ble_eq_true rfl) ?_
  refine jm_aload_n jd_Top_end_0 rfl rfl ?_
  refine jm_gR jd_Top_end_1 jf_Top_42 jm_SH_0 rfl ?_
  refine jm_cV (M' := jm_m_Row_endAsWritten) (d' := 3) (av := []) jd_Top_end_4 jk_Row_endAsWritten jw_631 rfl (by omega) ⟨rfl, rfl⟩ (by decide) (Nat.le_of_ble_eq_true rfl) jm_SH_37 rfl rfl (jm_hqI (fun v1 h1 H => ?_)) H
  exact jm_ireturn jd_Top_end_7 rfl (by decide) ⟨rfl, _, rfl, H⟩
set_option maxRecDepth 4000 in
theorem jb_Top_ahead {E : jm_Env} {x1 x2 : Int} {h : jm_H} {K : Int → jm_H → Prop} (H : jm_CI E jm_SH jm_m_Row_has 0 [jm_R 37, jm_I x1] h (fun v1 h1 => ((v1 = 0) → K (-1) h1) ∧ ((¬ v1 = 0) → jm_CI E jm_SH jm_m_Row_has 0 [jm_R 37, jm_I x2] h1 (fun v3 h3 => ((¬ v3 = 0) → ((x1 < x2) → jm_CI E jm_SH jm_m_Row_clash 2 [jm_R 37, jm_I x1, jm_I x2] h3 (fun v6 h6 => ((v6 = 0) → K 0 h6) ∧ ((¬ v6 = 0) → K 1 h6))) ∧ ((¬ x1 < x2) → K (-2) h3)) ∧ ((v3 = 0) → K (-1) h3))))) : jm_CI E jm_SH jm_m_Top_ahead 3 [jm_R 0, jm_I x1, jm_I x2] h K := by
  refine jm_body (ls0 := [some (jm_R 0), some (jm_I x1), some (jm_I x2)]) (by decide +kernel) rfl rfl (Nat.le_of_ble_eq_true rfl) ?_
  refine jm_aload_n jd_Top_ahead_0 rfl rfl ?_
  refine jm_gR jd_Top_ahead_1 jf_Top_42 jm_SH_0 rfl ?_
  refine jm_iload_n jd_Top_ahead_4 rfl rfl ?_
  refine jm_cV (M' := jm_m_Row_has) (d' := 0) (av := [jm_I x1]) jd_Top_ahead_5 jk_Row_has jw_597 rfl (by omega) ⟨rfl, rfl⟩ (by decide) (Nat.le_of_ble_eq_true rfl) jm_SH_37 rfl rfl (jm_hqI (fun v1 h1 H => ?_)) H
  refine jm_if_eq (tgt := 22) jd_Top_ahead_8 rfl (fun hc2 => ?_) (fun hc2 => ?_)
  · replace H := H.1 hc2
    refine jm_iconst jd_Top_ahead_22 (jm_o32c rfl) ?_
    exact jm_ireturn jd_Top_ahead_23 rfl (by decide) ⟨rfl, _, rfl, H⟩
  · replace H := H.2 hc2
    refine jm_aload_n jd_Top_ahead_11 rfl rfl ?_
    refine jm_gR jd_Top_ahead_12 jf_Top_42 jm_SH_0 rfl ?_
    refine jm_iload_n jd_Top_ahead_15 rfl rfl ?_
    refine jm_cV (M' := jm_m_Row_has) (d' := 0) (av := [jm_I x2]) jd_Top_ahead_16 jk_Row_has jw_597 rfl (by omega) ⟨rfl, rfl⟩ (by decide) (Nat.le_of_ble_eq_true rfl) jm_SH_37 rfl rfl (jm_hqI (fun v3 h3 H => ?_)) H
    refine jm_if_ne (tgt := 24) jd_Top_ahead_19 rfl (fun hc4 => ?_) (fun hc4 => ?_)
    · replace H := H.1 hc4
      refine jm_iload_n jd_Top_ahead_24 rfl rfl ?_
      refine jm_iload_n jd_Top_ahead_25 rfl rfl ?_
      refine jm_icmp_lt (tgt := 32) jd_Top_ahead_26 rfl (fun hc5 => ?_) (fun hc5 => ?_)
      · replace H := H.1 hc5
        refine jm_aload_n jd_Top_ahead_32 rfl rfl ?_
        refine jm_gR jd_Top_ahead_33 jf_Top_42 jm_SH_0 rfl ?_
        refine jm_iload_n jd_Top_ahead_36 rfl rfl ?_
        refine jm_iload_n jd_Top_ahead_37 rfl rfl ?_
        refine jm_cV (M' := jm_m_Row_clash) (d' := 2) (av := [jm_I x1, jm_I x2]) jd_Top_ahead_38 jk_Row_clash jw_639 rfl (by omega) ⟨rfl, rfl⟩ (by decide) (Nat.le_of_ble_eq_true rfl) jm_SH_37 rfl rfl (jm_hqI (fun v6 h6 H => ?_)) H
        refine jm_if_eq (tgt := 48) jd_Top_ahead_41 rfl (fun hc7 => ?_) (fun hc7 => ?_)
        · replace H := H.1 hc7
          refine jm_iconst jd_Top_ahead_48 (jm_o32c rfl) ?_
          exact jm_ireturn jd_Top_ahead_49 rfl (by decide) ⟨rfl, _, rfl, H⟩
        · replace H := H.2 hc7
          refine jm_iconst jd_Top_ahead_44 (jm_o32c rfl) ?_
          refine jm_goto (tgt := 49) jd_Top_ahead_45 rfl ?_
          exact jm_ireturn jd_Top_ahead_49 rfl (by decide) ⟨rfl, _, rfl, H⟩
      · replace H := H.2 hc5
        refine jm_bipush jd_Top_ahead_29 jb_m2 ?_
        exact jm_ireturn jd_Top_ahead_31 rfl (by decide) ⟨rfl, _, rfl, H⟩
    · replace H := H.2 hc4
      refine jm_iconst jd_Top_ahead_22 (jm_o32c rfl) ?_
      exact jm_ireturn jd_Top_ahead_23 rfl (by decide) ⟨rfl, _, rfl, H⟩
set_option maxRecDepth 4000 in
theorem jb_Top_best {E : jm_Env} {x1 : Int} {h : jm_H} {K : Int → jm_H → Prop} (H : ((h 37 3 ≤ 10) → jm_CV E jm_SH jm_m_Order_refresh 20 [jm_R 47] h (fun h2 => ((¬ x1 = -1) → jm_CI E jm_SH jm_m_Row_has 0 [jm_R 37, jm_I x1] h2 (fun v4 h4 => ((v4 = 0) → K (-6) h4) ∧ ((¬ v4 = 0) → (0 ≤ x1 ∧ x1 < 10) ∧ (K (h4 55 (Int.toNat x1)) h4)))) ∧ ((x1 = -1) → K (h2 47 9) h2))) ∧ ((¬ h 37 3 ≤ 10) → K (-3) h)) : jm_CI E jm_SH jm_m_Top_best 21 [jm_R 0, jm_I x1] h K := by
  refine jm_body (ls0 := [some (jm_R 0), some (jm_I x1)]) (by decide +kernel) rfl rfl (Nat.le_of_ble_eq_true rfl) ?_
  refine jm_aload_n jd_Top_best_0 rfl rfl ?_
  refine jm_gR jd_Top_best_1 jf_Top_42 jm_SH_0 rfl ?_
  refine jm_gI jd_Top_best_4 jf_Top_177 jm_SH_37 ?_
  refine jm_bipush jd_Top_best_7 jb_10 ?_
  refine jm_icmp_le (tgt := 15) jd_Top_best_9 rfl (fun hc1 => ?_) (fun hc1 => ?_)
  · replace H := H.1 hc1
    refine jm_aload_n jd_Top_best_15 rfl rfl ?_
    refine jm_gR jd_Top_best_16 jf_Top_51 jm_SH_0 rfl ?_
    refine jm_cV (M' := jm_m_Order_refresh) (d' := 20) (av := []) jd_Top_best_19 jk_Order_refresh jw_651 rfl (by omega) ⟨rfl, rfl⟩ (by decide) (Nat.le_of_ble_eq_true rfl) jm_SH_47 rfl rfl (jm_hqV (fun h2 H => ?_)) H
    refine jm_iload_n jd_Top_best_22 rfl rfl ?_
    refine jm_iconst jd_Top_best_23 (jm_o32c rfl) ?_
    refine jm_icmp_ne (tgt := 35) jd_Top_best_24 rfl (fun hc3 => ?_) (fun hc3 => ?_)
    · replace H := H.1 hc3
      refine jm_aload_n jd_Top_best_35 rfl rfl ?_
      refine jm_gR jd_Top_best_36 jf_Top_42 jm_SH_0 rfl ?_
      refine jm_iload_n jd_Top_best_39 rfl rfl ?_
      refine jm_cV (M' := jm_m_Row_has) (d' := 0) (av := [jm_I x1]) jd_Top_best_40 jk_Row_has jw_597 rfl (by omega) ⟨rfl, rfl⟩ (by decide) (Nat.le_of_ble_eq_true rfl) jm_SH_37 rfl rfl (jm_hqI (fun v4 h4 H => ?_)) H
      refine jm_if_eq (tgt := 58) jd_Top_best_43 rfl (fun hc5 => ?_) (fun hc5 => ?_)
      · replace H := H.1 hc5
        refine jm_bipush jd_Top_best_58 jb_m6 ?_
        exact jm_ireturn jd_Top_best_60 rfl (by decide) ⟨rfl, _, rfl, H⟩
      · replace H := H.2 hc5
        refine jm_aload_n jd_Top_best_46 rfl rfl ?_
        refine jm_gR jd_Top_best_47 jf_Top_51 jm_SH_0 rfl ?_
        refine jm_gR jd_Top_best_50 jf_Top_200 jm_SH_47 rfl ?_
        refine jm_iload_n jd_Top_best_53 rfl rfl ?_
        obtain ⟨hb6, H⟩ := H
        refine jm_iaload jd_Top_best_54 jm_SH_55 hb6 ?_
        refine jm_goto (tgt := 60) jd_Top_best_55 rfl ?_
        exact jm_ireturn jd_Top_best_60 rfl (by decide) ⟨rfl, _, rfl, H⟩
    · replace H := H.2 hc3
      refine jm_aload_n jd_Top_best_27 rfl rfl ?_
      refine jm_gR jd_Top_best_28 jf_Top_51 jm_SH_0 rfl ?_
      refine jm_gI jd_Top_best_31 jf_Top_197 jm_SH_47 ?_
      exact jm_ireturn jd_Top_best_34 rfl (by decide) ⟨rfl, _, rfl, H⟩
  · replace H := H.2 hc1
    refine jm_bipush jd_Top_best_12 jb_m3 ?_
    exact jm_ireturn jd_Top_best_14 rfl (by decide) ⟨rfl, _, rfl, H⟩
set_option maxRecDepth 4000 in
theorem jb_Top_sort {E : jm_Env} {h : jm_H} {K : Int → jm_H → Prop} (H : ((h 37 3 ≤ 10) → jm_CV E jm_SH jm_m_Order_refresh 20 [jm_R 47] h (fun h2 => jm_CV E jm_SH jm_m_Row_rearrange 1 [jm_R 37, jm_R 55] h2 (fun h3 => K (h3 47 9) h3))) ∧ ((¬ h 37 3 ≤ 10) → K (-3) h)) : jm_CI E jm_SH jm_m_Top_sort 21 [jm_R 0] h K := by
  refine jm_body (ls0 := [some (jm_R 0)]) (by decide +kernel) rfl rfl (Nat.le_of_ble_eq_true rfl) ?_
  refine jm_aload_n jd_Top_sort_0 rfl rfl ?_
  refine jm_gR jd_Top_sort_1 jf_Top_42 jm_SH_0 rfl ?_
  refine jm_gI jd_Top_sort_4 jf_Top_177 jm_SH_37 ?_
  refine jm_bipush jd_Top_sort_7 jb_10 ?_
  refine jm_icmp_le (tgt := 15) jd_Top_sort_9 rfl (fun hc1 => ?_) (fun hc1 => ?_)
  · replace H := H.1 hc1
    refine jm_aload_n jd_Top_sort_15 rfl rfl ?_
    refine jm_gR jd_Top_sort_16 jf_Top_51 jm_SH_0 rfl ?_
    refine jm_cV (M' := jm_m_Order_refresh) (d' := 20) (av := []) jd_Top_sort_19 jk_Order_refresh jw_651 rfl (by omega) ⟨rfl, rfl⟩ (by decide) (Nat.le_of_ble_eq_true rfl) jm_SH_47 rfl rfl (jm_hqV (fun h2 H => ?_)) H
    refine jm_aload_n jd_Top_sort_22 rfl rfl ?_
    refine jm_gR jd_Top_sort_23 jf_Top_42 jm_SH_0 rfl ?_
    refine jm_aload_n jd_Top_sort_26 rfl rfl ?_
    refine jm_gR jd_Top_sort_27 jf_Top_51 jm_SH_0 rfl ?_
    refine jm_gR jd_Top_sort_30 jf_Top_200 jm_SH_47 rfl ?_
    refine jm_cV (M' := jm_m_Row_rearrange) (d' := 1) (av := [jm_R 55]) jd_Top_sort_33 jk_Row_rearrange jw_691 rfl (by omega) ⟨rfl, rfl⟩ (by decide) (Nat.le_of_ble_eq_true rfl) jm_SH_37 rfl rfl (jm_hqV (fun h3 H => ?_)) H
    refine jm_aload_n jd_Top_sort_36 rfl rfl ?_
    refine jm_gR jd_Top_sort_37 jf_Top_51 jm_SH_0 rfl ?_
    refine jm_gI jd_Top_sort_40 jf_Top_197 jm_SH_47 ?_
    exact jm_ireturn jd_Top_sort_43 rfl (by decide) ⟨rfl, _, rfl, H⟩
  · replace H := H.2 hc1
    refine jm_bipush jd_Top_sort_12 jb_m3 ?_
    exact jm_ireturn jd_Top_sort_14 rfl (by decide) ⟨rfl, _, rfl, H⟩
set_option maxRecDepth 4000 in
theorem jb_Top_keep {E : jm_Env} {x1 : Int} {h : jm_H} {K : Int → jm_H → Prop} (H : ((x1 < 0) → K (-2) h) ∧ ((¬ x1 < 0) → ((x1 ≤ 63) → K (h 56 3) (jm_up h 56 3 x1)) ∧ ((¬ x1 ≤ 63) → K (-2) h))) : jm_CI E jm_SH jm_m_Top_keep 0 [jm_R 0, jm_I x1] h K := by
  refine jm_body (ls0 := [some (jm_R 0), some (jm_I x1), none]) (by decide +kernel) rfl rfl (Nat.le_of_ble_eq_true rfl) ?_
  refine jm_iload_n jd_Top_keep_0 rfl rfl ?_
  refine jm_if_lt (tgt := 10) jd_Top_keep_1 rfl (fun hc1 => ?_) (fun hc1 => ?_)
  · replace H := H.1 hc1
    refine jm_bipush jd_Top_keep_10 jb_m2 ?_
    exact jm_ireturn jd_Top_keep_12 rfl (by decide) ⟨rfl, _, rfl, H⟩
  · replace H := H.2 hc1
    refine jm_iload_n jd_Top_keep_4 rfl rfl ?_
    refine jm_bipush jd_Top_keep_5 jb_63 ?_
    refine jm_icmp_le (tgt := 13) jd_Top_keep_7 rfl (fun hc2 => ?_) (fun hc2 => ?_)
    · replace H := H.1 hc2
      refine jm_aload_n jd_Top_keep_13 rfl rfl ?_
      refine jm_gR jd_Top_keep_14 jf_Top_58 jm_SH_0 rfl ?_
      refine jm_gI jd_Top_keep_17 jf_Top_207 jm_SH_56 ?_
      refine jm_istore_n (i := 2) jd_Top_keep_20 rfl (by decide) (ls2 := [some (jm_R 0), some (jm_I x1), some (jm_I (h 56 3))]) rfl ?_
      refine jm_aload_n jd_Top_keep_21 rfl rfl ?_
      refine jm_gR jd_Top_keep_22 jf_Top_58 jm_SH_0 rfl ?_
      refine jm_iload_n jd_Top_keep_25 rfl rfl ?_
      refine jm_sI jd_Top_keep_26 jp_Top_207 jm_SH_56 ?_
      refine jm_iload_n jd_Top_keep_29 rfl rfl ?_
      exact jm_ireturn jd_Top_keep_30 rfl (by decide) ⟨rfl, _, rfl, H⟩
    · replace H := H.2 hc2
      refine jm_bipush jd_Top_keep_10 jb_m2 ?_
      exact jm_ireturn jd_Top_keep_12 rfl (by decide) ⟨rfl, _, rfl, H⟩
set_option maxRecDepth 4000 in
theorem jb_Top_weigh {E : jm_Env} {x1 x2 : Int} {h : jm_H} {K : Int → jm_H → Prop} (H : jm_CI E jm_SH jm_m_Row_has 0 [jm_R 37, jm_I x1] h (fun v1 h1 => ((¬ v1 = 0) → ((x2 < 1) → K (-2) h1) ∧ ((¬ x2 < 1) → ((x2 ≤ 100) → (0 ≤ x1 ∧ x1 < 12) ∧ ((0 ≤ x1 ∧ x1 < 12) ∧ (K (h1 44 (Int.toNat x1)) (jm_up h1 44 (Int.toNat x1) x2)))) ∧ ((¬ x2 ≤ 100) → K (-2) h1))) ∧ ((v1 = 0) → K (-1) h1))) : jm_CI E jm_SH jm_m_Top_weigh 1 [jm_R 0, jm_I x1, jm_I x2] h K := by
  refine jm_body (ls0 := [some (jm_R 0), some (jm_I x1), some (jm_I x2), none]) (by decide +kernel) rfl rfl (Nat.le_of_ble_eq_true rfl) ?_
  refine jm_aload_n jd_Top_weigh_0 rfl rfl ?_
  refine jm_gR jd_Top_weigh_1 jf_Top_42 jm_SH_0 rfl ?_
  refine jm_iload_n jd_Top_weigh_4 rfl rfl ?_
  refine jm_cV (M' := jm_m_Row_has) (d' := 0) (av := [jm_I x1]) jd_Top_weigh_5 jk_Row_has jw_597 rfl (by omega) ⟨rfl, rfl⟩ (by decide) (Nat.le_of_ble_eq_true rfl) jm_SH_37 rfl rfl (jm_hqI (fun v1 h1 H => ?_)) H
  refine jm_if_ne (tgt := 13) jd_Top_weigh_8 rfl (fun hc2 => ?_) (fun hc2 => ?_)
  · replace H := H.1 hc2
    refine jm_iload_n jd_Top_weigh_13 rfl rfl ?_
    refine jm_iconst jd_Top_weigh_14 (jm_o32c rfl) ?_
    refine jm_icmp_lt (tgt := 24) jd_Top_weigh_15 rfl (fun hc3 => ?_) (fun hc3 => ?_)
    · replace H := H.1 hc3
      refine jm_bipush jd_Top_weigh_24 jb_m2 ?_
      exact jm_ireturn jd_Top_weigh_26 rfl (by decide) ⟨rfl, _, rfl, H⟩
    · replace H := H.2 hc3
      refine jm_iload_n jd_Top_weigh_18 rfl rfl ?_
      refine jm_bipush jd_Top_weigh_19 jb_100 ?_
      refine jm_icmp_le (tgt := 27) jd_Top_weigh_21 rfl (fun hc4 => ?_) (fun hc4 => ?_)
      · replace H := H.1 hc4
        refine jm_aload_n jd_Top_weigh_27 rfl rfl ?_
        refine jm_gR jd_Top_weigh_28 jf_Top_42 jm_SH_0 rfl ?_
        refine jm_gR jd_Top_weigh_31 jf_Top_185 jm_SH_37 rfl ?_
        refine jm_iconst jd_Top_weigh_34 (jm_o32c rfl) ?_
        refine jm_aaload jd_Top_weigh_35 jm_SH_38 (by decide) (by decide) rfl ?_
        refine jm_iload_n jd_Top_weigh_36 rfl rfl ?_
        obtain ⟨hb5, H⟩ := H
        refine jm_iaload jd_Top_weigh_37 jm_SH_44 hb5 ?_
        refine jm_istore_n (i := 3) jd_Top_weigh_38 rfl (by decide) (ls2 := [some (jm_R 0), some (jm_I x1), some (jm_I x2), some (jm_I (h1 44 (Int.toNat x1)))]) rfl ?_
        refine jm_aload_n jd_Top_weigh_39 rfl rfl ?_
        refine jm_gR jd_Top_weigh_40 jf_Top_42 jm_SH_0 rfl ?_
        refine jm_gR jd_Top_weigh_43 jf_Top_185 jm_SH_37 rfl ?_
        refine jm_iconst jd_Top_weigh_46 (jm_o32c rfl) ?_
        refine jm_aaload jd_Top_weigh_47 jm_SH_38 (by decide) (by decide) rfl ?_
        refine jm_iload_n jd_Top_weigh_48 rfl rfl ?_
        refine jm_iload_n jd_Top_weigh_49 rfl rfl ?_
        obtain ⟨hb6, H⟩ := H
        refine jm_iastore jd_Top_weigh_50 jm_SH_44 hb6 ?_
        refine jm_iload_n jd_Top_weigh_51 rfl rfl ?_
        exact jm_ireturn jd_Top_weigh_52 rfl (by decide) ⟨rfl, _, rfl, H⟩
      · replace H := H.2 hc4
        refine jm_bipush jd_Top_weigh_24 jb_m2 ?_
        exact jm_ireturn jd_Top_weigh_26 rfl (by decide) ⟨rfl, _, rfl, H⟩
  · replace H := H.2 hc2
    refine jm_iconst jd_Top_weigh_11 (jm_o32c rfl) ?_
    exact jm_ireturn jd_Top_weigh_12 rfl (by decide) ⟨rfl, _, rfl, H⟩
set_option maxRecDepth 4000 in
theorem jb_Top_lives {E : jm_Env} {x1 : Int} {h : jm_H} {K : Int → jm_H → Prop} (H : jm_CI E jm_SH jm_m_Row_has 0 [jm_R 37, jm_I x1] h (fun v1 h1 => ((v1 = 0) → K (-1) h1) ∧ ((¬ v1 = 0) → jm_CI E jm_SH jm_m_Lifetimes_until 2 [jm_R 56, jm_I x1] h1 (fun v3 h3 => K (jm_w32 (v3 - x1)) h3)))) : jm_CI E jm_SH jm_m_Top_lives 3 [jm_R 0, jm_I x1] h K := by
  refine jm_body (ls0 := [some (jm_R 0), some (jm_I x1)]) (by decide +kernel) rfl rfl (Nat.le_of_ble_eq_true rfl) ?_
  refine jm_aload_n jd_Top_lives_0 rfl rfl ?_
  refine jm_gR jd_Top_lives_1 jf_Top_42 jm_SH_0 rfl ?_
  refine jm_iload_n jd_Top_lives_4 rfl rfl ?_
  refine jm_cV (M' := jm_m_Row_has) (d' := 0) (av := [jm_I x1]) jd_Top_lives_5 jk_Row_has jw_597 rfl (by omega) ⟨rfl, rfl⟩ (by decide) (Nat.le_of_ble_eq_true rfl) jm_SH_37 rfl rfl (jm_hqI (fun v1 h1 H => ?_)) H
  refine jm_if_eq (tgt := 24) jd_Top_lives_8 rfl (fun hc2 => ?_) (fun hc2 => ?_)
  · replace H := H.1 hc2
    refine jm_iconst jd_Top_lives_24 (jm_o32c rfl) ?_
    exact jm_ireturn jd_Top_lives_25 rfl (by decide) ⟨rfl, _, rfl, H⟩
  · replace H := H.2 hc2
    refine jm_aload_n jd_Top_lives_11 rfl rfl ?_
    refine jm_gR jd_Top_lives_12 jf_Top_58 jm_SH_0 rfl ?_
    refine jm_iload_n jd_Top_lives_15 rfl rfl ?_
    refine jm_cV (M' := jm_m_Lifetimes_until) (d' := 2) (av := [jm_I x1]) jd_Top_lives_16 jk_Lifetimes_until jw_708 rfl (by omega) ⟨rfl, rfl⟩ (by decide) (Nat.le_of_ble_eq_true rfl) jm_SH_56 rfl rfl (jm_hqI (fun v3 h3 H => ?_)) H
    refine jm_iload_n jd_Top_lives_19 rfl rfl ?_
    refine jm_isub jd_Top_lives_20 ?_
    refine jm_goto (tgt := 25) jd_Top_lives_21 rfl ?_
    exact jm_ireturn jd_Top_lives_25 rfl (by decide) ⟨rfl, _, rfl, H⟩
