set_option maxRecDepth 4000 in
theorem jb_Mod_in {E : jm_Env} {x0 x2 x4 : Int} {h : jm_H} {K : Int → jm_H → Prop} (H : ((jv_lcmp x0 x2 < 0) → K 0 h) ∧ ((¬ jv_lcmp x0 x2 < 0) → ((0 < jv_lcmp x0 x4) → K 0 h) ∧ ((¬ 0 < jv_lcmp x0 x4) → K 1 h))) : jm_CI E jm_SH jm_m_Mod_in 0 [jm_L x0, jm_L x2, jm_L x4] h K := by
  refine jm_body (ls0 := [some (jm_L x0), none, some (jm_L x2), none, some (jm_L x4), none]) (by decide +kernel) rfl rfl (Nat.le_of_ble_eq_true rfl) ?_
  refine jm_lload_n jd_Mod_in_0 rfl rfl ?_
  refine jm_lload_n jd_Mod_in_1 rfl rfl ?_
  refine jm_lcmp jd_Mod_in_2 ?_
  refine jm_if_lt (tgt := 17) jd_Mod_in_3 rfl (fun hc1 => ?_) (fun hc1 => ?_)
  · replace H := H.1 hc1
    refine jm_iconst jd_Mod_in_17 (jm_o32c rfl) ?_
    exact jm_zreturn jd_Mod_in_18 rfl (Or.inl rfl) (by decide) ⟨rfl, _, rfl, H⟩
  · replace H := H.2 hc1
    refine jm_lload_n jd_Mod_in_6 rfl rfl ?_
    refine jm_lload jd_Mod_in_7 rfl ?_
    refine jm_lcmp jd_Mod_in_9 ?_
    refine jm_if_gt (tgt := 17) jd_Mod_in_10 rfl (fun hc2 => ?_) (fun hc2 => ?_)
    · replace H := H.1 hc2
      refine jm_iconst jd_Mod_in_17 (jm_o32c rfl) ?_
      exact jm_zreturn jd_Mod_in_18 rfl (Or.inl rfl) (by decide) ⟨rfl, _, rfl, H⟩
    · replace H := H.2 hc2
      refine jm_iconst jd_Mod_in_13 (jm_o32c rfl) ?_
      refine jm_goto (tgt := 18) jd_Mod_in_14 rfl ?_
      exact jm_zreturn jd_Mod_in_18 rfl (Or.inr rfl) (by decide) ⟨rfl, _, rfl, H⟩
set_option maxRecDepth 4000 in
theorem jb_Mod_say {E : jm_Env} {x1 : Int} {h : jm_H} {K : Int → jm_H → Prop} (H : jm_CI E jm_SH jm_m_Mod_in 0 [jm_L x1, jm_L 33, jm_L 126] h (fun v1 h1 => ((¬ v1 = 0) → ((¬ h1 78 1 = 60) → (0 ≤ h1 78 1 ∧ h1 78 1 < 60) ∧ (K (jm_w32 ((h1 78 1) + 1)) (jm_up (jm_up h1 79 (Int.toNat (h1 78 1)) x1) 78 1 (jm_w32 ((h1 78 1) + 1))))) ∧ ((h1 78 1 = 60) → K (-4) h1)) ∧ ((v1 = 0) → K (-2) h1))) : jm_CI E jm_SH jm_m_Mod_say 1 [jm_R 78, jm_I x1] h K := by
  refine jm_body (ls0 := [some (jm_R 78), some (jm_I x1)]) (by decide +kernel) rfl rfl (Nat.le_of_ble_eq_true rfl) ?_
  refine jm_iload_n jd_Mod_say_0 rfl rfl ?_
  refine jm_i2l jd_Mod_say_1 ?_
  refine jm_ldc2 (x := 33) jd_Mod_say_2 jc_976 (jm_o64c rfl) ?_
  refine jm_ldc2 (x := 126) jd_Mod_say_5 jc_977 (jm_o64c rfl) ?_
  refine jm_cS (M' := jm_m_Mod_in) (d' := 0) (av := [jm_L x1, jm_L 33, jm_L 126]) jd_Mod_say_8 jk_Mod_in jw_978 rfl (by omega) ⟨rfl, rfl⟩ (by decide) (Nat.le_of_ble_eq_true rfl) (jm_hqI (fun v1 h1 H => ?_)) H
  refine jm_if_ne (tgt := 17) jd_Mod_say_11 rfl (fun hc2 => ?_) (fun hc2 => ?_)
  · replace H := H.1 hc2
    refine jm_aload_n jd_Mod_say_17 rfl rfl ?_
    refine jm_gI jd_Mod_say_18 jf_Mod_130 jm_SH_78 ?_
    refine jm_bipush jd_Mod_say_21 jb_60 ?_
    refine jm_icmp_ne (tgt := 29) jd_Mod_say_23 rfl (fun hc3 => ?_) (fun hc3 => ?_)
    · replace H := H.1 hc3
      refine jm_aload_n jd_Mod_say_29 rfl rfl ?_
      refine jm_gR jd_Mod_say_30 jf_Mod_7 jm_SH_78 rfl ?_
      refine jm_aload_n jd_Mod_say_33 rfl rfl ?_
      refine jm_gI jd_Mod_say_34 jf_Mod_130 jm_SH_78 ?_
      refine jm_iload_n jd_Mod_say_37 rfl rfl ?_
      obtain ⟨hb4, H⟩ := H
      refine jm_iastore jd_Mod_say_38 jm_SH_79 hb4 ?_
      refine jm_aload_n jd_Mod_say_39 rfl rfl ?_
      refine jm_dup jd_Mod_say_40 rfl ?_
      refine jm_gI jd_Mod_say_41 jf_Mod_130 jm_SH_78 ?_
      refine jm_topI (y := h1 78 1) rfl ?_
      refine jm_iconst jd_Mod_say_44 (jm_o32c rfl) ?_
      refine jm_iadd jd_Mod_say_45 ?_
      refine jm_sI jd_Mod_say_46 jp_Mod_130 jm_SH_78 ?_
      refine jm_aload_n jd_Mod_say_49 rfl rfl ?_
      refine jm_gI jd_Mod_say_50 jf_Mod_130 jm_SH_78 ?_
      refine jm_topI (y := jm_w32 ((h1 78 1) + 1)) rfl ?_
      exact jm_ireturn jd_Mod_say_53 rfl (by decide) ⟨rfl, _, rfl, H⟩
    · replace H := H.2 hc3
      refine jm_bipush jd_Mod_say_26 jb_m4 ?_
      exact jm_ireturn jd_Mod_say_28 rfl (by decide) ⟨rfl, _, rfl, H⟩
  · replace H := H.2 hc2
    refine jm_bipush jd_Mod_say_14 jb_m2 ?_
    exact jm_ireturn jd_Mod_say_16 rfl (by decide) ⟨rfl, _, rfl, H⟩
set_option maxRecDepth 4000 in
theorem jb_Mod_wipe {E : jm_Env} {h : jm_H} {K : Int → jm_H → Prop} (H : K (h 78 1) (jm_up h 78 1 0)) : jm_CI E jm_SH jm_m_Mod_wipe 0 [jm_R 78] h K := by
  refine jm_body (ls0 := [some (jm_R 78), none]) (by decide +kernel) rfl rfl (Nat.le_of_ble_eq_true rfl) ?_
  refine jm_aload_n jd_Mod_wipe_0 rfl rfl ?_
  refine jm_gI jd_Mod_wipe_1 jf_Mod_130 jm_SH_78 ?_
  refine jm_istore_n (i := 1) jd_Mod_wipe_4 rfl (by decide) (ls2 := [some (jm_R 78), some (jm_I (h 78 1))]) rfl ?_
  refine jm_aload_n jd_Mod_wipe_5 rfl rfl ?_
  refine jm_iconst jd_Mod_wipe_6 (jm_o32c rfl) ?_
  refine jm_sI jd_Mod_wipe_7 jp_Mod_130 jm_SH_78 ?_
  refine jm_iload_n jd_Mod_wipe_10 rfl rfl ?_
  exact jm_ireturn jd_Mod_wipe_11 rfl (by decide) ⟨rfl, _, rfl, H⟩
set_option maxRecDepth 4000 in
theorem jb_Mod_partsOf {E : jm_Env} {x0 : Int} {h : jm_H} {K : Int → jm_H → Prop} (H : ((x0 = 43) → K 2 h) ∧ ((¬ x0 = 43) → ((x0 = 45) → K 2 h) ∧ ((¬ x0 = 45) → ((x0 = 42) → K 2 h) ∧ ((¬ x0 = 42) → ((¬ x0 = 38) → ((x0 = 126) → K 1 h) ∧ ((¬ x0 = 126) → ((¬ x0 = 64) → K 0 h) ∧ ((x0 = 64) → K 1 h))) ∧ ((x0 = 38) → K 2 h))))) : jm_CI E jm_SH jm_m_Mod_partsOf 0 [jm_I x0] h K := by
  refine jm_body (ls0 := [some (jm_I x0)]) (by decide +kernel) rfl rfl (Nat.le_of_ble_eq_true rfl) ?_
  refine jm_iload_n jd_Mod_partsOf_0 rfl rfl ?_
  refine jm_bipush jd_Mod_partsOf_1 jb_43 ?_
  refine jm_icmp_eq (tgt := 24) jd_Mod_partsOf_3 rfl (fun hc1 => ?_) (fun hc1 => ?_)
  · replace H := H.1 hc1
    refine jm_iconst jd_Mod_partsOf_24 (jm_o32c rfl) ?_
    refine jm_goto (tgt := 45) jd_Mod_partsOf_25 rfl ?_
    exact jm_ireturn jd_Mod_partsOf_45 rfl (by decide) ⟨rfl, _, rfl, H⟩
  · replace H := H.2 hc1
    refine jm_iload_n jd_Mod_partsOf_6 rfl rfl ?_
    refine jm_bipush jd_Mod_partsOf_7 jb_45 ?_
    refine jm_icmp_eq (tgt := 24) jd_Mod_partsOf_9 rfl (fun hc2 => ?_) (fun hc2 => ?_)
    · replace H := H.1 hc2
      refine jm_iconst jd_Mod_partsOf_24 (jm_o32c rfl) ?_
      refine jm_goto (tgt := 45) jd_Mod_partsOf_25 rfl ?_
      exact jm_ireturn jd_Mod_partsOf_45 rfl (by decide) ⟨rfl, _, rfl, H⟩
    · replace H := H.2 hc2
      refine jm_iload_n jd_Mod_partsOf_12 rfl rfl ?_
      refine jm_bipush jd_Mod_partsOf_13 jb_42 ?_
      refine jm_icmp_eq (tgt := 24) jd_Mod_partsOf_15 rfl (fun hc3 => ?_) (fun hc3 => ?_)
      · replace H := H.1 hc3
        refine jm_iconst jd_Mod_partsOf_24 (jm_o32c rfl) ?_
        refine jm_goto (tgt := 45) jd_Mod_partsOf_25 rfl ?_
        exact jm_ireturn jd_Mod_partsOf_45 rfl (by decide) ⟨rfl, _, rfl, H⟩
      · replace H := H.2 hc3
        refine jm_iload_n jd_Mod_partsOf_18 rfl rfl ?_
        refine jm_bipush jd_Mod_partsOf_19 jb_38 ?_
        refine jm_icmp_ne (tgt := 28) jd_Mod_partsOf_21 rfl (fun hc4 => ?_) (fun hc4 => ?_)
        · replace H := H.1 hc4
          refine jm_iload_n jd_Mod_partsOf_28 rfl rfl ?_
          refine jm_bipush jd_Mod_partsOf_29 jb_126 ?_
          refine jm_icmp_eq (tgt := 40) jd_Mod_partsOf_31 rfl (fun hc5 => ?_) (fun hc5 => ?_)
          · replace H := H.1 hc5
            refine jm_iconst jd_Mod_partsOf_40 (jm_o32c rfl) ?_
            refine jm_goto (tgt := 45) jd_Mod_partsOf_41 rfl ?_
            exact jm_ireturn jd_Mod_partsOf_45 rfl (by decide) ⟨rfl, _, rfl, H⟩
          · replace H := H.2 hc5
            refine jm_iload_n jd_Mod_partsOf_34 rfl rfl ?_
            refine jm_bipush jd_Mod_partsOf_35 jb_64 ?_
            refine jm_icmp_ne (tgt := 44) jd_Mod_partsOf_37 rfl (fun hc6 => ?_) (fun hc6 => ?_)
            · replace H := H.1 hc6
              refine jm_iconst jd_Mod_partsOf_44 (jm_o32c rfl) ?_
              exact jm_ireturn jd_Mod_partsOf_45 rfl (by decide) ⟨rfl, _, rfl, H⟩
            · replace H := H.2 hc6
              refine jm_iconst jd_Mod_partsOf_40 (jm_o32c rfl) ?_
              refine jm_goto (tgt := 45) jd_Mod_partsOf_41 rfl ?_
              exact jm_ireturn jd_Mod_partsOf_45 rfl (by decide) ⟨rfl, _, rfl, H⟩
        · replace H := H.2 hc4
          refine jm_iconst jd_Mod_partsOf_24 (jm_o32c rfl) ?_
          refine jm_goto (tgt := 45) jd_Mod_partsOf_25 rfl ?_
          exact jm_ireturn jd_Mod_partsOf_45 rfl (by decide) ⟨rfl, _, rfl, H⟩
set_option maxRecDepth 4000 in
theorem jb_Mod_isNumber {E : jm_Env} {x0 : Int} {h : jm_H} {K : Int → jm_H → Prop} (H : jm_CI E jm_SH jm_m_Mod_in 0 [jm_L x0, jm_L 48, jm_L 57] h (fun v1 h1 => (v1 = 0 ∨ v1 = 1) ∧ K v1 h1)) : jm_CI E jm_SH jm_m_Mod_isNumber 1 [jm_I x0] h K := by
  refine jm_body (ls0 := [some (jm_I x0)]) (by decide +kernel) rfl rfl (Nat.le_of_ble_eq_true rfl) ?_
  refine jm_iload_n jd_Mod_isNumber_0 rfl rfl ?_
  refine jm_i2l jd_Mod_isNumber_1 ?_
  refine jm_ldc2 (x := 48) jd_Mod_isNumber_2 jc_1006 (jm_o64c rfl) ?_
  refine jm_ldc2 (x := 57) jd_Mod_isNumber_5 jc_1007 (jm_o64c rfl) ?_
  refine jm_cS (M' := jm_m_Mod_in) (d' := 0) (av := [jm_L x0, jm_L 48, jm_L 57]) jd_Mod_isNumber_8 jk_Mod_in jw_978 rfl (by omega) ⟨rfl, rfl⟩ (by decide) (Nat.le_of_ble_eq_true rfl) (jm_hqI (fun v1 h1 H => ?_)) H
  exact jm_zreturn jd_Mod_isNumber_11 rfl H.1 (by decide) ⟨rfl, _, rfl, H.2⟩
set_option maxRecDepth 4000 in
theorem jb_Mod_isVariable {E : jm_Env} {x0 : Int} {h : jm_H} {K : Int → jm_H → Prop} (H : jm_CI E jm_SH jm_m_Mod_in 0 [jm_L x0, jm_L 97, jm_L 104] h (fun v1 h1 => (v1 = 0 ∨ v1 = 1) ∧ K v1 h1)) : jm_CI E jm_SH jm_m_Mod_isVariable 1 [jm_I x0] h K := by
  refine jm_body (ls0 := [some (jm_I x0)]) (by decide +kernel) rfl rfl (Nat.le_of_ble_eq_true rfl) ?_
  refine jm_iload_n jd_Mod_isVariable_0 rfl rfl ?_
  refine jm_i2l jd_Mod_isVariable_1 ?_
  refine jm_ldc2 (x := 97) jd_Mod_isVariable_2 jc_1011 (jm_o64c rfl) ?_
  refine jm_ldc2 (x := 104) jd_Mod_isVariable_5 jc_1012 (jm_o64c rfl) ?_
  refine jm_cS (M' := jm_m_Mod_in) (d' := 0) (av := [jm_L x0, jm_L 97, jm_L 104]) jd_Mod_isVariable_8 jk_Mod_in jw_978 rfl (by omega) ⟨rfl, rfl⟩ (by decide) (Nat.le_of_ble_eq_true rfl) (jm_hqI (fun v1 h1 H => ?_)) H
  exact jm_zreturn jd_Mod_isVariable_11 rfl H.1 (by decide) ⟨rfl, _, rfl, H.2⟩
set_option maxRecDepth 4000 in
theorem jb_Mod_isLeaf {E : jm_Env} {x0 x1 : Int} {h : jm_H} {K : Int → jm_H → Prop} (H : jm_CI E jm_SH jm_m_Mod_isNumber 1 [jm_I x0] h (fun v1 h1 => ((¬ v1 = 0) → K 1 h1) ∧ ((v1 = 0) → ((x1 = 0) → jm_CI E jm_SH jm_m_Mod_isVariable 1 [jm_I x0] h1 (fun v4 h4 => ((v4 = 0) → K 0 h4) ∧ ((¬ v4 = 0) → K 1 h4))) ∧ ((¬ x1 = 0) → ((x0 = 82) → K 1 h1) ∧ ((¬ x0 = 82) → ((x0 = 65) → K 1 h1) ∧ ((¬ x0 = 65) → ((x0 = 75) → K 1 h1) ∧ ((¬ x0 = 75) → ((¬ x0 = 86) → K 0 h1) ∧ ((x0 = 86) → K 1 h1)))))))) : jm_CI E jm_SH jm_m_Mod_isLeaf 2 [jm_I x0, jm_I x1] h K := by
  refine jm_body (ls0 := [some (jm_I x0), some (jm_I x1)]) (by decide +kernel) rfl rfl (Nat.le_of_ble_eq_true rfl) ?_
  refine jm_iload_n jd_Mod_isLeaf_0 rfl rfl ?_
  refine jm_cS (M' := jm_m_Mod_isNumber) (d' := 1) (av := [jm_I x0]) jd_Mod_isLeaf_1 jk_Mod_isNumber jw_1003 rfl (by omega) ⟨rfl, rfl⟩ (by decide) (Nat.le_of_ble_eq_true rfl) (jm_hqI (fun v1 h1 H => ?_)) H
  refine jm_if_ne (tgt := 45) jd_Mod_isLeaf_4 rfl (fun hc2 => ?_) (fun hc2 => ?_)
  · replace H := H.1 hc2
    refine jm_iconst jd_Mod_isLeaf_45 (jm_o32c rfl) ?_
    refine jm_goto (tgt := 50) jd_Mod_isLeaf_46 rfl ?_
    exact jm_zreturn jd_Mod_isLeaf_50 rfl (Or.inr rfl) (by decide) ⟨rfl, _, rfl, H⟩
  · replace H := H.2 hc2
    refine jm_iload_n jd_Mod_isLeaf_7 rfl rfl ?_
    refine jm_if_eq (tgt := 38) jd_Mod_isLeaf_8 rfl (fun hc3 => ?_) (fun hc3 => ?_)
    · replace H := H.1 hc3
      refine jm_iload_n jd_Mod_isLeaf_38 rfl rfl ?_
      refine jm_cS (M' := jm_m_Mod_isVariable) (d' := 1) (av := [jm_I x0]) jd_Mod_isLeaf_39 jk_Mod_isVariable jw_1008 rfl (by omega) ⟨rfl, rfl⟩ (by decide) (Nat.le_of_ble_eq_true rfl) (jm_hqI (fun v4 h4 H => ?_)) H
      refine jm_if_eq (tgt := 49) jd_Mod_isLeaf_42 rfl (fun hc5 => ?_) (fun hc5 => ?_)
      · replace H := H.1 hc5
        refine jm_iconst jd_Mod_isLeaf_49 (jm_o32c rfl) ?_
        exact jm_zreturn jd_Mod_isLeaf_50 rfl (Or.inl rfl) (by decide) ⟨rfl, _, rfl, H⟩
      · replace H := H.2 hc5
        refine jm_iconst jd_Mod_isLeaf_45 (jm_o32c rfl) ?_
        refine jm_goto (tgt := 50) jd_Mod_isLeaf_46 rfl ?_
        exact jm_zreturn jd_Mod_isLeaf_50 rfl (Or.inr rfl) (by decide) ⟨rfl, _, rfl, H⟩
    · replace H := H.2 hc3
      refine jm_iload_n jd_Mod_isLeaf_11 rfl rfl ?_
      refine jm_bipush jd_Mod_isLeaf_12 jb_82 ?_
      refine jm_icmp_eq (tgt := 45) jd_Mod_isLeaf_14 rfl (fun hc6 => ?_) (fun hc6 => ?_)
      · replace H := H.1 hc6
        refine jm_iconst jd_Mod_isLeaf_45 (jm_o32c rfl) ?_
        refine jm_goto (tgt := 50) jd_Mod_isLeaf_46 rfl ?_
        exact jm_zreturn jd_Mod_isLeaf_50 rfl (Or.inr rfl) (by decide) ⟨rfl, _, rfl, H⟩
      · replace H := H.2 hc6
        refine jm_iload_n jd_Mod_isLeaf_17 rfl rfl ?_
        refine jm_bipush jd_Mod_isLeaf_18 jb_65 ?_
        refine jm_icmp_eq (tgt := 45) jd_Mod_isLeaf_20 rfl (fun hc7 => ?_) (fun hc7 => ?_)
        · replace H := H.1 hc7
          refine jm_iconst jd_Mod_isLeaf_45 (jm_o32c rfl) ?_
          refine jm_goto (tgt := 50) jd_Mod_isLeaf_46 rfl ?_
          exact jm_zreturn jd_Mod_isLeaf_50 rfl (Or.inr rfl) (by decide) ⟨rfl, _, rfl, H⟩
        · replace H := H.2 hc7
          refine jm_iload_n jd_Mod_isLeaf_23 rfl rfl ?_
          refine jm_bipush jd_Mod_isLeaf_24 jb_75 ?_
          refine jm_icmp_eq (tgt := 45) jd_Mod_isLeaf_26 rfl (fun hc8 => ?_) (fun hc8 => ?_)
          · replace H := H.1 hc8
            refine jm_iconst jd_Mod_isLeaf_45 (jm_o32c rfl) ?_
            refine jm_goto (tgt := 50) jd_Mod_isLeaf_46 rfl ?_
            exact jm_zreturn jd_Mod_isLeaf_50 rfl (Or.inr rfl) (by decide) ⟨rfl, _, rfl, H⟩
          · replace H := H.2 hc8
            refine jm_iload_n jd_Mod_isLeaf_29 rfl rfl ?_
            refine jm_bipush jd_Mod_isLeaf_30 jb_86 ?_
            refine jm_icmp_ne (tgt := 49) jd_Mod_isLeaf_32 rfl (fun hc9 => ?_) (fun hc9 => ?_)
            · replace H := H.1 hc9
              refine jm_iconst jd_Mod_isLeaf_49 (jm_o32c rfl) ?_
              exact jm_zreturn jd_Mod_isLeaf_50 rfl (Or.inl rfl) (by decide) ⟨rfl, _, rfl, H⟩
            · replace H := H.2 hc9
              refine jm_goto (tgt := 45) jd_Mod_isLeaf_35 rfl ?_
              refine jm_iconst jd_Mod_isLeaf_45 (jm_o32c rfl) ?_
              refine jm_goto (tgt := 50) jd_Mod_isLeaf_46 rfl ?_
              exact jm_zreturn jd_Mod_isLeaf_50 rfl (Or.inr rfl) (by decide) ⟨rfl, _, rfl, H⟩
set_option maxRecDepth 4000 in
theorem jb_Mod_depthOf {E : jm_Env} {x1 : Int} {h : jm_H} {K : Int → jm_H → Prop} (H : (0 ≤ x1 ∧ x1 < 60) ∧ (jm_BI E jm_SH jm_m_Mod_depthOf 0 9 [some (jm_R 78), none, some (jm_I 0), some (jm_I (h 83 (Int.toNat x1)))] [] h K)) : jm_CI E jm_SH jm_m_Mod_depthOf 0 [jm_R 78, jm_I x1] h K := by
  refine jm_body (ls0 := [some (jm_R 78), some (jm_I x1), none, none]) (by decide +kernel) rfl rfl (Nat.le_of_ble_eq_true rfl) ?_
  refine jm_iconst jd_Mod_depthOf_0 (jm_o32c rfl) ?_
  refine jm_istore_n (i := 2) jd_Mod_depthOf_1 rfl (by decide) (ls2 := [some (jm_R 78), some (jm_I x1), some (jm_I 0), none]) rfl ?_
  refine jm_aload_n jd_Mod_depthOf_2 rfl rfl ?_
  refine jm_gR jd_Mod_depthOf_3 jf_Mod_22 jm_SH_78 rfl ?_
  refine jm_iload_n jd_Mod_depthOf_6 rfl rfl ?_
  obtain ⟨hb1, H⟩ := H
  refine jm_iaload jd_Mod_depthOf_7 jm_SH_83 hb1 ?_
  refine jm_istore_n (i := 3) jd_Mod_depthOf_8 rfl (by decide) (ls2 := [some (jm_R 78), some (jm_I x1), some (jm_I 0), some (jm_I (h 83 (Int.toNat x1)))]) rfl ?_
  refine jm_keepG [true, false, true, true] (ls2 := [some (jm_R 78), none, some (jm_I 0), some (jm_I (h 83 (Int.toNat x1)))]) (by rfl) (by rfl) ?_
  exact H
set_option maxRecDepth 4000 in
theorem jb_Mod_depthOf_9 {E : jm_Env} {x2 x3 : Int} {h : jm_H} {K : Int → jm_H → Prop} (H : ((x3 < 0) → K x2 h) ∧ ((¬ x3 < 0) → (0 ≤ x3 ∧ x3 < 60) ∧ (jm_BI E jm_SH jm_m_Mod_depthOf 0 9 [some (jm_R 78), none, some (jm_I (jm_w32 (x2 + 1))), some (jm_I (h 83 (Int.toNat x3)))] [] h K))) : jm_BI E jm_SH jm_m_Mod_depthOf 0 9 [some (jm_R 78), none, some (jm_I x2), some (jm_I x3)] [] h K := by
  refine jm_iload_n jd_Mod_depthOf_9 rfl rfl ?_
  refine jm_if_lt (tgt := 26) jd_Mod_depthOf_10 rfl (fun hc1 => ?_) (fun hc1 => ?_)
  · replace H := H.1 hc1
    refine jm_iload_n jd_Mod_depthOf_26 rfl rfl ?_
    exact jm_ireturn jd_Mod_depthOf_27 rfl (by decide) ⟨rfl, _, rfl, H⟩
  · replace H := H.2 hc1
    refine jm_iinc jd_Mod_depthOf_13 rfl (by decide) (ls2 := [some (jm_R 78), none, some (jm_I (jm_w32 (x2 + 1))), some (jm_I x3)]) rfl ?_
    refine jm_aload_n jd_Mod_depthOf_16 rfl rfl ?_
    refine jm_gR jd_Mod_depthOf_17 jf_Mod_22 jm_SH_78 rfl ?_
    refine jm_iload_n jd_Mod_depthOf_20 rfl rfl ?_
    obtain ⟨hb2, H⟩ := H
    refine jm_iaload jd_Mod_depthOf_21 jm_SH_83 hb2 ?_
    refine jm_istore_n (i := 3) jd_Mod_depthOf_22 rfl (by decide) (ls2 := [some (jm_R 78), none, some (jm_I (jm_w32 (x2 + 1))), some (jm_I (h 83 (Int.toNat x3)))]) rfl ?_
    refine jm_goto (tgt := 9) jd_Mod_depthOf_23 rfl ?_
    exact H
set_option maxRecDepth 4000 in
theorem jb_Mod_walk {E : jm_Env} {x1 : Int} {h : jm_H} {K : Int → jm_H → Prop} (H : jm_BI E jm_SH jm_m_Mod_walk 3 12 [some (jm_R 78), some (jm_I x1), some (jm_I (-1)), some (jm_I 0), some (jm_I 0), none, none] [] (jm_up h 78 8 0) K) : jm_CI E jm_SH jm_m_Mod_walk 3 [jm_R 78, jm_I x1] h K := by
  refine jm_body (ls0 := [some (jm_R 78), some (jm_I x1), none, none, none, none, none]) (by decide +kernel) rfl rfl (Nat.le_of_ble_eq_true rfl) ?_
  refine jm_aload_n jd_Mod_walk_0 rfl rfl ?_
  refine jm_iconst jd_Mod_walk_1 (jm_o32c rfl) ?_
  refine jm_sI jd_Mod_walk_2 jp_Mod_148 jm_SH_78 ?_
  refine jm_iconst jd_Mod_walk_5 (jm_o32c rfl) ?_
  refine jm_istore_n (i := 2) jd_Mod_walk_6 rfl (by decide) (ls2 := [some (jm_R 78), some (jm_I x1), some (jm_I (-1)), none, none, none, none]) rfl ?_
  refine jm_iconst jd_Mod_walk_7 (jm_o32c rfl) ?_
  refine jm_istore_n (i := 3) jd_Mod_walk_8 rfl (by decide) (ls2 := [some (jm_R 78), some (jm_I x1), some (jm_I (-1)), some (jm_I 0), none, none, none]) rfl ?_
  refine jm_iconst jd_Mod_walk_9 (jm_o32c rfl) ?_
  refine jm_istore (i := 4) jd_Mod_walk_10 (by decide) (ls2 := [some (jm_R 78), some (jm_I x1), some (jm_I (-1)), some (jm_I 0), some (jm_I 0), none, none]) rfl ?_
  exact H
set_option maxRecDepth 4000 in
theorem jb_Mod_walk_12 {E : jm_Env} {x1 x2 x3 x4 : Int} {h : jm_H} {K : Int → jm_H → Prop} (H : ((h 78 1 ≤ x4) → ((x3 = 0) → K (h 78 1) h) ∧ ((¬ x3 = 0) → K (-6) h)) ∧ ((¬ h 78 1 ≤ x4) → (0 ≤ x4 ∧ x4 < 60) ∧ (((x3 = 0) → (0 ≤ h 78 8 ∧ h 78 8 < 60) ∧ (jm_CI E jm_SH jm_m_Mod_partsOf 0 [jm_I (h 79 (Int.toNat x4))] (jm_up h 83 (Int.toNat (h 78 8)) x2) (fun v6 h6 => ((v6 ≤ 0) → jm_CI E jm_SH jm_m_Mod_isLeaf 2 [jm_I (h 79 (Int.toNat x4)), jm_I x1] h6 (fun v8 h8 => jm_BI E jm_SH jm_m_Mod_walk 3 82 [some (jm_R 78), some (jm_I x1), some (jm_I x2), none, some (jm_I x4), some (jm_I (h 79 (Int.toNat x4))), none] [jm_I v8] h8 K)) ∧ ((¬ v6 ≤ 0) → jm_CI E jm_SH jm_m_Mod_depthOf 0 [jm_R 78, jm_I (h6 78 8)] h6 (fun v9 h9 => ((12 ≤ v9) → jm_BI E jm_SH jm_m_Mod_walk 3 82 [some (jm_R 78), some (jm_I x1), some (jm_I x2), none, some (jm_I x4), some (jm_I (h 79 (Int.toNat x4))), none] [jm_I 0] h9 K) ∧ ((¬ 12 ≤ v9) → jm_BI E jm_SH jm_m_Mod_walk 3 82 [some (jm_R 78), some (jm_I x1), some (jm_I x2), none, some (jm_I x4), some (jm_I (h 79 (Int.toNat x4))), none] [jm_I 1] h9 K)))))) ∧ ((¬ x3 = 0) → K x4 h)))) : jm_BI E jm_SH jm_m_Mod_walk 3 12 [some (jm_R 78), some (jm_I x1), some (jm_I x2), some (jm_I x3), some (jm_I x4), none, none] [] h K := by
  refine jm_iload jd_Mod_walk_12 rfl ?_
  refine jm_aload_n jd_Mod_walk_14 rfl rfl ?_
  refine jm_gI jd_Mod_walk_15 jf_Mod_130 jm_SH_78 ?_
  refine jm_icmp_ge (tgt := 164) jd_Mod_walk_18 rfl (fun hc1 => ?_) (fun hc1 => ?_)
  · replace H := H.1 hc1
    refine jm_iload_n jd_Mod_walk_164 rfl rfl ?_
    refine jm_if_eq (tgt := 173) jd_Mod_walk_165 rfl (fun hc2 => ?_) (fun hc2 => ?_)
    · replace H := H.1 hc2
      refine jm_aload_n jd_Mod_walk_173 rfl rfl ?_
      refine jm_gI jd_Mod_walk_174 jf_Mod_130 jm_SH_78 ?_
      exact jm_ireturn jd_Mod_walk_177 rfl (by decide) ⟨rfl, _, rfl, H⟩
    · replace H := H.2 hc2
      refine jm_bipush jd_Mod_walk_168 jb_m6 ?_
      refine jm_goto (tgt := 177) jd_Mod_walk_170 rfl ?_
      exact jm_ireturn jd_Mod_walk_177 rfl (by decide) ⟨rfl, _, rfl, H⟩
  · replace H := H.2 hc1
    refine jm_aload_n jd_Mod_walk_21 rfl rfl ?_
    refine jm_gR jd_Mod_walk_22 jf_Mod_7 jm_SH_78 rfl ?_
    refine jm_iload jd_Mod_walk_25 rfl ?_
    obtain ⟨hb3, H⟩ := H
    refine jm_iaload jd_Mod_walk_27 jm_SH_79 hb3 ?_
    refine jm_istore (i := 5) jd_Mod_walk_28 (by decide) (ls2 := [some (jm_R 78), some (jm_I x1), some (jm_I x2), some (jm_I x3), some (jm_I x4), some (jm_I (h 79 (Int.toNat x4))), none]) rfl ?_
    refine jm_iload_n jd_Mod_walk_30 rfl rfl ?_
    refine jm_if_eq (tgt := 37) jd_Mod_walk_31 rfl (fun hc4 => ?_) (fun hc4 => ?_)
    · replace H := H.1 hc4
      refine jm_aload_n jd_Mod_walk_37 rfl rfl ?_
      refine jm_gR jd_Mod_walk_38 jf_Mod_22 jm_SH_78 rfl ?_
      refine jm_aload_n jd_Mod_walk_41 rfl rfl ?_
      refine jm_gI jd_Mod_walk_42 jf_Mod_148 jm_SH_78 ?_
      refine jm_iload_n jd_Mod_walk_45 rfl rfl ?_
      obtain ⟨hb5, H⟩ := H
      refine jm_iastore jd_Mod_walk_46 jm_SH_83 hb5 ?_
      refine jm_iload jd_Mod_walk_47 rfl ?_
      refine jm_cS (M' := jm_m_Mod_partsOf) (d' := 0) (av := [jm_I (h 79 (Int.toNat x4))]) jd_Mod_walk_49 jk_Mod_partsOf jw_993 rfl (by omega) ⟨rfl, rfl⟩ (by decide) (Nat.le_of_ble_eq_true rfl) (jm_hqI (fun v6 h6 H => ?_)) H
      refine jm_if_le (tgt := 76) jd_Mod_walk_52 rfl (fun hc7 => ?_) (fun hc7 => ?_)
      · replace H := H.1 hc7
        refine jm_iload jd_Mod_walk_76 rfl ?_
        refine jm_iload_n jd_Mod_walk_78 rfl rfl ?_
        refine jm_cS (M' := jm_m_Mod_isLeaf) (d' := 2) (av := [jm_I (h 79 (Int.toNat x4)), jm_I x1]) jd_Mod_walk_79 jk_Mod_isLeaf jw_1000 rfl (by omega) ⟨rfl, rfl⟩ (by decide) (Nat.le_of_ble_eq_true rfl) (jm_hqI (fun v8 h8 H => ?_)) H
        refine jm_keepG [true, true, true, false, true, true, false] (ls2 := [some (jm_R 78), some (jm_I x1), some (jm_I x2), none, some (jm_I x4), some (jm_I (h 79 (Int.toNat x4))), none]) (by rfl) (by rfl) ?_
        exact H
      · replace H := H.2 hc7
        refine jm_aload_n jd_Mod_walk_55 rfl rfl ?_
        refine jm_aload_n jd_Mod_walk_56 rfl rfl ?_
        refine jm_gI jd_Mod_walk_57 jf_Mod_148 jm_SH_78 ?_
        refine jm_cV (M' := jm_m_Mod_depthOf) (d' := 0) (av := [jm_I (h6 78 8)]) jd_Mod_walk_60 jk_Mod_depthOf jw_996 rfl (by omega) ⟨rfl, rfl⟩ (by decide) (Nat.le_of_ble_eq_true rfl) jm_SH_78 rfl rfl (jm_hqI (fun v9 h9 H => ?_)) H
        refine jm_bipush jd_Mod_walk_63 jb_12 ?_
        refine jm_icmp_ge (tgt := 72) jd_Mod_walk_65 rfl (fun hc10 => ?_) (fun hc10 => ?_)
        · replace H := H.1 hc10
          refine jm_iconst jd_Mod_walk_72 (jm_o32c rfl) ?_
          refine jm_goto (tgt := 82) jd_Mod_walk_73 rfl ?_
          refine jm_keepG [true, true, true, false, true, true, false] (ls2 := [some (jm_R 78), some (jm_I x1), some (jm_I x2), none, some (jm_I x4), some (jm_I (h 79 (Int.toNat x4))), none]) (by rfl) (by rfl) ?_
          exact H
        · replace H := H.2 hc10
          refine jm_iconst jd_Mod_walk_68 (jm_o32c rfl) ?_
          refine jm_goto (tgt := 82) jd_Mod_walk_69 rfl ?_
          refine jm_keepG [true, true, true, false, true, true, false] (ls2 := [some (jm_R 78), some (jm_I x1), some (jm_I x2), none, some (jm_I x4), some (jm_I (h 79 (Int.toNat x4))), none]) (by rfl) (by rfl) ?_
          exact H
    · replace H := H.2 hc4
      refine jm_iload jd_Mod_walk_34 rfl ?_
      exact jm_ireturn jd_Mod_walk_36 rfl (by decide) ⟨rfl, _, rfl, H⟩
set_option maxRecDepth 4000 in
theorem jb_Mod_walk_82 {E : jm_Env} {x1 x2 x4 x5 s0 : Int} {h : jm_H} {K : Int → jm_H → Prop} (H : ((¬ s0 = 0) → (0 ≤ h 78 8 ∧ h 78 8 < 60) ∧ (jm_CI E jm_SH jm_m_Mod_partsOf 0 [jm_I x5] (jm_up h 82 (Int.toNat (h 78 8)) x5) (fun v3 h3 => (0 ≤ h 78 8 ∧ h 78 8 < 60) ∧ (jm_CI E jm_SH jm_m_Mod_partsOf 0 [jm_I x5] (jm_up h3 84 (Int.toNat (h 78 8)) v3) (fun v5 h5 => ((v5 ≤ 0) → jm_CI E jm_SH jm_m_Mod_closed 0 [jm_R 78, jm_I x2] h5 (fun v7 h7 => ((0 ≤ v7) → jm_BI E jm_SH jm_m_Mod_walk 3 12 [some (jm_R 78), some (jm_I x1), some (jm_I v7), some (jm_I 0), some (jm_I (jm_w32 (x4 + 1))), none, none] [] (jm_up h7 78 8 (jm_w32 ((h7 78 8) + 1))) K) ∧ ((¬ 0 ≤ v7) → jm_BI E jm_SH jm_m_Mod_walk 3 12 [some (jm_R 78), some (jm_I x1), some (jm_I v7), some (jm_I 1), some (jm_I (jm_w32 (x4 + 1))), none, none] [] (jm_up h7 78 8 (jm_w32 ((h7 78 8) + 1))) K))) ∧ ((¬ v5 ≤ 0) → ((0 ≤ h5 78 8) → jm_BI E jm_SH jm_m_Mod_walk 3 12 [some (jm_R 78), some (jm_I x1), some (jm_I (h5 78 8)), some (jm_I 0), some (jm_I (jm_w32 (x4 + 1))), none, none] [] (jm_up h5 78 8 (jm_w32 ((h5 78 8) + 1))) K) ∧ ((¬ 0 ≤ h5 78 8) → jm_BI E jm_SH jm_m_Mod_walk 3 12 [some (jm_R 78), some (jm_I x1), some (jm_I (h5 78 8)), some (jm_I 1), some (jm_I (jm_w32 (x4 + 1))), none, none] [] (jm_up h5 78 8 (jm_w32 ((h5 78 8) + 1))) K))))))) ∧ ((s0 = 0) → K x4 h)) : jm_BI E jm_SH jm_m_Mod_walk 3 82 [some (jm_R 78), some (jm_I x1), some (jm_I x2), none, some (jm_I x4), some (jm_I x5), none] [jm_I s0] h K := by
  refine jm_istore (i := 6) jd_Mod_walk_82 (by decide) (ls2 := [some (jm_R 78), some (jm_I x1), some (jm_I x2), none, some (jm_I x4), some (jm_I x5), some (jm_I s0)]) rfl ?_
  refine jm_iload jd_Mod_walk_84 rfl ?_
  refine jm_if_ne (tgt := 92) jd_Mod_walk_86 rfl (fun hc1 => ?_) (fun hc1 => ?_)
  · replace H := H.1 hc1
    refine jm_aload_n jd_Mod_walk_92 rfl rfl ?_
    refine jm_gR jd_Mod_walk_93 jf_Mod_19 jm_SH_78 rfl ?_
    refine jm_aload_n jd_Mod_walk_96 rfl rfl ?_
    refine jm_gI jd_Mod_walk_97 jf_Mod_148 jm_SH_78 ?_
    refine jm_iload jd_Mod_walk_100 rfl ?_
    obtain ⟨hb2, H⟩ := H
    refine jm_iastore jd_Mod_walk_102 jm_SH_82 hb2 ?_
    refine jm_aload_n jd_Mod_walk_103 rfl rfl ?_
    refine jm_gR jd_Mod_walk_104 jf_Mod_25 jm_SH_78 rfl ?_
    refine jm_aload_n jd_Mod_walk_107 rfl rfl ?_
    refine jm_gI jd_Mod_walk_108 jf_Mod_148 jm_SH_78 ?_
    refine jm_topI (y := h 78 8) rfl ?_
    refine jm_iload jd_Mod_walk_111 rfl ?_
    refine jm_cS (M' := jm_m_Mod_partsOf) (d' := 0) (av := [jm_I x5]) jd_Mod_walk_113 jk_Mod_partsOf jw_993 rfl (by omega) ⟨rfl, rfl⟩ (by decide) (Nat.le_of_ble_eq_true rfl) (jm_hqI (fun v3 h3 H => ?_)) H
    obtain ⟨hb4, H⟩ := H
    refine jm_iastore jd_Mod_walk_116 jm_SH_84 hb4 ?_
    refine jm_iload jd_Mod_walk_117 rfl ?_
    refine jm_cS (M' := jm_m_Mod_partsOf) (d' := 0) (av := [jm_I x5]) jd_Mod_walk_119 jk_Mod_partsOf jw_993 rfl (by omega) ⟨rfl, rfl⟩ (by decide) (Nat.le_of_ble_eq_true rfl) (jm_hqI (fun v5 h5 H => ?_)) H
    refine jm_if_le (tgt := 132) jd_Mod_walk_122 rfl (fun hc6 => ?_) (fun hc6 => ?_)
    · replace H := H.1 hc6
      refine jm_aload_n jd_Mod_walk_132 rfl rfl ?_
      refine jm_iload_n jd_Mod_walk_133 rfl rfl ?_
      refine jm_cV (M' := jm_m_Mod_closed) (d' := 0) (av := [jm_I x2]) jd_Mod_walk_134 jk_Mod_closed jw_1013 rfl (by omega) ⟨rfl, rfl⟩ (by decide) (Nat.le_of_ble_eq_true rfl) jm_SH_78 rfl rfl (jm_hqI (fun v7 h7 H => ?_)) H
      refine jm_istore_n (i := 2) jd_Mod_walk_137 rfl (by decide) (ls2 := [some (jm_R 78), some (jm_I x1), some (jm_I v7), none, some (jm_I x4), some (jm_I x5), some (jm_I s0)]) rfl ?_
      refine jm_iload_n jd_Mod_walk_138 rfl rfl ?_
      refine jm_if_ge (tgt := 146) jd_Mod_walk_139 rfl (fun hc8 => ?_) (fun hc8 => ?_)
      · replace H := H.1 hc8
        refine jm_iconst jd_Mod_walk_146 (jm_o32c rfl) ?_
        refine jm_istore_n (i := 3) jd_Mod_walk_147 rfl (by decide) (ls2 := [some (jm_R 78), some (jm_I x1), some (jm_I v7), some (jm_I 0), some (jm_I x4), some (jm_I x5), some (jm_I s0)]) rfl ?_
        refine jm_aload_n jd_Mod_walk_148 rfl rfl ?_
        refine jm_dup jd_Mod_walk_149 rfl ?_
        refine jm_gI jd_Mod_walk_150 jf_Mod_148 jm_SH_78 ?_
        refine jm_iconst jd_Mod_walk_153 (jm_o32c rfl) ?_
        refine jm_iadd jd_Mod_walk_154 ?_
        refine jm_sI jd_Mod_walk_155 jp_Mod_148 jm_SH_78 ?_
        refine jm_iinc jd_Mod_walk_158 rfl (by decide) (ls2 := [some (jm_R 78), some (jm_I x1), some (jm_I v7), some (jm_I 0), some (jm_I (jm_w32 (x4 + 1))), some (jm_I x5), some (jm_I s0)]) rfl ?_
        refine jm_goto (tgt := 12) jd_Mod_walk_161 rfl ?_
        refine jm_keepG [true, true, true, true, true, false, false] (ls2 := [some (jm_R 78), some (jm_I x1), some (jm_I v7), some (jm_I 0), some (jm_I (jm_w32 (x4 + 1))), none, none]) (by rfl) (by rfl) ?_
        exact H
      · replace H := H.2 hc8
        refine jm_iconst jd_Mod_walk_142 (jm_o32c rfl) ?_
        refine jm_goto (tgt := 147) jd_Mod_walk_143 rfl ?_
        refine jm_istore_n (i := 3) jd_Mod_walk_147 rfl (by decide) (ls2 := [some (jm_R 78), some (jm_I x1), some (jm_I v7), some (jm_I 1), some (jm_I x4), some (jm_I x5), some (jm_I s0)]) rfl ?_
        refine jm_aload_n jd_Mod_walk_148 rfl rfl ?_
        refine jm_dup jd_Mod_walk_149 rfl ?_
        refine jm_gI jd_Mod_walk_150 jf_Mod_148 jm_SH_78 ?_
        refine jm_iconst jd_Mod_walk_153 (jm_o32c rfl) ?_
        refine jm_iadd jd_Mod_walk_154 ?_
        refine jm_sI jd_Mod_walk_155 jp_Mod_148 jm_SH_78 ?_
        refine jm_iinc jd_Mod_walk_158 rfl (by decide) (ls2 := [some (jm_R 78), some (jm_I x1), some (jm_I v7), some (jm_I 1), some (jm_I (jm_w32 (x4 + 1))), some (jm_I x5), some (jm_I s0)]) rfl ?_
        refine jm_goto (tgt := 12) jd_Mod_walk_161 rfl ?_
        refine jm_keepG [true, true, true, true, true, false, false] (ls2 := [some (jm_R 78), some (jm_I x1), some (jm_I v7), some (jm_I 1), some (jm_I (jm_w32 (x4 + 1))), none, none]) (by rfl) (by rfl) ?_
        exact H
    · replace H := H.2 hc6
      refine jm_aload_n jd_Mod_walk_125 rfl rfl ?_
      refine jm_gI jd_Mod_walk_126 jf_Mod_148 jm_SH_78 ?_
      refine jm_goto (tgt := 137) jd_Mod_walk_129 rfl ?_
      refine jm_istore_n (i := 2) jd_Mod_walk_137 rfl (by decide) (ls2 := [some (jm_R 78), some (jm_I x1), some (jm_I (h5 78 8)), none, some (jm_I x4), some (jm_I x5), some (jm_I s0)]) rfl ?_
      refine jm_iload_n jd_Mod_walk_138 rfl rfl ?_
      refine jm_if_ge (tgt := 146) jd_Mod_walk_139 rfl (fun hc9 => ?_) (fun hc9 => ?_)
      · replace H := H.1 hc9
        refine jm_iconst jd_Mod_walk_146 (jm_o32c rfl) ?_
        refine jm_istore_n (i := 3) jd_Mod_walk_147 rfl (by decide) (ls2 := [some (jm_R 78), some (jm_I x1), some (jm_I (h5 78 8)), some (jm_I 0), some (jm_I x4), some (jm_I x5), some (jm_I s0)]) rfl ?_
        refine jm_aload_n jd_Mod_walk_148 rfl rfl ?_
        refine jm_dup jd_Mod_walk_149 rfl ?_
        refine jm_gI jd_Mod_walk_150 jf_Mod_148 jm_SH_78 ?_
        refine jm_iconst jd_Mod_walk_153 (jm_o32c rfl) ?_
        refine jm_iadd jd_Mod_walk_154 ?_
        refine jm_sI jd_Mod_walk_155 jp_Mod_148 jm_SH_78 ?_
        refine jm_iinc jd_Mod_walk_158 rfl (by decide) (ls2 := [some (jm_R 78), some (jm_I x1), some (jm_I (h5 78 8)), some (jm_I 0), some (jm_I (jm_w32 (x4 + 1))), some (jm_I x5), some (jm_I s0)]) rfl ?_
        refine jm_goto (tgt := 12) jd_Mod_walk_161 rfl ?_
        refine jm_keepG [true, true, true, true, true, false, false] (ls2 := [some (jm_R 78), some (jm_I x1), some (jm_I (h5 78 8)), some (jm_I 0), some (jm_I (jm_w32 (x4 + 1))), none, none]) (by rfl) (by rfl) ?_
        exact H
      · replace H := H.2 hc9
        refine jm_iconst jd_Mod_walk_142 (jm_o32c rfl) ?_
        refine jm_goto (tgt := 147) jd_Mod_walk_143 rfl ?_
        refine jm_istore_n (i := 3) jd_Mod_walk_147 rfl (by decide) (ls2 := [some (jm_R 78), some (jm_I x1), some (jm_I (h5 78 8)), some (jm_I 1), some (jm_I x4), some (jm_I x5), some (jm_I s0)]) rfl ?_
        refine jm_aload_n jd_Mod_walk_148 rfl rfl ?_
        refine jm_dup jd_Mod_walk_149 rfl ?_
        refine jm_gI jd_Mod_walk_150 jf_Mod_148 jm_SH_78 ?_
        refine jm_iconst jd_Mod_walk_153 (jm_o32c rfl) ?_
        refine jm_iadd jd_Mod_walk_154 ?_
        refine jm_sI jd_Mod_walk_155 jp_Mod_148 jm_SH_78 ?_
        refine jm_iinc jd_Mod_walk_158 rfl (by decide) (ls2 := [some (jm_R 78), some (jm_I x1), some (jm_I (h5 78 8)), some (jm_I 1), some (jm_I (jm_w32 (x4 + 1))), some (jm_I x5), some (jm_I s0)]) rfl ?_
        refine jm_goto (tgt := 12) jd_Mod_walk_161 rfl ?_
        refine jm_keepG [true, true, true, true, true, false, false] (ls2 := [some (jm_R 78), some (jm_I x1), some (jm_I (h5 78 8)), some (jm_I 1), some (jm_I (jm_w32 (x4 + 1))), none, none]) (by rfl) (by rfl) ?_
        exact H
  · replace H := H.2 hc1
    refine jm_iload jd_Mod_walk_89 rfl ?_
    exact jm_ireturn jd_Mod_walk_91 rfl (by decide) ⟨rfl, _, rfl, H⟩
set_option maxRecDepth 4000 in
theorem jb_Mod_closed {E : jm_Env} {x1 : Int} {h : jm_H} {K : Int → jm_H → Prop} (H : jm_BI E jm_SH jm_m_Mod_closed 0 2 [some (jm_R 78), none, some (jm_I x1)] [] h K) : jm_CI E jm_SH jm_m_Mod_closed 0 [jm_R 78, jm_I x1] h K := by
  refine jm_body (ls0 := [some (jm_R 78), some (jm_I x1), none]) (by decide +kernel) rfl rfl (Nat.le_of_ble_eq_true rfl) ?_
  refine jm_iload_n jd_Mod_closed_0 rfl rfl ?_
  refine jm_istore_n (i := 2) jd_Mod_closed_1 rfl (by decide) (ls2 := [some (jm_R 78), some (jm_I x1), some (jm_I x1)]) rfl ?_
  refine jm_keepG [true, false, true] (ls2 := [some (jm_R 78), none, some (jm_I x1)]) (by rfl) (by rfl) ?_
  exact H
set_option maxRecDepth 4000 in
theorem jb_Mod_closed_2 {E : jm_Env} {x2 : Int} {h : jm_H} {K : Int → jm_H → Prop} (H : ((x2 < 0) → K (-1) h) ∧ ((¬ x2 < 0) → (0 ≤ x2 ∧ x2 < 60) ∧ ((0 ≤ x2 ∧ x2 < 60) ∧ ((0 ≤ x2 ∧ x2 < 60) ∧ ((((jm_up h 84 (Int.toNat x2) (jm_w32 ((h 84 (Int.toNat x2)) - 1))) 84 (Int.toNat x2) ≤ 0) → (0 ≤ x2 ∧ x2 < 60) ∧ (jm_BI E jm_SH jm_m_Mod_closed 0 2 [some (jm_R 78), none, some (jm_I (h 83 (Int.toNat x2)))] [] (jm_up h 84 (Int.toNat x2) (jm_w32 ((h 84 (Int.toNat x2)) - 1))) K)) ∧ ((¬ (jm_up h 84 (Int.toNat x2) (jm_w32 ((h 84 (Int.toNat x2)) - 1))) 84 (Int.toNat x2) ≤ 0) → K x2 (jm_up h 84 (Int.toNat x2) (jm_w32 ((h 84 (Int.toNat x2)) - 1))))))))) : jm_BI E jm_SH jm_m_Mod_closed 0 2 [some (jm_R 78), none, some (jm_I x2)] [] h K := by
  refine jm_iload_n jd_Mod_closed_2 rfl rfl ?_
  refine jm_if_lt (tgt := 37) jd_Mod_closed_3 rfl (fun hc1 => ?_) (fun hc1 => ?_)
  · replace H := H.1 hc1
    refine jm_iconst jd_Mod_closed_37 (jm_o32c rfl) ?_
    exact jm_ireturn jd_Mod_closed_38 rfl (by decide) ⟨rfl, _, rfl, H⟩
  · replace H := H.2 hc1
    refine jm_aload_n jd_Mod_closed_6 rfl rfl ?_
    refine jm_gR jd_Mod_closed_7 jf_Mod_25 jm_SH_78 rfl ?_
    refine jm_iload_n jd_Mod_closed_10 rfl rfl ?_
    refine jm_dup2 jd_Mod_closed_11 rfl rfl ?_
    obtain ⟨hb2, H⟩ := H
    refine jm_iaload jd_Mod_closed_12 jm_SH_84 hb2 ?_
    refine jm_iconst jd_Mod_closed_13 (jm_o32c rfl) ?_
    refine jm_isub jd_Mod_closed_14 ?_
    obtain ⟨hb3, H⟩ := H
    refine jm_iastore jd_Mod_closed_15 jm_SH_84 hb3 ?_
    refine jm_aload_n jd_Mod_closed_16 rfl rfl ?_
    refine jm_gR jd_Mod_closed_17 jf_Mod_25 jm_SH_78 rfl ?_
    refine jm_iload_n jd_Mod_closed_20 rfl rfl ?_
    obtain ⟨hb4, H⟩ := H
    refine jm_iaload jd_Mod_closed_21 jm_SH_84 hb4 ?_
    refine jm_if_le (tgt := 27) jd_Mod_closed_22 rfl (fun hc5 => ?_) (fun hc5 => ?_)
    · replace H := H.1 hc5
      refine jm_aload_n jd_Mod_closed_27 rfl rfl ?_
      refine jm_gR jd_Mod_closed_28 jf_Mod_22 jm_SH_78 rfl ?_
      refine jm_iload_n jd_Mod_closed_31 rfl rfl ?_
      obtain ⟨hb6, H⟩ := H
      refine jm_iaload jd_Mod_closed_32 jm_SH_83 hb6 ?_
      refine jm_topI (y := h 83 (Int.toNat x2)) rfl ?_
      refine jm_istore_n (i := 2) jd_Mod_closed_33 rfl (by decide) (ls2 := [some (jm_R 78), none, some (jm_I (h 83 (Int.toNat x2)))]) rfl ?_
      refine jm_goto (tgt := 2) jd_Mod_closed_34 rfl ?_
      exact H
    · replace H := H.2 hc5
      refine jm_iload_n jd_Mod_closed_25 rfl rfl ?_
      exact jm_ireturn jd_Mod_closed_26 rfl (by decide) ⟨rfl, _, rfl, H⟩
set_option maxRecDepth 4000 in
theorem jb_Mod_fault {E : jm_Env} {h : jm_H} {K : Int → jm_H → Prop} (H : jm_CI E jm_SH jm_m_Mod_walk 3 [jm_R 78, jm_I 0] h (fun v1 h1 => K v1 h1)) : jm_CI E jm_SH jm_m_Mod_fault 4 [jm_R 78] h K := by
  refine jm_body (ls0 := [some (jm_R 78)]) (by decide +kernel) rfl rfl (Nat.le_of_ble_eq_true rfl) ?_
  refine jm_aload_n jd_Mod_fault_0 rfl rfl ?_
  refine jm_iconst jd_Mod_fault_1 (jm_o32c rfl) ?_
  refine jm_cV (M' := jm_m_Mod_walk) (d' := 3) (av := [jm_I 0]) jd_Mod_fault_2 jk_Mod_walk jw_989 rfl (by omega) ⟨rfl, rfl⟩ (by decide) (Nat.le_of_ble_eq_true rfl) jm_SH_78 rfl rfl (jm_hqI (fun v1 h1 H => ?_)) H
  exact jm_ireturn jd_Mod_fault_5 rfl (by decide) ⟨rfl, _, rfl, H⟩
set_option maxRecDepth 4000 in
theorem jb_Mod_read {E : jm_Env} {h : jm_H} {K : Int → jm_H → Prop} (H : jm_CI E jm_SH jm_m_Mod_walk 3 [jm_R 78, jm_I 0] h (fun v1 h1 => ((v1 < 0) → ((h1 78 8 ≤ 30) → jm_BI E jm_SH jm_m_Mod_read 4 33 [some (jm_R 78), some (jm_I 0)] [] (jm_up h1 78 4 (h1 78 8)) K) ∧ ((¬ h1 78 8 ≤ 30) → K (-4) h1)) ∧ ((¬ v1 < 0) → K (-5) h1))) : jm_CI E jm_SH jm_m_Mod_read 4 [jm_R 78] h K := by
  refine jm_body (ls0 := [some (jm_R 78), none]) (by decide +kernel) rfl rfl (Nat.le_of_ble_eq_true rfl) ?_
  refine jm_aload_n jd_Mod_read_0 rfl rfl ?_
  refine jm_iconst jd_Mod_read_1 (jm_o32c rfl) ?_
  refine jm_cV (M' := jm_m_Mod_walk) (d' := 3) (av := [jm_I 0]) jd_Mod_read_2 jk_Mod_walk jw_989 rfl (by omega) ⟨rfl, rfl⟩ (by decide) (Nat.le_of_ble_eq_true rfl) jm_SH_78 rfl rfl (jm_hqI (fun v1 h1 H => ?_)) H
  refine jm_if_lt (tgt := 11) jd_Mod_read_5 rfl (fun hc2 => ?_) (fun hc2 => ?_)
  · replace H := H.1 hc2
    refine jm_aload_n jd_Mod_read_11 rfl rfl ?_
    refine jm_gI jd_Mod_read_12 jf_Mod_148 jm_SH_78 ?_
    refine jm_bipush jd_Mod_read_15 jb_30 ?_
    refine jm_icmp_le (tgt := 23) jd_Mod_read_17 rfl (fun hc3 => ?_) (fun hc3 => ?_)
    · replace H := H.1 hc3
      refine jm_aload_n jd_Mod_read_23 rfl rfl ?_
      refine jm_aload_n jd_Mod_read_24 rfl rfl ?_
      refine jm_gI jd_Mod_read_25 jf_Mod_148 jm_SH_78 ?_
      refine jm_sI jd_Mod_read_28 jp_Mod_169 jm_SH_78 ?_
      refine jm_iconst jd_Mod_read_31 (jm_o32c rfl) ?_
      refine jm_istore_n (i := 1) jd_Mod_read_32 rfl (by decide) (ls2 := [some (jm_R 78), some (jm_I 0)]) rfl ?_
      exact H
    · replace H := H.2 hc3
      refine jm_bipush jd_Mod_read_20 jb_m4 ?_
      exact jm_ireturn jd_Mod_read_22 rfl (by decide) ⟨rfl, _, rfl, H⟩
  · replace H := H.2 hc2
    refine jm_bipush jd_Mod_read_8 jb_m5 ?_
    exact jm_ireturn jd_Mod_read_10 rfl (by decide) ⟨rfl, _, rfl, H⟩
set_option maxRecDepth 4000 in
theorem jb_Mod_read_33 {E : jm_Env} {x1 : Int} {h : jm_H} {K : Int → jm_H → Prop} (H : ((h 78 4 ≤ x1) → K (h 78 4) (jm_up h 78 1 0)) ∧ ((¬ h 78 4 ≤ x1) → (0 ≤ x1 ∧ x1 < 60) ∧ ((0 ≤ x1 ∧ x1 < 60) ∧ ((0 ≤ x1 ∧ x1 < 60) ∧ ((0 ≤ x1 ∧ x1 < 60) ∧ (jm_BI E jm_SH jm_m_Mod_read 4 33 [some (jm_R 78), some (jm_I (jm_w32 (x1 + 1)))] [] (jm_up (jm_up h 80 (Int.toNat x1) (h 82 (Int.toNat x1))) 81 (Int.toNat x1) (h 83 (Int.toNat x1))) K)))))) : jm_BI E jm_SH jm_m_Mod_read 4 33 [some (jm_R 78), some (jm_I x1)] [] h K := by
  refine jm_iload_n jd_Mod_read_33 rfl rfl ?_
  refine jm_aload_n jd_Mod_read_34 rfl rfl ?_
  refine jm_gI jd_Mod_read_35 jf_Mod_169 jm_SH_78 ?_
  refine jm_icmp_ge (tgt := 71) jd_Mod_read_38 rfl (fun hc1 => ?_) (fun hc1 => ?_)
  · replace H := H.1 hc1
    refine jm_aload_n jd_Mod_read_71 rfl rfl ?_
    refine jm_iconst jd_Mod_read_72 (jm_o32c rfl) ?_
    refine jm_sI jd_Mod_read_73 jp_Mod_130 jm_SH_78 ?_
    refine jm_aload_n jd_Mod_read_76 rfl rfl ?_
    refine jm_gI jd_Mod_read_77 jf_Mod_169 jm_SH_78 ?_
    refine jm_topI (y := h 78 4) rfl ?_
    exact jm_ireturn jd_Mod_read_80 rfl (by decide) ⟨rfl, _, rfl, H⟩
  · replace H := H.2 hc1
    refine jm_aload_n jd_Mod_read_41 rfl rfl ?_
    refine jm_gR jd_Mod_read_42 jf_Mod_13 jm_SH_78 rfl ?_
    refine jm_iload_n jd_Mod_read_45 rfl rfl ?_
    refine jm_aload_n jd_Mod_read_46 rfl rfl ?_
    refine jm_gR jd_Mod_read_47 jf_Mod_19 jm_SH_78 rfl ?_
    refine jm_iload_n jd_Mod_read_50 rfl rfl ?_
    obtain ⟨hb2, H⟩ := H
    refine jm_iaload jd_Mod_read_51 jm_SH_82 hb2 ?_
    obtain ⟨hb3, H⟩ := H
    refine jm_iastore jd_Mod_read_52 jm_SH_80 hb3 ?_
    refine jm_aload_n jd_Mod_read_53 rfl rfl ?_
    refine jm_gR jd_Mod_read_54 jf_Mod_16 jm_SH_78 rfl ?_
    refine jm_iload_n jd_Mod_read_57 rfl rfl ?_
    refine jm_aload_n jd_Mod_read_58 rfl rfl ?_
    refine jm_gR jd_Mod_read_59 jf_Mod_22 jm_SH_78 rfl ?_
    refine jm_iload_n jd_Mod_read_62 rfl rfl ?_
    obtain ⟨hb4, H⟩ := H
    refine jm_iaload jd_Mod_read_63 jm_SH_83 hb4 ?_
    refine jm_topI (y := h 83 (Int.toNat x1)) rfl ?_
    obtain ⟨hb5, H⟩ := H
    refine jm_iastore jd_Mod_read_64 jm_SH_81 hb5 ?_
    refine jm_iinc jd_Mod_read_65 rfl (by decide) (ls2 := [some (jm_R 78), some (jm_I (jm_w32 (x1 + 1)))]) rfl ?_
    refine jm_goto (tgt := 33) jd_Mod_read_68 rfl ?_
    exact H
set_option maxRecDepth 4000 in
theorem jb_Mod_endOf {E : jm_Env} {x1 : Int} {h : jm_H} {K : Int → jm_H → Prop} (H : jm_BI E jm_SH jm_m_Mod_endOf 1 4 [some (jm_R 78), none, some (jm_I 1), some (jm_I x1)] [] h K) : jm_CI E jm_SH jm_m_Mod_endOf 1 [jm_R 78, jm_I x1] h K := by
  refine jm_body (ls0 := [some (jm_R 78), some (jm_I x1), none, none]) (by decide +kernel) rfl rfl (Nat.le_of_ble_eq_true rfl) ?_
  refine jm_iconst jd_Mod_endOf_0 (jm_o32c rfl) ?_
  refine jm_istore_n (i := 2) jd_Mod_endOf_1 rfl (by decide) (ls2 := [some (jm_R 78), some (jm_I x1), some (jm_I 1), none]) rfl ?_
  refine jm_iload_n jd_Mod_endOf_2 rfl rfl ?_
  refine jm_istore_n (i := 3) jd_Mod_endOf_3 rfl (by decide) (ls2 := [some (jm_R 78), some (jm_I x1), some (jm_I 1), some (jm_I x1)]) rfl ?_
  refine jm_keepG [true, false, true, true] (ls2 := [some (jm_R 78), none, some (jm_I 1), some (jm_I x1)]) (by rfl) (by rfl) ?_
  exact H
set_option maxRecDepth 4000 in
theorem jb_Mod_endOf_4 {E : jm_Env} {x2 x3 : Int} {h : jm_H} {K : Int → jm_H → Prop} (H : ((x2 ≤ 0) → K x3 h) ∧ ((¬ x2 ≤ 0) → (0 ≤ x3 ∧ x3 < 60) ∧ (jm_CI E jm_SH jm_m_Mod_partsOf 0 [jm_I (h 80 (Int.toNat x3))] h (fun v3 h3 => jm_BI E jm_SH jm_m_Mod_endOf 1 4 [some (jm_R 78), none, some (jm_I (jm_w32 (x2 + (jm_w32 (v3 - 1))))), some (jm_I (jm_w32 (x3 + 1)))] [] h3 K)))) : jm_BI E jm_SH jm_m_Mod_endOf 1 4 [some (jm_R 78), none, some (jm_I x2), some (jm_I x3)] [] h K := by
  refine jm_iload_n jd_Mod_endOf_4 rfl rfl ?_
  refine jm_if_le (tgt := 28) jd_Mod_endOf_5 rfl (fun hc1 => ?_) (fun hc1 => ?_)
  · replace H := H.1 hc1
    refine jm_iload_n jd_Mod_endOf_28 rfl rfl ?_
    exact jm_ireturn jd_Mod_endOf_29 rfl (by decide) ⟨rfl, _, rfl, H⟩
  · replace H := H.2 hc1
    refine jm_iload_n jd_Mod_endOf_8 rfl rfl ?_
    refine jm_aload_n jd_Mod_endOf_9 rfl rfl ?_
    refine jm_gR jd_Mod_endOf_10 jf_Mod_13 jm_SH_78 rfl ?_
    refine jm_iload_n jd_Mod_endOf_13 rfl rfl ?_
    obtain ⟨hb2, H⟩ := H
    refine jm_iaload jd_Mod_endOf_14 jm_SH_80 hb2 ?_
    refine jm_cS (M' := jm_m_Mod_partsOf) (d' := 0) (av := [jm_I (h 80 (Int.toNat x3))]) jd_Mod_endOf_15 jk_Mod_partsOf jw_993 rfl (by omega) ⟨rfl, rfl⟩ (by decide) (Nat.le_of_ble_eq_true rfl) (jm_hqI (fun v3 h3 H => ?_)) H
    refine jm_iconst jd_Mod_endOf_18 (jm_o32c rfl) ?_
    refine jm_isub jd_Mod_endOf_19 ?_
    refine jm_iadd jd_Mod_endOf_20 ?_
    refine jm_istore_n (i := 2) jd_Mod_endOf_21 rfl (by decide) (ls2 := [some (jm_R 78), none, some (jm_I (jm_w32 (x2 + (jm_w32 (v3 - 1))))), some (jm_I x3)]) rfl ?_
    refine jm_iinc jd_Mod_endOf_22 rfl (by decide) (ls2 := [some (jm_R 78), none, some (jm_I (jm_w32 (x2 + (jm_w32 (v3 - 1))))), some (jm_I (jm_w32 (x3 + 1)))]) rfl ?_
    refine jm_goto (tgt := 4) jd_Mod_endOf_25 rfl ?_
    exact H
set_option maxRecDepth 4000 in
theorem jb_Mod_findNeeds {E : jm_Env} {h : jm_H} {K : jm_H → Prop} (H : jm_BV E jm_SH jm_m_Mod_findNeeds 2 7 [some (jm_R 78), some (jm_I (jm_w32 ((h 78 4) - 1))), none, none, none] [] h K) : jm_CV E jm_SH jm_m_Mod_findNeeds 2 [jm_R 78] h K := by
  refine jm_body (ls0 := [some (jm_R 78), none, none, none, none]) (by decide +kernel) rfl rfl (Nat.le_of_ble_eq_true rfl) ?_
  refine jm_aload_n jd_Mod_findNeeds_0 rfl rfl ?_
  refine jm_gI jd_Mod_findNeeds_1 jf_Mod_169 jm_SH_78 ?_
  refine jm_iconst jd_Mod_findNeeds_4 (jm_o32c rfl) ?_
  refine jm_isub jd_Mod_findNeeds_5 ?_
  refine jm_istore_n (i := 1) jd_Mod_findNeeds_6 rfl (by decide) (ls2 := [some (jm_R 78), some (jm_I (jm_w32 ((h 78 4) - 1))), none, none, none]) rfl ?_
  exact H
set_option maxRecDepth 4000 in
theorem jb_Mod_findNeeds_7 {E : jm_Env} {x1 : Int} {h : jm_H} {K : jm_H → Prop} (H : ((x1 < 0) → K h) ∧ ((¬ x1 < 0) → (0 ≤ x1 ∧ x1 < 60) ∧ (jm_CI E jm_SH jm_m_Mod_partsOf 0 [jm_I (h 80 (Int.toNat x1))] h (fun v3 h3 => ((v3 ≤ 0) → ((v3 ≤ 1) → jm_BV E jm_SH jm_m_Mod_findNeeds 2 59 [some (jm_R 78), some (jm_I x1), none, some (jm_I 1), none] [jm_I 0] h3 K) ∧ ((¬ v3 ≤ 1) → jm_CI E jm_SH jm_m_Mod_endOf 1 [jm_R 78, jm_I (jm_w32 (x1 + 1))] h3 (fun v6 h6 => (0 ≤ v6 ∧ v6 < 60) ∧ (jm_BV E jm_SH jm_m_Mod_findNeeds 2 59 [some (jm_R 78), some (jm_I x1), none, some (jm_I 1), none] [jm_I (h6 85 (Int.toNat v6))] h6 K)))) ∧ ((¬ v3 ≤ 0) → (0 ≤ jm_w32 (x1 + 1) ∧ jm_w32 (x1 + 1) < 60) ∧ (((v3 ≤ 1) → jm_BV E jm_SH jm_m_Mod_findNeeds 2 59 [some (jm_R 78), some (jm_I x1), none, some (jm_I (h3 85 (Int.toNat (jm_w32 (x1 + 1))))), none] [jm_I 0] h3 K) ∧ ((¬ v3 ≤ 1) → jm_CI E jm_SH jm_m_Mod_endOf 1 [jm_R 78, jm_I (jm_w32 (x1 + 1))] h3 (fun v10 h10 => (0 ≤ v10 ∧ v10 < 60) ∧ (jm_BV E jm_SH jm_m_Mod_findNeeds 2 59 [some (jm_R 78), some (jm_I x1), none, some (jm_I (h3 85 (Int.toNat (jm_w32 (x1 + 1))))), none] [jm_I (h10 85 (Int.toNat v10))] h10 K))))))))) : jm_BV E jm_SH jm_m_Mod_findNeeds 2 7 [some (jm_R 78), some (jm_I x1), none, none, none] [] h K := by
  refine jm_iload_n jd_Mod_findNeeds_7 rfl rfl ?_
  refine jm_if_lt (tgt := 97) jd_Mod_findNeeds_8 rfl (fun hc1 => ?_) (fun hc1 => ?_)
  · replace H := H.1 hc1
    exact jm_vreturn jd_Mod_findNeeds_97 rfl (by decide) ⟨rfl, rfl, H⟩
  · replace H := H.2 hc1
    refine jm_aload_n jd_Mod_findNeeds_11 rfl rfl ?_
    refine jm_gR jd_Mod_findNeeds_12 jf_Mod_13 jm_SH_78 rfl ?_
    refine jm_iload_n jd_Mod_findNeeds_15 rfl rfl ?_
    obtain ⟨hb2, H⟩ := H
    refine jm_iaload jd_Mod_findNeeds_16 jm_SH_80 hb2 ?_
    refine jm_cS (M' := jm_m_Mod_partsOf) (d' := 0) (av := [jm_I (h 80 (Int.toNat x1))]) jd_Mod_findNeeds_17 jk_Mod_partsOf jw_993 rfl (by omega) ⟨rfl, rfl⟩ (by decide) (Nat.le_of_ble_eq_true rfl) (jm_hqI (fun v3 h3 H => ?_)) H
    refine jm_istore_n (i := 2) jd_Mod_findNeeds_20 rfl (by decide) (ls2 := [some (jm_R 78), some (jm_I x1), some (jm_I v3), none, none]) rfl ?_
    refine jm_iload_n jd_Mod_findNeeds_21 rfl rfl ?_
    refine jm_if_le (tgt := 36) jd_Mod_findNeeds_22 rfl (fun hc4 => ?_) (fun hc4 => ?_)
    · replace H := H.1 hc4
      refine jm_iconst jd_Mod_findNeeds_36 (jm_o32c rfl) ?_
      refine jm_istore_n (i := 3) jd_Mod_findNeeds_37 rfl (by decide) (ls2 := [some (jm_R 78), some (jm_I x1), some (jm_I v3), some (jm_I 1), none]) rfl ?_
      refine jm_iload_n jd_Mod_findNeeds_38 rfl rfl ?_
      refine jm_iconst jd_Mod_findNeeds_39 (jm_o32c rfl) ?_
      refine jm_icmp_le (tgt := 58) jd_Mod_findNeeds_40 rfl (fun hc5 => ?_) (fun hc5 => ?_)
      · replace H := H.1 hc5
        refine jm_iconst jd_Mod_findNeeds_58 (jm_o32c rfl) ?_
        refine jm_keepG [true, true, false, true, false] (ls2 := [some (jm_R 78), some (jm_I x1), none, some (jm_I 1), none]) (by rfl) (by rfl) ?_
        exact H
      · replace H := H.2 hc5
        refine jm_aload_n jd_Mod_findNeeds_43 rfl rfl ?_
        refine jm_gR jd_Mod_findNeeds_44 jf_Mod_28 jm_SH_78 rfl ?_
        refine jm_aload_n jd_Mod_findNeeds_47 rfl rfl ?_
        refine jm_iload_n jd_Mod_findNeeds_48 rfl rfl ?_
        refine jm_iconst jd_Mod_findNeeds_49 (jm_o32c rfl) ?_
        refine jm_iadd jd_Mod_findNeeds_50 ?_
        refine jm_cV (M' := jm_m_Mod_endOf) (d' := 1) (av := [jm_I (jm_w32 (x1 + 1))]) jd_Mod_findNeeds_51 jk_Mod_endOf jw_1033 rfl (by omega) ⟨rfl, rfl⟩ (by decide) (Nat.le_of_ble_eq_true rfl) jm_SH_78 rfl rfl (jm_hqI (fun v6 h6 H => ?_)) H
        obtain ⟨hb7, H⟩ := H
        refine jm_iaload jd_Mod_findNeeds_54 jm_SH_85 hb7 ?_
        refine jm_goto (tgt := 59) jd_Mod_findNeeds_55 rfl ?_
        refine jm_keepG [true, true, false, true, false] (ls2 := [some (jm_R 78), some (jm_I x1), none, some (jm_I 1), none]) (by rfl) (by rfl) ?_
        exact H
    · replace H := H.2 hc4
      refine jm_aload_n jd_Mod_findNeeds_25 rfl rfl ?_
      refine jm_gR jd_Mod_findNeeds_26 jf_Mod_28 jm_SH_78 rfl ?_
      refine jm_iload_n jd_Mod_findNeeds_29 rfl rfl ?_
      refine jm_iconst jd_Mod_findNeeds_30 (jm_o32c rfl) ?_
      refine jm_iadd jd_Mod_findNeeds_31 ?_
      obtain ⟨hb8, H⟩ := H
      refine jm_iaload jd_Mod_findNeeds_32 jm_SH_85 hb8 ?_
      refine jm_goto (tgt := 37) jd_Mod_findNeeds_33 rfl ?_
      refine jm_istore_n (i := 3) jd_Mod_findNeeds_37 rfl (by decide) (ls2 := [some (jm_R 78), some (jm_I x1), some (jm_I v3), some (jm_I (h3 85 (Int.toNat (jm_w32 (x1 + 1))))), none]) rfl ?_
      refine jm_iload_n jd_Mod_findNeeds_38 rfl rfl ?_
      refine jm_iconst jd_Mod_findNeeds_39 (jm_o32c rfl) ?_
      refine jm_icmp_le (tgt := 58) jd_Mod_findNeeds_40 rfl (fun hc9 => ?_) (fun hc9 => ?_)
      · replace H := H.1 hc9
        refine jm_iconst jd_Mod_findNeeds_58 (jm_o32c rfl) ?_
        refine jm_keepG [true, true, false, true, false] (ls2 := [some (jm_R 78), some (jm_I x1), none, some (jm_I (h3 85 (Int.toNat (jm_w32 (x1 + 1))))), none]) (by rfl) (by rfl) ?_
        exact H
      · replace H := H.2 hc9
        refine jm_aload_n jd_Mod_findNeeds_43 rfl rfl ?_
        refine jm_gR jd_Mod_findNeeds_44 jf_Mod_28 jm_SH_78 rfl ?_
        refine jm_aload_n jd_Mod_findNeeds_47 rfl rfl ?_
        refine jm_iload_n jd_Mod_findNeeds_48 rfl rfl ?_
        refine jm_iconst jd_Mod_findNeeds_49 (jm_o32c rfl) ?_
        refine jm_iadd jd_Mod_findNeeds_50 ?_
        refine jm_cV (M' := jm_m_Mod_endOf) (d' := 1) (av := [jm_I (jm_w32 (x1 + 1))]) jd_Mod_findNeeds_51 jk_Mod_endOf jw_1033 rfl (by omega) ⟨rfl, rfl⟩ (by decide) (Nat.le_of_ble_eq_true rfl) jm_SH_78 rfl rfl (jm_hqI (fun v10 h10 H => ?_)) H
        obtain ⟨hb11, H⟩ := H
        refine jm_iaload jd_Mod_findNeeds_54 jm_SH_85 hb11 ?_
        refine jm_goto (tgt := 59) jd_Mod_findNeeds_55 rfl ?_
        refine jm_keepG [true, true, false, true, false] (ls2 := [some (jm_R 78), some (jm_I x1), none, some (jm_I (h3 85 (Int.toNat (jm_w32 (x1 + 1))))), none]) (by rfl) (by rfl) ?_
        exact H
set_option maxRecDepth 4000 in
theorem jb_Mod_findNeeds_59 {E : jm_Env} {x1 x3 s0 : Int} {h : jm_H} {K : jm_H → Prop} (H : ((¬ x3 = s0) → ((x3 ≤ s0) → (0 ≤ x1 ∧ x1 < 60) ∧ (jm_BV E jm_SH jm_m_Mod_findNeeds 2 7 [some (jm_R 78), some (jm_I (jm_w32 (x1 + (-1)))), none, none, none] [] (jm_up h 85 (Int.toNat x1) s0) K)) ∧ ((¬ x3 ≤ s0) → (0 ≤ x1 ∧ x1 < 60) ∧ (jm_BV E jm_SH jm_m_Mod_findNeeds 2 7 [some (jm_R 78), some (jm_I (jm_w32 (x1 + (-1)))), none, none, none] [] (jm_up h 85 (Int.toNat x1) x3) K))) ∧ ((x3 = s0) → (0 ≤ x1 ∧ x1 < 60) ∧ (jm_BV E jm_SH jm_m_Mod_findNeeds 2 7 [some (jm_R 78), some (jm_I (jm_w32 (x1 + (-1)))), none, none, none] [] (jm_up h 85 (Int.toNat x1) (jm_w32 (x3 + 1))) K))) : jm_BV E jm_SH jm_m_Mod_findNeeds 2 59 [some (jm_R 78), some (jm_I x1), none, some (jm_I x3), none] [jm_I s0] h K := by
  refine jm_istore (i := 4) jd_Mod_findNeeds_59 (by decide) (ls2 := [some (jm_R 78), some (jm_I x1), none, some (jm_I x3), some (jm_I s0)]) rfl ?_
  refine jm_aload_n jd_Mod_findNeeds_61 rfl rfl ?_
  refine jm_gR jd_Mod_findNeeds_62 jf_Mod_28 jm_SH_78 rfl ?_
  refine jm_iload_n jd_Mod_findNeeds_65 rfl rfl ?_
  refine jm_iload_n jd_Mod_findNeeds_66 rfl rfl ?_
  refine jm_iload jd_Mod_findNeeds_67 rfl ?_
  refine jm_icmp_ne (tgt := 78) jd_Mod_findNeeds_69 rfl (fun hc1 => ?_) (fun hc1 => ?_)
  · replace H := H.1 hc1
    refine jm_iload_n jd_Mod_findNeeds_78 rfl rfl ?_
    refine jm_iload jd_Mod_findNeeds_79 rfl ?_
    refine jm_icmp_le (tgt := 88) jd_Mod_findNeeds_81 rfl (fun hc2 => ?_) (fun hc2 => ?_)
    · replace H := H.1 hc2
      refine jm_iload jd_Mod_findNeeds_88 rfl ?_
      obtain ⟨hb3, H⟩ := H
      refine jm_iastore jd_Mod_findNeeds_90 jm_SH_85 hb3 ?_
      refine jm_iinc jd_Mod_findNeeds_91 rfl (by decide) (ls2 := [some (jm_R 78), some (jm_I (jm_w32 (x1 + (-1)))), none, some (jm_I x3), some (jm_I s0)]) rfl ?_
      refine jm_goto (tgt := 7) jd_Mod_findNeeds_94 rfl ?_
      refine jm_keepG [true, true, false, false, false] (ls2 := [some (jm_R 78), some (jm_I (jm_w32 (x1 + (-1)))), none, none, none]) (by rfl) (by rfl) ?_
      exact H
    · replace H := H.2 hc2
      refine jm_iload_n jd_Mod_findNeeds_84 rfl rfl ?_
      refine jm_goto (tgt := 90) jd_Mod_findNeeds_85 rfl ?_
      obtain ⟨hb4, H⟩ := H
      refine jm_iastore jd_Mod_findNeeds_90 jm_SH_85 hb4 ?_
      refine jm_iinc jd_Mod_findNeeds_91 rfl (by decide) (ls2 := [some (jm_R 78), some (jm_I (jm_w32 (x1 + (-1)))), none, some (jm_I x3), some (jm_I s0)]) rfl ?_
      refine jm_goto (tgt := 7) jd_Mod_findNeeds_94 rfl ?_
      refine jm_keepG [true, true, false, false, false] (ls2 := [some (jm_R 78), some (jm_I (jm_w32 (x1 + (-1)))), none, none, none]) (by rfl) (by rfl) ?_
      exact H
  · replace H := H.2 hc1
    refine jm_iload_n jd_Mod_findNeeds_72 rfl rfl ?_
    refine jm_iconst jd_Mod_findNeeds_73 (jm_o32c rfl) ?_
    refine jm_iadd jd_Mod_findNeeds_74 ?_
    refine jm_goto (tgt := 90) jd_Mod_findNeeds_75 rfl ?_
    obtain ⟨hb5, H⟩ := H
    refine jm_iastore jd_Mod_findNeeds_90 jm_SH_85 hb5 ?_
    refine jm_iinc jd_Mod_findNeeds_91 rfl (by decide) (ls2 := [some (jm_R 78), some (jm_I (jm_w32 (x1 + (-1)))), none, some (jm_I x3), some (jm_I s0)]) rfl ?_
    refine jm_goto (tgt := 7) jd_Mod_findNeeds_94 rfl ?_
    refine jm_keepG [true, true, false, false, false] (ls2 := [some (jm_R 78), some (jm_I (jm_w32 (x1 + (-1)))), none, none, none]) (by rfl) (by rfl) ?_
    exact H
set_option maxRecDepth 4000 in
theorem jb_Mod_isNode {E : jm_Env} {x1 : Int} {h : jm_H} {K : Int → jm_H → Prop} (H : jm_CI E jm_SH jm_m_Mod_in 0 [jm_L x1, jm_L 0, jm_L (jm_w32 ((h 78 4) - 1))] h (fun v1 h1 => (v1 = 0 ∨ v1 = 1) ∧ K v1 h1)) : jm_CI E jm_SH jm_m_Mod_isNode 1 [jm_R 78, jm_I x1] h K := by
  refine jm_body (ls0 := [some (jm_R 78), some (jm_I x1)]) (by decide +kernel) rfl rfl (Nat.le_of_ble_eq_true rfl) ?_
  refine jm_iload_n jd_Mod_isNode_0 rfl rfl ?_
  refine jm_i2l jd_Mod_isNode_1 ?_
  refine jm_lconst (x := 0) jd_Mod_isNode_2 ⟨by decide, jm_o64c rfl⟩ ?_
  refine jm_aload_n jd_Mod_isNode_3 rfl rfl ?_
  refine jm_gI jd_Mod_isNode_4 jf_Mod_169 jm_SH_78 ?_
  refine jm_iconst jd_Mod_isNode_7 (jm_o32c rfl) ?_
  refine jm_isub jd_Mod_isNode_8 ?_
  refine jm_i2l jd_Mod_isNode_9 ?_
  refine jm_cS (M' := jm_m_Mod_in) (d' := 0) (av := [jm_L x1, jm_L 0, jm_L (jm_w32 ((h 78 4) - 1))]) jd_Mod_isNode_10 jk_Mod_in jw_978 rfl (by omega) ⟨rfl, rfl⟩ (by decide) (Nat.le_of_ble_eq_true rfl) (jm_hqI (fun v1 h1 H => ?_)) H
  exact jm_zreturn jd_Mod_isNode_13 rfl H.1 (by decide) ⟨rfl, _, rfl, H.2⟩
set_option maxRecDepth 4000 in
theorem jb_Mod_node {E : jm_Env} {x1 x2 : Int} {h : jm_H} {K : Int → jm_H → Prop} (H : jm_CI E jm_SH jm_m_Mod_isNode 1 [jm_R 78, jm_I x1] h (fun v1 h1 => ((¬ v1 = 0) → jm_CV E jm_SH jm_m_Mod_findNeeds 2 [jm_R 78] h1 (fun h3 => (x2 = 0 → (0 ≤ x1 ∧ x1 < 60) ∧ (K (h3 80 (Int.toNat x1)) h3)) ∧ ((x2 = 1 → (0 ≤ x1 ∧ x1 < 60) ∧ (K (h3 81 (Int.toNat x1)) h3)) ∧ ((x2 = 2 → (0 ≤ x1 ∧ x1 < 60) ∧ (jm_CI E jm_SH jm_m_Mod_partsOf 0 [jm_I (h3 80 (Int.toNat x1))] h3 (fun v10 h10 => K v10 h10))) ∧ ((x2 = 3 → jm_CI E jm_SH jm_m_Mod_endOf 1 [jm_R 78, jm_I x1] h3 (fun v12 h12 => K (jm_w32 (v12 - x1)) h12)) ∧ ((x2 = 4 → (0 ≤ x1 ∧ x1 < 60) ∧ (K (h3 85 (Int.toNat x1)) h3)) ∧ (((¬ x2 = 0 ∧ ¬ x2 = 1 ∧ ¬ x2 = 2 ∧ ¬ x2 = 3 ∧ ¬ x2 = 4) → K (-2) h3)))))))) ∧ ((v1 = 0) → K (-1) h1))) : jm_CI E jm_SH jm_m_Mod_node 3 [jm_R 78, jm_I x1, jm_I x2] h K := by
  refine jm_body (ls0 := [some (jm_R 78), some (jm_I x1), some (jm_I x2)]) (by decide +kernel) rfl rfl (Nat.le_of_ble_eq_true rfl) ?_
  refine jm_aload_n jd_Mod_node_0 rfl rfl ?_
  refine jm_iload_n jd_Mod_node_1 rfl rfl ?_
  refine jm_cV (M' := jm_m_Mod_isNode) (d' := 1) (av := [jm_I x1]) jd_Mod_node_2 jk_Mod_isNode jw_1025 rfl (by omega) ⟨rfl, rfl⟩ (by decide) (Nat.le_of_ble_eq_true rfl) jm_SH_78 rfl rfl (jm_hqI (fun v1 h1 H => ?_)) H
  refine jm_if_ne (tgt := 10) jd_Mod_node_5 rfl (fun hc2 => ?_) (fun hc2 => ?_)
  · replace H := H.1 hc2
    refine jm_aload_n jd_Mod_node_10 rfl rfl ?_
    refine jm_cV (M' := jm_m_Mod_findNeeds) (d' := 2) (av := []) jd_Mod_node_11 jk_Mod_findNeeds jw_1029 rfl (by omega) ⟨rfl, rfl⟩ (by decide) (Nat.le_of_ble_eq_true rfl) jm_SH_78 rfl rfl (jm_hqV (fun h3 H => ?_)) H
    refine jm_iload_n jd_Mod_node_14 rfl rfl ?_
    by_cases hc4 : x2 = 0
    · replace H := H.1 hc4
      refine jm_tableIn (tgt := 48) jd_Mod_node_15 (by omega) (by omega) (by first | (rw [hc4]; rfl) | rw [hc4]) rfl ?_
      refine jm_aload_n jd_Mod_node_48 rfl rfl ?_
      refine jm_gR jd_Mod_node_49 jf_Mod_13 jm_SH_78 rfl ?_
      refine jm_iload_n jd_Mod_node_52 rfl rfl ?_
      obtain ⟨hb5, H⟩ := H
      refine jm_iaload jd_Mod_node_53 jm_SH_80 hb5 ?_
      exact jm_ireturn jd_Mod_node_54 rfl (by decide) ⟨rfl, _, rfl, H⟩
    · replace H := H.2
      by_cases hc6 : x2 = 1
      · replace H := H.1 hc6
        refine jm_tableIn (tgt := 55) jd_Mod_node_15 (by omega) (by omega) (by first | (rw [hc6]; rfl) | rw [hc6]) rfl ?_
        refine jm_aload_n jd_Mod_node_55 rfl rfl ?_
        refine jm_gR jd_Mod_node_56 jf_Mod_16 jm_SH_78 rfl ?_
        refine jm_iload_n jd_Mod_node_59 rfl rfl ?_
        obtain ⟨hb7, H⟩ := H
        refine jm_iaload jd_Mod_node_60 jm_SH_81 hb7 ?_
        exact jm_ireturn jd_Mod_node_61 rfl (by decide) ⟨rfl, _, rfl, H⟩
      · replace H := H.2
        by_cases hc8 : x2 = 2
        · replace H := H.1 hc8
          refine jm_tableIn (tgt := 62) jd_Mod_node_15 (by omega) (by omega) (by first | (rw [hc8]; rfl) | rw [hc8]) rfl ?_
          refine jm_aload_n jd_Mod_node_62 rfl rfl ?_
          refine jm_gR jd_Mod_node_63 jf_Mod_13 jm_SH_78 rfl ?_
          refine jm_iload_n jd_Mod_node_66 rfl rfl ?_
          obtain ⟨hb9, H⟩ := H
          refine jm_iaload jd_Mod_node_67 jm_SH_80 hb9 ?_
          refine jm_cS (M' := jm_m_Mod_partsOf) (d' := 0) (av := [jm_I (h3 80 (Int.toNat x1))]) jd_Mod_node_68 jk_Mod_partsOf jw_993 rfl (by omega) ⟨rfl, rfl⟩ (by decide) (Nat.le_of_ble_eq_true rfl) (jm_hqI (fun v10 h10 H => ?_)) H
          exact jm_ireturn jd_Mod_node_71 rfl (by decide) ⟨rfl, _, rfl, H⟩
        · replace H := H.2
          by_cases hc11 : x2 = 3
          · replace H := H.1 hc11
            refine jm_tableIn (tgt := 72) jd_Mod_node_15 (by omega) (by omega) (by first | (rw [hc11]; rfl) | rw [hc11]) rfl ?_
            refine jm_aload_n jd_Mod_node_72 rfl rfl ?_
            refine jm_iload_n jd_Mod_node_73 rfl rfl ?_
            refine jm_cV (M' := jm_m_Mod_endOf) (d' := 1) (av := [jm_I x1]) jd_Mod_node_74 jk_Mod_endOf jw_1033 rfl (by omega) ⟨rfl, rfl⟩ (by decide) (Nat.le_of_ble_eq_true rfl) jm_SH_78 rfl rfl (jm_hqI (fun v12 h12 H => ?_)) H
            refine jm_iload_n jd_Mod_node_77 rfl rfl ?_
            refine jm_isub jd_Mod_node_78 ?_
            exact jm_ireturn jd_Mod_node_79 rfl (by decide) ⟨rfl, _, rfl, H⟩
          · replace H := H.2
            by_cases hc13 : x2 = 4
            · replace H := H.1 hc13
              refine jm_tableIn (tgt := 80) jd_Mod_node_15 (by omega) (by omega) (by first | (rw [hc13]; rfl) | rw [hc13]) rfl ?_
              refine jm_aload_n jd_Mod_node_80 rfl rfl ?_
              refine jm_gR jd_Mod_node_81 jf_Mod_28 jm_SH_78 rfl ?_
              refine jm_iload_n jd_Mod_node_84 rfl rfl ?_
              obtain ⟨hb14, H⟩ := H
              refine jm_iaload jd_Mod_node_85 jm_SH_85 hb14 ?_
              exact jm_ireturn jd_Mod_node_86 rfl (by decide) ⟨rfl, _, rfl, H⟩
            · replace H := H.2
              replace H := H ⟨hc4, hc6, hc8, hc11, hc13⟩
              refine jm_tableOut (tgt := 87) jd_Mod_node_15 (by omega) rfl ?_
              refine jm_bipush jd_Mod_node_87 jb_m2 ?_
              exact jm_ireturn jd_Mod_node_89 rfl (by decide) ⟨rfl, _, rfl, H⟩
  · replace H := H.2 hc2
    refine jm_iconst jd_Mod_node_8 (jm_o32c rfl) ?_
    exact jm_ireturn jd_Mod_node_9 rfl (by decide) ⟨rfl, _, rfl, H⟩
