set_option maxRecDepth 4000 in
theorem jb_Mod_end {E : jm_Env} {h : jm_H} {K : Int → jm_H → Prop} (H : jm_CI E jm_SH jm_m_Mod_endAsWritten 2 [jm_R 78] h (fun v1 h1 => K v1 h1)) : jm_CI E jm_SH jm_m_Mod_end 3 [jm_R 78] h K := by
  refine jm_body (ls0 := [some (jm_R 78)]) (by decide +kernel) rfl rfl (Nat.le_of_ble_eq_true rfl) ?_
  refine jm_aload_n jd_Mod_end_0 rfl rfl ?_
  refine jm_cV (M' := jm_m_Mod_endAsWritten) (d' := 2) (av := []) jd_Mod_end_1 jk_Mod_endAsWritten jw_1116 rfl (by omega) ⟨rfl, rfl⟩ (by decide) (Nat.le_of_ble_eq_true rfl) jm_SH_78 rfl rfl (jm_hqI (fun v1 h1 H => ?_)) H
  exact jm_ireturn jd_Mod_end_4 rfl (by decide) ⟨rfl, _, rfl, H⟩
set_option maxRecDepth 4000 in
theorem jb_Mod_mustLead {E : jm_Env} {x1 x2 : Int} {h : jm_H} {K : Int → jm_H → Prop} (H : (0 ≤ x1 ∧ x1 < 12) ∧ ((0 ≤ x2 ∧ x2 < 12) ∧ (((h 100 (Int.toNat x1) = h 100 (Int.toNat x2)) → K 1 h) ∧ ((¬ h 100 (Int.toNat x1) = h 100 (Int.toNat x2)) → (0 ≤ x1 ∧ x1 < 12) ∧ (jm_CI E jm_SH jm_m_Mod_uses 0 [jm_R 78, jm_I x2, jm_I (h 100 (Int.toNat x1))] h (fun v5 h5 => ((¬ v5 = 0) → K 1 h5) ∧ ((v5 = 0) → (0 ≤ x2 ∧ x2 < 12) ∧ (jm_CI E jm_SH jm_m_Mod_uses 0 [jm_R 78, jm_I x1, jm_I (h5 100 (Int.toNat x2))] h5 (fun v8 h8 => ((v8 = 0) → K 0 h8) ∧ ((¬ v8 = 0) → K 1 h8)))))))))) : jm_CI E jm_SH jm_m_Mod_mustLead 1 [jm_R 78, jm_I x1, jm_I x2] h K := by
  refine jm_body (ls0 := [some (jm_R 78), some (jm_I x1), some (jm_I x2)]) (by decide +kernel) rfl rfl (Nat.le_of_ble_eq_true rfl) ?_
  refine jm_aload_n jd_Mod_mustLead_0 rfl rfl ?_
  refine jm_gR jd_Mod_mustLead_1 jf_Mod_73 jm_SH_78 rfl ?_
  refine jm_iload_n jd_Mod_mustLead_4 rfl rfl ?_
  obtain ⟨hb1, H⟩ := H
  refine jm_iaload jd_Mod_mustLead_5 jm_SH_100 hb1 ?_
  refine jm_aload_n jd_Mod_mustLead_6 rfl rfl ?_
  refine jm_gR jd_Mod_mustLead_7 jf_Mod_73 jm_SH_78 rfl ?_
  refine jm_iload_n jd_Mod_mustLead_10 rfl rfl ?_
  obtain ⟨hb2, H⟩ := H
  refine jm_iaload jd_Mod_mustLead_11 jm_SH_100 hb2 ?_
  refine jm_icmp_eq (tgt := 43) jd_Mod_mustLead_12 rfl (fun hc3 => ?_) (fun hc3 => ?_)
  · replace H := H.1 hc3
    refine jm_iconst jd_Mod_mustLead_43 (jm_o32c rfl) ?_
    refine jm_goto (tgt := 48) jd_Mod_mustLead_44 rfl ?_
    exact jm_zreturn jd_Mod_mustLead_48 rfl (Or.inr rfl) (by decide) ⟨rfl, _, rfl, H⟩
  · replace H := H.2 hc3
    refine jm_aload_n jd_Mod_mustLead_15 rfl rfl ?_
    refine jm_iload_n jd_Mod_mustLead_16 rfl rfl ?_
    refine jm_aload_n jd_Mod_mustLead_17 rfl rfl ?_
    refine jm_gR jd_Mod_mustLead_18 jf_Mod_73 jm_SH_78 rfl ?_
    refine jm_iload_n jd_Mod_mustLead_21 rfl rfl ?_
    obtain ⟨hb4, H⟩ := H
    refine jm_iaload jd_Mod_mustLead_22 jm_SH_100 hb4 ?_
    refine jm_cV (M' := jm_m_Mod_uses) (d' := 0) (av := [jm_I x2, jm_I (h 100 (Int.toNat x1))]) jd_Mod_mustLead_23 jk_Mod_uses jw_1124 rfl (by omega) ⟨rfl, rfl⟩ (by decide) (Nat.le_of_ble_eq_true rfl) jm_SH_78 rfl rfl (jm_hqI (fun v5 h5 H => ?_)) H
    refine jm_if_ne (tgt := 43) jd_Mod_mustLead_26 rfl (fun hc6 => ?_) (fun hc6 => ?_)
    · replace H := H.1 hc6
      refine jm_iconst jd_Mod_mustLead_43 (jm_o32c rfl) ?_
      refine jm_goto (tgt := 48) jd_Mod_mustLead_44 rfl ?_
      exact jm_zreturn jd_Mod_mustLead_48 rfl (Or.inr rfl) (by decide) ⟨rfl, _, rfl, H⟩
    · replace H := H.2 hc6
      refine jm_aload_n jd_Mod_mustLead_29 rfl rfl ?_
      refine jm_iload_n jd_Mod_mustLead_30 rfl rfl ?_
      refine jm_aload_n jd_Mod_mustLead_31 rfl rfl ?_
      refine jm_gR jd_Mod_mustLead_32 jf_Mod_73 jm_SH_78 rfl ?_
      refine jm_iload_n jd_Mod_mustLead_35 rfl rfl ?_
      obtain ⟨hb7, H⟩ := H
      refine jm_iaload jd_Mod_mustLead_36 jm_SH_100 hb7 ?_
      refine jm_cV (M' := jm_m_Mod_uses) (d' := 0) (av := [jm_I x1, jm_I (h5 100 (Int.toNat x2))]) jd_Mod_mustLead_37 jk_Mod_uses jw_1124 rfl (by omega) ⟨rfl, rfl⟩ (by decide) (Nat.le_of_ble_eq_true rfl) jm_SH_78 rfl rfl (jm_hqI (fun v8 h8 H => ?_)) H
      refine jm_if_eq (tgt := 47) jd_Mod_mustLead_40 rfl (fun hc9 => ?_) (fun hc9 => ?_)
      · replace H := H.1 hc9
        refine jm_iconst jd_Mod_mustLead_47 (jm_o32c rfl) ?_
        exact jm_zreturn jd_Mod_mustLead_48 rfl (Or.inl rfl) (by decide) ⟨rfl, _, rfl, H⟩
      · replace H := H.2 hc9
        refine jm_iconst jd_Mod_mustLead_43 (jm_o32c rfl) ?_
        refine jm_goto (tgt := 48) jd_Mod_mustLead_44 rfl ?_
        exact jm_zreturn jd_Mod_mustLead_48 rfl (Or.inr rfl) (by decide) ⟨rfl, _, rfl, H⟩
set_option maxRecDepth 4000 in
theorem jb_Mod_ahead {E : jm_Env} {x1 x2 : Int} {h : jm_H} {K : Int → jm_H → Prop} (H : jm_CI E jm_SH jm_m_Mod_isInstruction 1 [jm_R 78, jm_I x1] h (fun v1 h1 => ((v1 = 0) → K (-1) h1) ∧ ((¬ v1 = 0) → jm_CI E jm_SH jm_m_Mod_isInstruction 1 [jm_R 78, jm_I x2] h1 (fun v3 h3 => ((¬ v3 = 0) → ((x1 < x2) → jm_CI E jm_SH jm_m_Mod_mustLead 1 [jm_R 78, jm_I x1, jm_I x2] h3 (fun v6 h6 => ((v6 = 0) → K 0 h6) ∧ ((¬ v6 = 0) → K 1 h6))) ∧ ((¬ x1 < x2) → K (-2) h3)) ∧ ((v3 = 0) → K (-1) h3))))) : jm_CI E jm_SH jm_m_Mod_ahead 2 [jm_R 78, jm_I x1, jm_I x2] h K := by
  refine jm_body (ls0 := [some (jm_R 78), some (jm_I x1), some (jm_I x2)]) (by decide +kernel) rfl rfl (Nat.le_of_ble_eq_true rfl) ?_
  refine jm_aload_n jd_Mod_ahead_0 rfl rfl ?_
  refine jm_iload_n jd_Mod_ahead_1 rfl rfl ?_
  refine jm_cV (M' := jm_m_Mod_isInstruction) (d' := 1) (av := [jm_I x1]) jd_Mod_ahead_2 jk_Mod_isInstruction jw_1112 rfl (by omega) ⟨rfl, rfl⟩ (by decide) (Nat.le_of_ble_eq_true rfl) jm_SH_78 rfl rfl (jm_hqI (fun v1 h1 H => ?_)) H
  refine jm_if_eq (tgt := 16) jd_Mod_ahead_5 rfl (fun hc2 => ?_) (fun hc2 => ?_)
  · replace H := H.1 hc2
    refine jm_iconst jd_Mod_ahead_16 (jm_o32c rfl) ?_
    exact jm_ireturn jd_Mod_ahead_17 rfl (by decide) ⟨rfl, _, rfl, H⟩
  · replace H := H.2 hc2
    refine jm_aload_n jd_Mod_ahead_8 rfl rfl ?_
    refine jm_iload_n jd_Mod_ahead_9 rfl rfl ?_
    refine jm_cV (M' := jm_m_Mod_isInstruction) (d' := 1) (av := [jm_I x2]) jd_Mod_ahead_10 jk_Mod_isInstruction jw_1112 rfl (by omega) ⟨rfl, rfl⟩ (by decide) (Nat.le_of_ble_eq_true rfl) jm_SH_78 rfl rfl (jm_hqI (fun v3 h3 H => ?_)) H
    refine jm_if_ne (tgt := 18) jd_Mod_ahead_13 rfl (fun hc4 => ?_) (fun hc4 => ?_)
    · replace H := H.1 hc4
      refine jm_iload_n jd_Mod_ahead_18 rfl rfl ?_
      refine jm_iload_n jd_Mod_ahead_19 rfl rfl ?_
      refine jm_icmp_lt (tgt := 28) jd_Mod_ahead_20 rfl (fun hc5 => ?_) (fun hc5 => ?_)
      · replace H := H.1 hc5
        refine jm_aload_n jd_Mod_ahead_28 rfl rfl ?_
        refine jm_iload_n jd_Mod_ahead_29 rfl rfl ?_
        refine jm_iload_n jd_Mod_ahead_30 rfl rfl ?_
        refine jm_cV (M' := jm_m_Mod_mustLead) (d' := 1) (av := [jm_I x1, jm_I x2]) jd_Mod_ahead_31 jk_Mod_mustLead jw_1136 rfl (by omega) ⟨rfl, rfl⟩ (by decide) (Nat.le_of_ble_eq_true rfl) jm_SH_78 rfl rfl (jm_hqI (fun v6 h6 H => ?_)) H
        refine jm_if_eq (tgt := 41) jd_Mod_ahead_34 rfl (fun hc7 => ?_) (fun hc7 => ?_)
        · replace H := H.1 hc7
          refine jm_iconst jd_Mod_ahead_41 (jm_o32c rfl) ?_
          exact jm_ireturn jd_Mod_ahead_42 rfl (by decide) ⟨rfl, _, rfl, H⟩
        · replace H := H.2 hc7
          refine jm_iconst jd_Mod_ahead_37 (jm_o32c rfl) ?_
          refine jm_goto (tgt := 42) jd_Mod_ahead_38 rfl ?_
          exact jm_ireturn jd_Mod_ahead_42 rfl (by decide) ⟨rfl, _, rfl, H⟩
      · replace H := H.2 hc5
        refine jm_bipush jd_Mod_ahead_23 jb_m2 ?_
        refine jm_goto (tgt := 42) jd_Mod_ahead_25 rfl ?_
        exact jm_ireturn jd_Mod_ahead_42 rfl (by decide) ⟨rfl, _, rfl, H⟩
    · replace H := H.2 hc4
      refine jm_iconst jd_Mod_ahead_16 (jm_o32c rfl) ?_
      exact jm_ireturn jd_Mod_ahead_17 rfl (by decide) ⟨rfl, _, rfl, H⟩
set_option maxRecDepth 4000 in
theorem jb_Mod_mayStand {E : jm_Env} {x1 x2 : Int} {h : jm_H} {K : Int → jm_H → Prop} (H : jm_BI E jm_SH jm_m_Mod_mayStand 2 2 [some (jm_R 78), some (jm_I x1), some (jm_I x2), some (jm_I 0), none, none] [] h K) : jm_CI E jm_SH jm_m_Mod_mayStand 2 [jm_R 78, jm_I x1, jm_I x2] h K := by
  refine jm_body (ls0 := [some (jm_R 78), some (jm_I x1), some (jm_I x2), none, none, none]) (by decide +kernel) rfl rfl (Nat.le_of_ble_eq_true rfl) ?_
  refine jm_iconst jd_Mod_mayStand_0 (jm_o32c rfl) ?_
  refine jm_istore_n (i := 3) jd_Mod_mayStand_1 rfl (by decide) (ls2 := [some (jm_R 78), some (jm_I x1), some (jm_I x2), some (jm_I 0), none, none]) rfl ?_
  exact H
set_option maxRecDepth 4000 in
theorem jb_Mod_mayStand_2 {E : jm_Env} {x1 x2 x3 : Int} {h : jm_H} {K : Int → jm_H → Prop} (H : ((x2 ≤ x3) → jm_BI E jm_SH jm_m_Mod_mayStand 2 27 [some (jm_R 78), some (jm_I x1), some (jm_I x2), some (jm_I 0), none, none] [] h K) ∧ ((¬ x2 ≤ x3) → (0 ≤ x3 ∧ x3 < 12) ∧ (((¬ h 105 (Int.toNat x3) = x1) → jm_BI E jm_SH jm_m_Mod_mayStand 2 2 [some (jm_R 78), some (jm_I x1), some (jm_I x2), some (jm_I (jm_w32 (x3 + 1))), none, none] [] h K) ∧ ((h 105 (Int.toNat x3) = x1) → K 0 h)))) : jm_BI E jm_SH jm_m_Mod_mayStand 2 2 [some (jm_R 78), some (jm_I x1), some (jm_I x2), some (jm_I x3), none, none] [] h K := by
  refine jm_iload_n jd_Mod_mayStand_2 rfl rfl ?_
  refine jm_iload_n jd_Mod_mayStand_3 rfl rfl ?_
  refine jm_icmp_ge (tgt := 25) jd_Mod_mayStand_4 rfl (fun hc1 => ?_) (fun hc1 => ?_)
  · replace H := H.1 hc1
    refine jm_iconst jd_Mod_mayStand_25 (jm_o32c rfl) ?_
    refine jm_istore_n (i := 3) jd_Mod_mayStand_26 rfl (by decide) (ls2 := [some (jm_R 78), some (jm_I x1), some (jm_I x2), some (jm_I 0), none, none]) rfl ?_
    exact H
  · replace H := H.2 hc1
    refine jm_aload_n jd_Mod_mayStand_7 rfl rfl ?_
    refine jm_gR jd_Mod_mayStand_8 jf_Mod_88 jm_SH_78 rfl ?_
    refine jm_iload_n jd_Mod_mayStand_11 rfl rfl ?_
    obtain ⟨hb2, H⟩ := H
    refine jm_iaload jd_Mod_mayStand_12 jm_SH_105 hb2 ?_
    refine jm_iload_n jd_Mod_mayStand_13 rfl rfl ?_
    refine jm_icmp_ne (tgt := 19) jd_Mod_mayStand_14 rfl (fun hc3 => ?_) (fun hc3 => ?_)
    · replace H := H.1 hc3
      refine jm_iinc jd_Mod_mayStand_19 rfl (by decide) (ls2 := [some (jm_R 78), some (jm_I x1), some (jm_I x2), some (jm_I (jm_w32 (x3 + 1))), none, none]) rfl ?_
      refine jm_goto (tgt := 2) jd_Mod_mayStand_22 rfl ?_
      exact H
    · replace H := H.2 hc3
      refine jm_iconst jd_Mod_mayStand_17 (jm_o32c rfl) ?_
      exact jm_zreturn jd_Mod_mayStand_18 rfl (Or.inl rfl) (by decide) ⟨rfl, _, rfl, H⟩
set_option maxRecDepth 4000 in
theorem jb_Mod_mayStand_27 {E : jm_Env} {x1 x2 x3 : Int} {h : jm_H} {K : Int → jm_H → Prop} (H : ((x1 ≤ x3) → K 1 h) ∧ ((¬ x1 ≤ x3) → jm_BI E jm_SH jm_m_Mod_mayStand 2 38 [some (jm_R 78), some (jm_I x1), some (jm_I x2), some (jm_I x3), some (jm_I 0), some (jm_I 0)] [] h K)) : jm_BI E jm_SH jm_m_Mod_mayStand 2 27 [some (jm_R 78), some (jm_I x1), some (jm_I x2), some (jm_I x3), none, none] [] h K := by
  refine jm_iload_n jd_Mod_mayStand_27 rfl rfl ?_
  refine jm_iload_n jd_Mod_mayStand_28 rfl rfl ?_
  refine jm_icmp_ge (tgt := 95) jd_Mod_mayStand_29 rfl (fun hc1 => ?_) (fun hc1 => ?_)
  · replace H := H.1 hc1
    refine jm_iconst jd_Mod_mayStand_95 (jm_o32c rfl) ?_
    exact jm_zreturn jd_Mod_mayStand_96 rfl (Or.inr rfl) (by decide) ⟨rfl, _, rfl, H⟩
  · replace H := H.2 hc1
    refine jm_iconst jd_Mod_mayStand_32 (jm_o32c rfl) ?_
    refine jm_istore (i := 4) jd_Mod_mayStand_33 (by decide) (ls2 := [some (jm_R 78), some (jm_I x1), some (jm_I x2), some (jm_I x3), some (jm_I 0), none]) rfl ?_
    refine jm_iconst jd_Mod_mayStand_35 (jm_o32c rfl) ?_
    refine jm_istore (i := 5) jd_Mod_mayStand_36 (by decide) (ls2 := [some (jm_R 78), some (jm_I x1), some (jm_I x2), some (jm_I x3), some (jm_I 0), some (jm_I 0)]) rfl ?_
    exact H
set_option maxRecDepth 4000 in
theorem jb_Mod_mayStand_38 {E : jm_Env} {x1 x2 x3 x4 x5 : Int} {h : jm_H} {K : Int → jm_H → Prop} (H : ((x2 ≤ x5) → ((¬ x4 = 0) → jm_BI E jm_SH jm_m_Mod_mayStand 2 27 [some (jm_R 78), some (jm_I x1), some (jm_I x2), some (jm_I (jm_w32 (x3 + 1))), none, none] [] h K) ∧ ((x4 = 0) → jm_CI E jm_SH jm_m_Mod_mustLead 1 [jm_R 78, jm_I x3, jm_I x1] h (fun v3 h3 => ((v3 = 0) → jm_BI E jm_SH jm_m_Mod_mayStand 2 27 [some (jm_R 78), some (jm_I x1), some (jm_I x2), some (jm_I (jm_w32 (x3 + 1))), none, none] [] h3 K) ∧ ((¬ v3 = 0) → K 0 h3)))) ∧ ((¬ x2 ≤ x5) → ((¬ x4 = 0) → jm_BI E jm_SH jm_m_Mod_mayStand 2 38 [some (jm_R 78), some (jm_I x1), some (jm_I x2), some (jm_I x3), some (jm_I 1), some (jm_I (jm_w32 (x5 + 1)))] [] h K) ∧ ((x4 = 0) → (0 ≤ x5 ∧ x5 < 12) ∧ (((¬ h 105 (Int.toNat x5) = x3) → jm_BI E jm_SH jm_m_Mod_mayStand 2 38 [some (jm_R 78), some (jm_I x1), some (jm_I x2), some (jm_I x3), some (jm_I 0), some (jm_I (jm_w32 (x5 + 1)))] [] h K) ∧ ((h 105 (Int.toNat x5) = x3) → jm_BI E jm_SH jm_m_Mod_mayStand 2 38 [some (jm_R 78), some (jm_I x1), some (jm_I x2), some (jm_I x3), some (jm_I 1), some (jm_I (jm_w32 (x5 + 1)))] [] h K))))) : jm_BI E jm_SH jm_m_Mod_mayStand 2 38 [some (jm_R 78), some (jm_I x1), some (jm_I x2), some (jm_I x3), some (jm_I x4), some (jm_I x5)] [] h K := by
  refine jm_iload jd_Mod_mayStand_38 rfl ?_
  refine jm_iload_n jd_Mod_mayStand_40 rfl rfl ?_
  refine jm_icmp_ge (tgt := 73) jd_Mod_mayStand_41 rfl (fun hc1 => ?_) (fun hc1 => ?_)
  · replace H := H.1 hc1
    refine jm_iload jd_Mod_mayStand_73 rfl ?_
    refine jm_if_ne (tgt := 89) jd_Mod_mayStand_75 rfl (fun hc2 => ?_) (fun hc2 => ?_)
    · replace H := H.1 hc2
      refine jm_iinc jd_Mod_mayStand_89 rfl (by decide) (ls2 := [some (jm_R 78), some (jm_I x1), some (jm_I x2), some (jm_I (jm_w32 (x3 + 1))), some (jm_I x4), some (jm_I x5)]) rfl ?_
      refine jm_goto (tgt := 27) jd_Mod_mayStand_92 rfl ?_
      refine jm_keepG [true, true, true, true, false, false] (ls2 := [some (jm_R 78), some (jm_I x1), some (jm_I x2), some (jm_I (jm_w32 (x3 + 1))), none, none]) (by rfl) (by rfl) ?_
      exact H
    · replace H := H.2 hc2
      refine jm_aload_n jd_Mod_mayStand_78 rfl rfl ?_
      refine jm_iload_n jd_Mod_mayStand_79 rfl rfl ?_
      refine jm_iload_n jd_Mod_mayStand_80 rfl rfl ?_
      refine jm_cV (M' := jm_m_Mod_mustLead) (d' := 1) (av := [jm_I x3, jm_I x1]) jd_Mod_mayStand_81 jk_Mod_mustLead jw_1136 rfl (by omega) ⟨rfl, rfl⟩ (by decide) (Nat.le_of_ble_eq_true rfl) jm_SH_78 rfl rfl (jm_hqI (fun v3 h3 H => ?_)) H
      refine jm_if_eq (tgt := 89) jd_Mod_mayStand_84 rfl (fun hc4 => ?_) (fun hc4 => ?_)
      · replace H := H.1 hc4
        refine jm_iinc jd_Mod_mayStand_89 rfl (by decide) (ls2 := [some (jm_R 78), some (jm_I x1), some (jm_I x2), some (jm_I (jm_w32 (x3 + 1))), some (jm_I x4), some (jm_I x5)]) rfl ?_
        refine jm_goto (tgt := 27) jd_Mod_mayStand_92 rfl ?_
        refine jm_keepG [true, true, true, true, false, false] (ls2 := [some (jm_R 78), some (jm_I x1), some (jm_I x2), some (jm_I (jm_w32 (x3 + 1))), none, none]) (by rfl) (by rfl) ?_
        exact H
      · replace H := H.2 hc4
        refine jm_iconst jd_Mod_mayStand_87 (jm_o32c rfl) ?_
        exact jm_zreturn jd_Mod_mayStand_88 rfl (Or.inl rfl) (by decide) ⟨rfl, _, rfl, H⟩
  · replace H := H.2 hc1
    refine jm_iload jd_Mod_mayStand_44 rfl ?_
    refine jm_if_ne (tgt := 60) jd_Mod_mayStand_46 rfl (fun hc5 => ?_) (fun hc5 => ?_)
    · replace H := H.1 hc5
      refine jm_iconst jd_Mod_mayStand_60 (jm_o32c rfl) ?_
      refine jm_goto (tgt := 65) jd_Mod_mayStand_61 rfl ?_
      refine jm_istore (i := 4) jd_Mod_mayStand_65 (by decide) (ls2 := [some (jm_R 78), some (jm_I x1), some (jm_I x2), some (jm_I x3), some (jm_I 1), some (jm_I x5)]) rfl ?_
      refine jm_iinc jd_Mod_mayStand_67 rfl (by decide) (ls2 := [some (jm_R 78), some (jm_I x1), some (jm_I x2), some (jm_I x3), some (jm_I 1), some (jm_I (jm_w32 (x5 + 1)))]) rfl ?_
      refine jm_goto (tgt := 38) jd_Mod_mayStand_70 rfl ?_
      exact H
    · replace H := H.2 hc5
      refine jm_aload_n jd_Mod_mayStand_49 rfl rfl ?_
      refine jm_gR jd_Mod_mayStand_50 jf_Mod_88 jm_SH_78 rfl ?_
      refine jm_iload jd_Mod_mayStand_53 rfl ?_
      obtain ⟨hb6, H⟩ := H
      refine jm_iaload jd_Mod_mayStand_55 jm_SH_105 hb6 ?_
      refine jm_iload_n jd_Mod_mayStand_56 rfl rfl ?_
      refine jm_icmp_ne (tgt := 64) jd_Mod_mayStand_57 rfl (fun hc7 => ?_) (fun hc7 => ?_)
      · replace H := H.1 hc7
        refine jm_iconst jd_Mod_mayStand_64 (jm_o32c rfl) ?_
        refine jm_istore (i := 4) jd_Mod_mayStand_65 (by decide) (ls2 := [some (jm_R 78), some (jm_I x1), some (jm_I x2), some (jm_I x3), some (jm_I 0), some (jm_I x5)]) rfl ?_
        refine jm_iinc jd_Mod_mayStand_67 rfl (by decide) (ls2 := [some (jm_R 78), some (jm_I x1), some (jm_I x2), some (jm_I x3), some (jm_I 0), some (jm_I (jm_w32 (x5 + 1)))]) rfl ?_
        refine jm_goto (tgt := 38) jd_Mod_mayStand_70 rfl ?_
        exact H
      · replace H := H.2 hc7
        refine jm_iconst jd_Mod_mayStand_60 (jm_o32c rfl) ?_
        refine jm_goto (tgt := 65) jd_Mod_mayStand_61 rfl ?_
        refine jm_istore (i := 4) jd_Mod_mayStand_65 (by decide) (ls2 := [some (jm_R 78), some (jm_I x1), some (jm_I x2), some (jm_I x3), some (jm_I 1), some (jm_I x5)]) rfl ?_
        refine jm_iinc jd_Mod_mayStand_67 rfl (by decide) (ls2 := [some (jm_R 78), some (jm_I x1), some (jm_I x2), some (jm_I x3), some (jm_I 1), some (jm_I (jm_w32 (x5 + 1)))]) rfl ?_
        refine jm_goto (tgt := 38) jd_Mod_mayStand_70 rfl ?_
        exact H
set_option maxRecDepth 4000 in
theorem jb_Mod_leastEnd {E : jm_Env} {x1 : Int} {h : jm_H} {K : Int → jm_H → Prop} (H : (0 ≤ x1 ∧ x1 < 13) ∧ (((¬ x1 = 0) → (0 ≤ jm_w32 (x1 - 1) ∧ jm_w32 (x1 - 1) < 12) ∧ (jm_BI E jm_SH jm_m_Mod_leastEnd 0 27 [some (jm_R 78), some (jm_I x1), some (jm_I (h 108 (Int.toNat x1))), some (jm_I (h 106 (Int.toNat (jm_w32 (x1 - 1))))), some (jm_I 5), none, none, none] [] h K)) ∧ ((x1 = 0) → jm_BI E jm_SH jm_m_Mod_leastEnd 0 27 [some (jm_R 78), some (jm_I x1), some (jm_I (h 108 (Int.toNat x1))), some (jm_I (-1)), some (jm_I 5), none, none, none] [] h K))) : jm_CI E jm_SH jm_m_Mod_leastEnd 0 [jm_R 78, jm_I x1] h K := by
  refine jm_body (ls0 := [some (jm_R 78), some (jm_I x1), none, none, none, none, none, none]) (by decide +kernel) rfl rfl (Nat.le_of_ble_eq_true rfl) ?_
  refine jm_aload_n jd_Mod_leastEnd_0 rfl rfl ?_
  refine jm_gR jd_Mod_leastEnd_1 jf_Mod_97 jm_SH_78 rfl ?_
  refine jm_iload_n jd_Mod_leastEnd_4 rfl rfl ?_
  obtain ⟨hb1, H⟩ := H
  refine jm_iaload jd_Mod_leastEnd_5 jm_SH_108 hb1 ?_
  refine jm_istore_n (i := 2) jd_Mod_leastEnd_6 rfl (by decide) (ls2 := [some (jm_R 78), some (jm_I x1), some (jm_I (h 108 (Int.toNat x1))), none, none, none, none, none]) rfl ?_
  refine jm_iload_n jd_Mod_leastEnd_7 rfl rfl ?_
  refine jm_if_ne (tgt := 15) jd_Mod_leastEnd_8 rfl (fun hc2 => ?_) (fun hc2 => ?_)
  · replace H := H.1 hc2
    refine jm_aload_n jd_Mod_leastEnd_15 rfl rfl ?_
    refine jm_gR jd_Mod_leastEnd_16 jf_Mod_91 jm_SH_78 rfl ?_
    refine jm_iload_n jd_Mod_leastEnd_19 rfl rfl ?_
    refine jm_iconst jd_Mod_leastEnd_20 (jm_o32c rfl) ?_
    refine jm_isub jd_Mod_leastEnd_21 ?_
    obtain ⟨hb3, H⟩ := H
    refine jm_iaload jd_Mod_leastEnd_22 jm_SH_106 hb3 ?_
    refine jm_istore_n (i := 3) jd_Mod_leastEnd_23 rfl (by decide) (ls2 := [some (jm_R 78), some (jm_I x1), some (jm_I (h 108 (Int.toNat x1))), some (jm_I (h 106 (Int.toNat (jm_w32 (x1 - 1))))), none, none, none, none]) rfl ?_
    refine jm_iconst jd_Mod_leastEnd_24 (jm_o32c rfl) ?_
    refine jm_istore (i := 4) jd_Mod_leastEnd_25 (by decide) (ls2 := [some (jm_R 78), some (jm_I x1), some (jm_I (h 108 (Int.toNat x1))), some (jm_I (h 106 (Int.toNat (jm_w32 (x1 - 1))))), some (jm_I 5), none, none, none]) rfl ?_
    exact H
  · replace H := H.2 hc2
    refine jm_iconst jd_Mod_leastEnd_11 (jm_o32c rfl) ?_
    refine jm_goto (tgt := 23) jd_Mod_leastEnd_12 rfl ?_
    refine jm_istore_n (i := 3) jd_Mod_leastEnd_23 rfl (by decide) (ls2 := [some (jm_R 78), some (jm_I x1), some (jm_I (h 108 (Int.toNat x1))), some (jm_I (-1)), none, none, none, none]) rfl ?_
    refine jm_iconst jd_Mod_leastEnd_24 (jm_o32c rfl) ?_
    refine jm_istore (i := 4) jd_Mod_leastEnd_25 (by decide) (ls2 := [some (jm_R 78), some (jm_I x1), some (jm_I (h 108 (Int.toNat x1))), some (jm_I (-1)), some (jm_I 5), none, none, none]) rfl ?_
    exact H
set_option maxRecDepth 4000 in
theorem jb_Mod_leastEnd_27 {E : jm_Env} {x1 x2 x3 x4 : Int} {h : jm_H} {K : Int → jm_H → Prop} (H : ((x4 ≤ 0) → K x2 h) ∧ ((¬ x4 ≤ 0) → jm_BI E jm_SH jm_m_Mod_leastEnd 0 35 [some (jm_R 78), some (jm_I x1), some (jm_I x2), some (jm_I x3), some (jm_I x4), some (jm_I 0), none, none] [] h K)) : jm_BI E jm_SH jm_m_Mod_leastEnd 0 27 [some (jm_R 78), some (jm_I x1), some (jm_I x2), some (jm_I x3), some (jm_I x4), none, none, none] [] h K := by
  refine jm_iload jd_Mod_leastEnd_27 rfl ?_
  refine jm_if_le (tgt := 135) jd_Mod_leastEnd_29 rfl (fun hc1 => ?_) (fun hc1 => ?_)
  · replace H := H.1 hc1
    refine jm_iload_n jd_Mod_leastEnd_135 rfl rfl ?_
    exact jm_ireturn jd_Mod_leastEnd_136 rfl (by decide) ⟨rfl, _, rfl, H⟩
  · replace H := H.2 hc1
    refine jm_iconst jd_Mod_leastEnd_32 (jm_o32c rfl) ?_
    refine jm_istore (i := 5) jd_Mod_leastEnd_33 (by decide) (ls2 := [some (jm_R 78), some (jm_I x1), some (jm_I x2), some (jm_I x3), some (jm_I x4), some (jm_I 0), none, none]) rfl ?_
    exact H
set_option maxRecDepth 4000 in
theorem jb_Mod_leastEnd_35 {E : jm_Env} {x1 x2 x3 x4 x5 : Int} {h : jm_H} {K : Int → jm_H → Prop} (H : ((h 78 32 ≤ x5) → jm_BI E jm_SH jm_m_Mod_leastEnd 0 27 [some (jm_R 78), some (jm_I x1), some (jm_I x2), some (jm_I x3), some (jm_I (jm_w32 (x4 + (-1)))), none, none, none] [] h K) ∧ ((¬ h 78 32 ≤ x5) → jm_BI E jm_SH jm_m_Mod_leastEnd 0 50 [some (jm_R 78), some (jm_I x1), some (jm_I x2), some (jm_I x3), some (jm_I x4), some (jm_I x5), some (jm_I 0), some (jm_I 0)] [] h K)) : jm_BI E jm_SH jm_m_Mod_leastEnd 0 35 [some (jm_R 78), some (jm_I x1), some (jm_I x2), some (jm_I x3), some (jm_I x4), some (jm_I x5), none, none] [] h K := by
  refine jm_iload jd_Mod_leastEnd_35 rfl ?_
  refine jm_aload_n jd_Mod_leastEnd_37 rfl rfl ?_
  refine jm_gI jd_Mod_leastEnd_38 jf_Mod_231 jm_SH_78 ?_
  refine jm_icmp_ge (tgt := 129) jd_Mod_leastEnd_41 rfl (fun hc1 => ?_) (fun hc1 => ?_)
  · replace H := H.1 hc1
    refine jm_iinc jd_Mod_leastEnd_129 rfl (by decide) (ls2 := [some (jm_R 78), some (jm_I x1), some (jm_I x2), some (jm_I x3), some (jm_I (jm_w32 (x4 + (-1)))), some (jm_I x5), none, none]) rfl ?_
    refine jm_goto (tgt := 27) jd_Mod_leastEnd_132 rfl ?_
    refine jm_keepG [true, true, true, true, true, false, false, false] (ls2 := [some (jm_R 78), some (jm_I x1), some (jm_I x2), some (jm_I x3), some (jm_I (jm_w32 (x4 + (-1)))), none, none, none]) (by rfl) (by rfl) ?_
    exact H
  · replace H := H.2 hc1
    refine jm_iconst jd_Mod_leastEnd_44 (jm_o32c rfl) ?_
    refine jm_istore (i := 6) jd_Mod_leastEnd_45 (by decide) (ls2 := [some (jm_R 78), some (jm_I x1), some (jm_I x2), some (jm_I x3), some (jm_I x4), some (jm_I x5), some (jm_I 0), none]) rfl ?_
    refine jm_iconst jd_Mod_leastEnd_47 (jm_o32c rfl) ?_
    refine jm_istore (i := 7) jd_Mod_leastEnd_48 (by decide) (ls2 := [some (jm_R 78), some (jm_I x1), some (jm_I x2), some (jm_I x3), some (jm_I x4), some (jm_I x5), some (jm_I 0), some (jm_I 0)]) rfl ?_
    exact H
set_option maxRecDepth 4000 in
theorem jb_Mod_leastEnd_50 {E : jm_Env} {x1 x2 x3 x4 x5 x6 x7 : Int} {h : jm_H} {K : Int → jm_H → Prop} (H : ((x1 ≤ x7) → ((¬ x6 = 0) → jm_BI E jm_SH jm_m_Mod_leastEnd 0 35 [some (jm_R 78), some (jm_I x1), some (jm_I x2), some (jm_I x3), some (jm_I x4), some (jm_I (jm_w32 (x5 + 1))), none, none] [] h K) ∧ ((x6 = 0) → (0 ≤ x5 ∧ x5 < 12) ∧ (((¬ h 103 (Int.toNat x5) = x4) → jm_BI E jm_SH jm_m_Mod_leastEnd 0 35 [some (jm_R 78), some (jm_I x1), some (jm_I x2), some (jm_I x3), some (jm_I x4), some (jm_I (jm_w32 (x5 + 1))), none, none] [] h K) ∧ ((h 103 (Int.toNat x5) = x4) → ((jm_w32 ((jm_w32 (x3 + 1)) + x4) ≤ x2) → jm_BI E jm_SH jm_m_Mod_leastEnd 0 35 [some (jm_R 78), some (jm_I x1), some (jm_I x2), some (jm_I (jm_w32 (x3 + 1))), some (jm_I x4), some (jm_I (jm_w32 (x5 + 1))), none, none] [] h K) ∧ ((¬ jm_w32 ((jm_w32 (x3 + 1)) + x4) ≤ x2) → jm_BI E jm_SH jm_m_Mod_leastEnd 0 35 [some (jm_R 78), some (jm_I x1), some (jm_I (jm_w32 ((jm_w32 (x3 + 1)) + x4))), some (jm_I (jm_w32 (x3 + 1))), some (jm_I x4), some (jm_I (jm_w32 (x5 + 1))), none, none] [] h K))))) ∧ ((¬ x1 ≤ x7) → ((¬ x6 = 0) → jm_BI E jm_SH jm_m_Mod_leastEnd 0 50 [some (jm_R 78), some (jm_I x1), some (jm_I x2), some (jm_I x3), some (jm_I x4), some (jm_I x5), some (jm_I 1), some (jm_I (jm_w32 (x7 + 1)))] [] h K) ∧ ((x6 = 0) → (0 ≤ x7 ∧ x7 < 12) ∧ (((¬ h 105 (Int.toNat x7) = x5) → jm_BI E jm_SH jm_m_Mod_leastEnd 0 50 [some (jm_R 78), some (jm_I x1), some (jm_I x2), some (jm_I x3), some (jm_I x4), some (jm_I x5), some (jm_I 0), some (jm_I (jm_w32 (x7 + 1)))] [] h K) ∧ ((h 105 (Int.toNat x7) = x5) → jm_BI E jm_SH jm_m_Mod_leastEnd 0 50 [some (jm_R 78), some (jm_I x1), some (jm_I x2), some (jm_I x3), some (jm_I x4), some (jm_I x5), some (jm_I 1), some (jm_I (jm_w32 (x7 + 1)))] [] h K))))) : jm_BI E jm_SH jm_m_Mod_leastEnd 0 50 [some (jm_R 78), some (jm_I x1), some (jm_I x2), some (jm_I x3), some (jm_I x4), some (jm_I x5), some (jm_I x6), some (jm_I x7)] [] h K := by
  refine jm_iload jd_Mod_leastEnd_50 rfl ?_
  refine jm_iload_n jd_Mod_leastEnd_52 rfl rfl ?_
  refine jm_icmp_ge (tgt := 86) jd_Mod_leastEnd_53 rfl (fun hc1 => ?_) (fun hc1 => ?_)
  · replace H := H.1 hc1
    refine jm_iload jd_Mod_leastEnd_86 rfl ?_
    refine jm_if_ne (tgt := 123) jd_Mod_leastEnd_88 rfl (fun hc2 => ?_) (fun hc2 => ?_)
    · replace H := H.1 hc2
      refine jm_iinc jd_Mod_leastEnd_123 rfl (by decide) (ls2 := [some (jm_R 78), some (jm_I x1), some (jm_I x2), some (jm_I x3), some (jm_I x4), some (jm_I (jm_w32 (x5 + 1))), some (jm_I x6), some (jm_I x7)]) rfl ?_
      refine jm_goto (tgt := 35) jd_Mod_leastEnd_126 rfl ?_
      refine jm_keepG [true, true, true, true, true, true, false, false] (ls2 := [some (jm_R 78), some (jm_I x1), some (jm_I x2), some (jm_I x3), some (jm_I x4), some (jm_I (jm_w32 (x5 + 1))), none, none]) (by rfl) (by rfl) ?_
      exact H
    · replace H := H.2 hc2
      refine jm_aload_n jd_Mod_leastEnd_91 rfl rfl ?_
      refine jm_gR jd_Mod_leastEnd_92 jf_Mod_82 jm_SH_78 rfl ?_
      refine jm_iload jd_Mod_leastEnd_95 rfl ?_
      obtain ⟨hb3, H⟩ := H
      refine jm_iaload jd_Mod_leastEnd_97 jm_SH_103 hb3 ?_
      refine jm_iload jd_Mod_leastEnd_98 rfl ?_
      refine jm_icmp_ne (tgt := 123) jd_Mod_leastEnd_100 rfl (fun hc4 => ?_) (fun hc4 => ?_)
      · replace H := H.1 hc4
        refine jm_iinc jd_Mod_leastEnd_123 rfl (by decide) (ls2 := [some (jm_R 78), some (jm_I x1), some (jm_I x2), some (jm_I x3), some (jm_I x4), some (jm_I (jm_w32 (x5 + 1))), some (jm_I x6), some (jm_I x7)]) rfl ?_
        refine jm_goto (tgt := 35) jd_Mod_leastEnd_126 rfl ?_
        refine jm_keepG [true, true, true, true, true, true, false, false] (ls2 := [some (jm_R 78), some (jm_I x1), some (jm_I x2), some (jm_I x3), some (jm_I x4), some (jm_I (jm_w32 (x5 + 1))), none, none]) (by rfl) (by rfl) ?_
        exact H
      · replace H := H.2 hc4
        refine jm_iinc jd_Mod_leastEnd_103 rfl (by decide) (ls2 := [some (jm_R 78), some (jm_I x1), some (jm_I x2), some (jm_I (jm_w32 (x3 + 1))), some (jm_I x4), some (jm_I x5), some (jm_I x6), some (jm_I x7)]) rfl ?_
        refine jm_iload_n jd_Mod_leastEnd_106 rfl rfl ?_
        refine jm_iload jd_Mod_leastEnd_107 rfl ?_
        refine jm_iadd jd_Mod_leastEnd_109 ?_
        refine jm_iload_n jd_Mod_leastEnd_110 rfl rfl ?_
        refine jm_icmp_le (tgt := 121) jd_Mod_leastEnd_111 rfl (fun hc5 => ?_) (fun hc5 => ?_)
        · replace H := H.1 hc5
          refine jm_iload_n jd_Mod_leastEnd_121 rfl rfl ?_
          refine jm_istore_n (i := 2) jd_Mod_leastEnd_122 rfl (by decide) (ls2 := [some (jm_R 78), some (jm_I x1), some (jm_I x2), some (jm_I (jm_w32 (x3 + 1))), some (jm_I x4), some (jm_I x5), some (jm_I x6), some (jm_I x7)]) rfl ?_
          refine jm_iinc jd_Mod_leastEnd_123 rfl (by decide) (ls2 := [some (jm_R 78), some (jm_I x1), some (jm_I x2), some (jm_I (jm_w32 (x3 + 1))), some (jm_I x4), some (jm_I (jm_w32 (x5 + 1))), some (jm_I x6), some (jm_I x7)]) rfl ?_
          refine jm_goto (tgt := 35) jd_Mod_leastEnd_126 rfl ?_
          refine jm_keepG [true, true, true, true, true, true, false, false] (ls2 := [some (jm_R 78), some (jm_I x1), some (jm_I x2), some (jm_I (jm_w32 (x3 + 1))), some (jm_I x4), some (jm_I (jm_w32 (x5 + 1))), none, none]) (by rfl) (by rfl) ?_
          exact H
        · replace H := H.2 hc5
          refine jm_iload_n jd_Mod_leastEnd_114 rfl rfl ?_
          refine jm_iload jd_Mod_leastEnd_115 rfl ?_
          refine jm_iadd jd_Mod_leastEnd_117 ?_
          refine jm_goto (tgt := 122) jd_Mod_leastEnd_118 rfl ?_
          refine jm_istore_n (i := 2) jd_Mod_leastEnd_122 rfl (by decide) (ls2 := [some (jm_R 78), some (jm_I x1), some (jm_I (jm_w32 ((jm_w32 (x3 + 1)) + x4))), some (jm_I (jm_w32 (x3 + 1))), some (jm_I x4), some (jm_I x5), some (jm_I x6), some (jm_I x7)]) rfl ?_
          refine jm_iinc jd_Mod_leastEnd_123 rfl (by decide) (ls2 := [some (jm_R 78), some (jm_I x1), some (jm_I (jm_w32 ((jm_w32 (x3 + 1)) + x4))), some (jm_I (jm_w32 (x3 + 1))), some (jm_I x4), some (jm_I (jm_w32 (x5 + 1))), some (jm_I x6), some (jm_I x7)]) rfl ?_
          refine jm_goto (tgt := 35) jd_Mod_leastEnd_126 rfl ?_
          refine jm_keepG [true, true, true, true, true, true, false, false] (ls2 := [some (jm_R 78), some (jm_I x1), some (jm_I (jm_w32 ((jm_w32 (x3 + 1)) + x4))), some (jm_I (jm_w32 (x3 + 1))), some (jm_I x4), some (jm_I (jm_w32 (x5 + 1))), none, none]) (by rfl) (by rfl) ?_
          exact H
  · replace H := H.2 hc1
    refine jm_iload jd_Mod_leastEnd_56 rfl ?_
    refine jm_if_ne (tgt := 73) jd_Mod_leastEnd_58 rfl (fun hc6 => ?_) (fun hc6 => ?_)
    · replace H := H.1 hc6
      refine jm_iconst jd_Mod_leastEnd_73 (jm_o32c rfl) ?_
      refine jm_goto (tgt := 78) jd_Mod_leastEnd_74 rfl ?_
      refine jm_istore (i := 6) jd_Mod_leastEnd_78 (by decide) (ls2 := [some (jm_R 78), some (jm_I x1), some (jm_I x2), some (jm_I x3), some (jm_I x4), some (jm_I x5), some (jm_I 1), some (jm_I x7)]) rfl ?_
      refine jm_iinc jd_Mod_leastEnd_80 rfl (by decide) (ls2 := [some (jm_R 78), some (jm_I x1), some (jm_I x2), some (jm_I x3), some (jm_I x4), some (jm_I x5), some (jm_I 1), some (jm_I (jm_w32 (x7 + 1)))]) rfl ?_
      refine jm_goto (tgt := 50) jd_Mod_leastEnd_83 rfl ?_
      exact H
    · replace H := H.2 hc6
      refine jm_aload_n jd_Mod_leastEnd_61 rfl rfl ?_
      refine jm_gR jd_Mod_leastEnd_62 jf_Mod_88 jm_SH_78 rfl ?_
      refine jm_iload jd_Mod_leastEnd_65 rfl ?_
      obtain ⟨hb7, H⟩ := H
      refine jm_iaload jd_Mod_leastEnd_67 jm_SH_105 hb7 ?_
      refine jm_iload jd_Mod_leastEnd_68 rfl ?_
      refine jm_icmp_ne (tgt := 77) jd_Mod_leastEnd_70 rfl (fun hc8 => ?_) (fun hc8 => ?_)
      · replace H := H.1 hc8
        refine jm_iconst jd_Mod_leastEnd_77 (jm_o32c rfl) ?_
        refine jm_istore (i := 6) jd_Mod_leastEnd_78 (by decide) (ls2 := [some (jm_R 78), some (jm_I x1), some (jm_I x2), some (jm_I x3), some (jm_I x4), some (jm_I x5), some (jm_I 0), some (jm_I x7)]) rfl ?_
        refine jm_iinc jd_Mod_leastEnd_80 rfl (by decide) (ls2 := [some (jm_R 78), some (jm_I x1), some (jm_I x2), some (jm_I x3), some (jm_I x4), some (jm_I x5), some (jm_I 0), some (jm_I (jm_w32 (x7 + 1)))]) rfl ?_
        refine jm_goto (tgt := 50) jd_Mod_leastEnd_83 rfl ?_
        exact H
      · replace H := H.2 hc8
        refine jm_iconst jd_Mod_leastEnd_73 (jm_o32c rfl) ?_
        refine jm_goto (tgt := 78) jd_Mod_leastEnd_74 rfl ?_
        refine jm_istore (i := 6) jd_Mod_leastEnd_78 (by decide) (ls2 := [some (jm_R 78), some (jm_I x1), some (jm_I x2), some (jm_I x3), some (jm_I x4), some (jm_I x5), some (jm_I 1), some (jm_I x7)]) rfl ?_
        refine jm_iinc jd_Mod_leastEnd_80 rfl (by decide) (ls2 := [some (jm_R 78), some (jm_I x1), some (jm_I x2), some (jm_I x3), some (jm_I x4), some (jm_I x5), some (jm_I 1), some (jm_I (jm_w32 (x7 + 1)))]) rfl ?_
        refine jm_goto (tgt := 50) jd_Mod_leastEnd_83 rfl ?_
        exact H
set_option maxRecDepth 4000 in
theorem jb_Mod_findBest {E : jm_Env} {h : jm_H} {K : jm_H → Prop} (H : jm_BV E jm_SH jm_m_Mod_findBest 3 17 [some (jm_R 78), some (jm_I 0), some (jm_I 0), none, none, none] [] (jm_up (jm_up h 78 36 1000000) 108 0 0) K) : jm_CV E jm_SH jm_m_Mod_findBest 3 [jm_R 78] h K := by
  refine jm_body (ls0 := [some (jm_R 78), none, none, none, none, none]) (by decide +kernel) rfl rfl (Nat.le_of_ble_eq_true rfl) ?_
  refine jm_aload_n jd_Mod_findBest_0 rfl rfl ?_
  refine jm_ldc (x := 1000000) jd_Mod_findBest_1 jc_1064 (jm_o32c rfl) ?_
  refine jm_sI jd_Mod_findBest_3 jp_Mod_251 jm_SH_78 ?_
  refine jm_aload_n jd_Mod_findBest_6 rfl rfl ?_
  refine jm_gR jd_Mod_findBest_7 jf_Mod_97 jm_SH_78 rfl ?_
  refine jm_iconst jd_Mod_findBest_10 (jm_o32c rfl) ?_
  refine jm_iconst jd_Mod_findBest_11 (jm_o32c rfl) ?_
  refine jm_iastore jd_Mod_findBest_12 jm_SH_108 (by decide) ?_
  refine jm_iconst jd_Mod_findBest_13 (jm_o32c rfl) ?_
  refine jm_istore_n (i := 1) jd_Mod_findBest_14 rfl (by decide) (ls2 := [some (jm_R 78), some (jm_I 0), none, none, none, none]) rfl ?_
  refine jm_iconst jd_Mod_findBest_15 (jm_o32c rfl) ?_
  refine jm_istore_n (i := 2) jd_Mod_findBest_16 rfl (by decide) (ls2 := [some (jm_R 78), some (jm_I 0), some (jm_I 0), none, none, none]) rfl ?_
  exact H
set_option maxRecDepth 4000 in
theorem jb_Mod_findBest_17 {E : jm_Env} {x1 x2 : Int} {h : jm_H} {K : jm_H → Prop} (H : ((x1 < 0) → K h) ∧ ((¬ x1 < 0) → ((¬ x1 = h 78 32) → jm_BV E jm_SH jm_m_Mod_findBest 3 92 [some (jm_R 78), some (jm_I x1), none, some (jm_I x2), none, none] [] h K) ∧ ((x1 = h 78 32) → (0 ≤ x1 ∧ x1 < 13) ∧ (jm_BV E jm_SH jm_m_Mod_findBest 3 41 [some (jm_R 78), some (jm_I x1), none, some (jm_I 0), none, none] [] (jm_up h 78 36 (h 108 (Int.toNat x1))) K)))) : jm_BV E jm_SH jm_m_Mod_findBest 3 17 [some (jm_R 78), some (jm_I x1), some (jm_I x2), none, none, none] [] h K := by
  refine jm_iload_n jd_Mod_findBest_17 rfl rfl ?_
  refine jm_if_lt (tgt := 259) jd_Mod_findBest_18 rfl (fun hc1 => ?_) (fun hc1 => ?_)
  · replace H := H.1 hc1
    exact jm_vreturn jd_Mod_findBest_259 rfl (by decide) ⟨rfl, rfl, H⟩
  · replace H := H.2 hc1
    refine jm_iload_n jd_Mod_findBest_21 rfl rfl ?_
    refine jm_aload_n jd_Mod_findBest_22 rfl rfl ?_
    refine jm_gI jd_Mod_findBest_23 jf_Mod_231 jm_SH_78 ?_
    refine jm_icmp_ne (tgt := 90) jd_Mod_findBest_26 rfl (fun hc2 => ?_) (fun hc2 => ?_)
    · replace H := H.1 hc2
      refine jm_iload_n jd_Mod_findBest_90 rfl rfl ?_
      refine jm_istore_n (i := 3) jd_Mod_findBest_91 rfl (by decide) (ls2 := [some (jm_R 78), some (jm_I x1), some (jm_I x2), some (jm_I x2), none, none]) rfl ?_
      refine jm_keepG [true, true, false, true, false, false] (ls2 := [some (jm_R 78), some (jm_I x1), none, some (jm_I x2), none, none]) (by rfl) (by rfl) ?_
      exact H
    · replace H := H.2 hc2
      refine jm_aload_n jd_Mod_findBest_29 rfl rfl ?_
      refine jm_aload_n jd_Mod_findBest_30 rfl rfl ?_
      refine jm_gR jd_Mod_findBest_31 jf_Mod_97 jm_SH_78 rfl ?_
      refine jm_iload_n jd_Mod_findBest_34 rfl rfl ?_
      obtain ⟨hb3, H⟩ := H
      refine jm_iaload jd_Mod_findBest_35 jm_SH_108 hb3 ?_
      refine jm_sI jd_Mod_findBest_36 jp_Mod_251 jm_SH_78 ?_
      refine jm_iconst jd_Mod_findBest_39 (jm_o32c rfl) ?_
      refine jm_istore_n (i := 3) jd_Mod_findBest_40 rfl (by decide) (ls2 := [some (jm_R 78), some (jm_I x1), some (jm_I x2), some (jm_I 0), none, none]) rfl ?_
      refine jm_keepG [true, true, false, true, false, false] (ls2 := [some (jm_R 78), some (jm_I x1), none, some (jm_I 0), none, none]) (by rfl) (by rfl) ?_
      exact H
set_option maxRecDepth 4000 in
theorem jb_Mod_findBest_41 {E : jm_Env} {x1 x3 : Int} {h : jm_H} {K : jm_H → Prop} (H : ((h 78 32 ≤ x3) → ((0 ≤ jm_w32 (x1 + (-1))) → (0 ≤ jm_w32 (x1 + (-1)) ∧ jm_w32 (x1 + (-1)) < 12) ∧ (jm_BV E jm_SH jm_m_Mod_findBest 3 17 [some (jm_R 78), some (jm_I (jm_w32 (x1 + (-1)))), some (jm_I (jm_w32 ((h 105 (Int.toNat (jm_w32 (x1 + (-1))))) + 1))), none, none, none] [] h K)) ∧ ((¬ 0 ≤ jm_w32 (x1 + (-1))) → jm_BV E jm_SH jm_m_Mod_findBest 3 17 [some (jm_R 78), some (jm_I (jm_w32 (x1 + (-1)))), some (jm_I 0), none, none, none] [] h K)) ∧ ((¬ h 78 32 ≤ x3) → (0 ≤ x3 ∧ x3 < 12) ∧ ((0 ≤ x3 ∧ x3 < 12) ∧ (jm_BV E jm_SH jm_m_Mod_findBest 3 41 [some (jm_R 78), some (jm_I x1), none, some (jm_I (jm_w32 (x3 + 1))), none, none] [] (jm_up h 107 (Int.toNat x3) (h 105 (Int.toNat x3))) K)))) : jm_BV E jm_SH jm_m_Mod_findBest 3 41 [some (jm_R 78), some (jm_I x1), none, some (jm_I x3), none, none] [] h K := by
  refine jm_iload_n jd_Mod_findBest_41 rfl rfl ?_
  refine jm_aload_n jd_Mod_findBest_42 rfl rfl ?_
  refine jm_gI jd_Mod_findBest_43 jf_Mod_231 jm_SH_78 ?_
  refine jm_icmp_ge (tgt := 67) jd_Mod_findBest_46 rfl (fun hc1 => ?_) (fun hc1 => ?_)
  · replace H := H.1 hc1
    refine jm_iinc jd_Mod_findBest_67 rfl (by decide) (ls2 := [some (jm_R 78), some (jm_I (jm_w32 (x1 + (-1)))), none, some (jm_I x3), none, none]) rfl ?_
    refine jm_iload_n jd_Mod_findBest_70 rfl rfl ?_
    refine jm_if_ge (tgt := 78) jd_Mod_findBest_71 rfl (fun hc2 => ?_) (fun hc2 => ?_)
    · replace H := H.1 hc2
      refine jm_aload_n jd_Mod_findBest_78 rfl rfl ?_
      refine jm_gR jd_Mod_findBest_79 jf_Mod_88 jm_SH_78 rfl ?_
      refine jm_iload_n jd_Mod_findBest_82 rfl rfl ?_
      obtain ⟨hb3, H⟩ := H
      refine jm_iaload jd_Mod_findBest_83 jm_SH_105 hb3 ?_
      refine jm_iconst jd_Mod_findBest_84 (jm_o32c rfl) ?_
      refine jm_iadd jd_Mod_findBest_85 ?_
      refine jm_istore_n (i := 2) jd_Mod_findBest_86 rfl (by decide) (ls2 := [some (jm_R 78), some (jm_I (jm_w32 (x1 + (-1)))), some (jm_I (jm_w32 ((h 105 (Int.toNat (jm_w32 (x1 + (-1))))) + 1))), some (jm_I x3), none, none]) rfl ?_
      refine jm_goto (tgt := 17) jd_Mod_findBest_87 rfl ?_
      refine jm_keepG [true, true, true, false, false, false] (ls2 := [some (jm_R 78), some (jm_I (jm_w32 (x1 + (-1)))), some (jm_I (jm_w32 ((h 105 (Int.toNat (jm_w32 (x1 + (-1))))) + 1))), none, none, none]) (by rfl) (by rfl) ?_
      exact H
    · replace H := H.2 hc2
      refine jm_iconst jd_Mod_findBest_74 (jm_o32c rfl) ?_
      refine jm_goto (tgt := 86) jd_Mod_findBest_75 rfl ?_
      refine jm_istore_n (i := 2) jd_Mod_findBest_86 rfl (by decide) (ls2 := [some (jm_R 78), some (jm_I (jm_w32 (x1 + (-1)))), some (jm_I 0), some (jm_I x3), none, none]) rfl ?_
      refine jm_goto (tgt := 17) jd_Mod_findBest_87 rfl ?_
      refine jm_keepG [true, true, true, false, false, false] (ls2 := [some (jm_R 78), some (jm_I (jm_w32 (x1 + (-1)))), some (jm_I 0), none, none, none]) (by rfl) (by rfl) ?_
      exact H
  · replace H := H.2 hc1
    refine jm_aload_n jd_Mod_findBest_49 rfl rfl ?_
    refine jm_gR jd_Mod_findBest_50 jf_Mod_94 jm_SH_78 rfl ?_
    refine jm_iload_n jd_Mod_findBest_53 rfl rfl ?_
    refine jm_aload_n jd_Mod_findBest_54 rfl rfl ?_
    refine jm_gR jd_Mod_findBest_55 jf_Mod_88 jm_SH_78 rfl ?_
    refine jm_iload_n jd_Mod_findBest_58 rfl rfl ?_
    obtain ⟨hb4, H⟩ := H
    refine jm_iaload jd_Mod_findBest_59 jm_SH_105 hb4 ?_
    obtain ⟨hb5, H⟩ := H
    refine jm_iastore jd_Mod_findBest_60 jm_SH_107 hb5 ?_
    refine jm_iinc jd_Mod_findBest_61 rfl (by decide) (ls2 := [some (jm_R 78), some (jm_I x1), none, some (jm_I (jm_w32 (x3 + 1))), none, none]) rfl ?_
    refine jm_goto (tgt := 41) jd_Mod_findBest_64 rfl ?_
    exact H
set_option maxRecDepth 4000 in
theorem jb_Mod_findBest_92 {E : jm_Env} {x1 x3 : Int} {h : jm_H} {K : jm_H → Prop} (H : ((h 78 32 ≤ x3) → jm_BV E jm_SH jm_m_Mod_findBest 3 115 [some (jm_R 78), some (jm_I x1), none, some (jm_I x3), none, none] [] h K) ∧ ((¬ h 78 32 ≤ x3) → jm_CI E jm_SH jm_m_Mod_mayStand 2 [jm_R 78, jm_I x3, jm_I x1] h (fun v2 h2 => ((¬ v2 = 0) → jm_BV E jm_SH jm_m_Mod_findBest 3 115 [some (jm_R 78), some (jm_I x1), none, some (jm_I x3), none, none] [] h2 K) ∧ ((v2 = 0) → jm_BV E jm_SH jm_m_Mod_findBest 3 92 [some (jm_R 78), some (jm_I x1), none, some (jm_I (jm_w32 (x3 + 1))), none, none] [] h2 K)))) : jm_BV E jm_SH jm_m_Mod_findBest 3 92 [some (jm_R 78), some (jm_I x1), none, some (jm_I x3), none, none] [] h K := by
  refine jm_iload_n jd_Mod_findBest_92 rfl rfl ?_
  refine jm_aload_n jd_Mod_findBest_93 rfl rfl ?_
  refine jm_gI jd_Mod_findBest_94 jf_Mod_231 jm_SH_78 ?_
  refine jm_icmp_ge (tgt := 115) jd_Mod_findBest_97 rfl (fun hc1 => ?_) (fun hc1 => ?_)
  · replace H := H.1 hc1
    exact H
  · replace H := H.2 hc1
    refine jm_aload_n jd_Mod_findBest_100 rfl rfl ?_
    refine jm_iload_n jd_Mod_findBest_101 rfl rfl ?_
    refine jm_iload_n jd_Mod_findBest_102 rfl rfl ?_
    refine jm_cV (M' := jm_m_Mod_mayStand) (d' := 2) (av := [jm_I x3, jm_I x1]) jd_Mod_findBest_103 jk_Mod_mayStand jw_1148 rfl (by omega) ⟨rfl, rfl⟩ (by decide) (Nat.le_of_ble_eq_true rfl) jm_SH_78 rfl rfl (jm_hqI (fun v2 h2 H => ?_)) H
    refine jm_if_ne (tgt := 115) jd_Mod_findBest_106 rfl (fun hc3 => ?_) (fun hc3 => ?_)
    · replace H := H.1 hc3
      exact H
    · replace H := H.2 hc3
      refine jm_iinc jd_Mod_findBest_109 rfl (by decide) (ls2 := [some (jm_R 78), some (jm_I x1), none, some (jm_I (jm_w32 (x3 + 1))), none, none]) rfl ?_
      refine jm_goto (tgt := 92) jd_Mod_findBest_112 rfl ?_
      exact H
set_option maxRecDepth 4000 in
theorem jb_Mod_findBest_115 {E : jm_Env} {x1 x3 : Int} {h : jm_H} {K : jm_H → Prop} (H : ((¬ x3 = h 78 32) → (0 ≤ x1 ∧ x1 < 12) ∧ (jm_CI E jm_SH jm_m_Mod_startOf 1 [jm_R 78, jm_I x1] (jm_up h 105 (Int.toNat x1) x3) (fun v3 h3 => (0 ≤ x1 ∧ x1 < 12) ∧ ((0 ≤ x1 ∧ x1 < 12) ∧ ((0 ≤ x3 ∧ x3 < 12) ∧ ((0 ≤ x1 ∧ x1 < 13) ∧ (((jm_w32 (((jm_up h3 106 (Int.toNat x1) v3) 106 (Int.toNat x1)) + (h3 103 (Int.toNat x3))) ≤ h3 108 (Int.toNat x1)) → (0 ≤ x1 ∧ x1 < 13) ∧ ((0 ≤ jm_w32 (x1 + 1) ∧ jm_w32 (x1 + 1) < 13) ∧ (jm_CI E jm_SH jm_m_Mod_leastEnd 0 [jm_R 78, jm_I (jm_w32 (x1 + 1))] (jm_up (jm_up h3 106 (Int.toNat x1) v3) 108 (Int.toNat (jm_w32 (x1 + 1))) (h3 108 (Int.toNat x1))) (fun v11 h11 => ((h11 78 36 ≤ v11) → jm_BV E jm_SH jm_m_Mod_findBest 3 228 [some (jm_R 78), some (jm_I x1), none, some (jm_I x3), none, none] [jm_I 0] h11 K) ∧ ((¬ h11 78 36 ≤ v11) → jm_BV E jm_SH jm_m_Mod_findBest 3 228 [some (jm_R 78), some (jm_I x1), none, some (jm_I x3), none, none] [jm_I 1] h11 K))))) ∧ ((¬ jm_w32 (((jm_up h3 106 (Int.toNat x1) v3) 106 (Int.toNat x1)) + (h3 103 (Int.toNat x3))) ≤ h3 108 (Int.toNat x1)) → (0 ≤ jm_w32 (x1 + 1) ∧ jm_w32 (x1 + 1) < 13) ∧ (jm_CI E jm_SH jm_m_Mod_leastEnd 0 [jm_R 78, jm_I (jm_w32 (x1 + 1))] (jm_up (jm_up h3 106 (Int.toNat x1) v3) 108 (Int.toNat (jm_w32 (x1 + 1))) (jm_w32 (((jm_up h3 106 (Int.toNat x1) v3) 106 (Int.toNat x1)) + (h3 103 (Int.toNat x3))))) (fun v14 h14 => ((h14 78 36 ≤ v14) → jm_BV E jm_SH jm_m_Mod_findBest 3 228 [some (jm_R 78), some (jm_I x1), none, some (jm_I x3), none, none] [jm_I 0] h14 K) ∧ ((¬ h14 78 36 ≤ v14) → jm_BV E jm_SH jm_m_Mod_findBest 3 228 [some (jm_R 78), some (jm_I x1), none, some (jm_I x3), none, none] [jm_I 1] h14 K))))))))))) ∧ ((x3 = h 78 32) → ((0 ≤ jm_w32 (x1 + (-1))) → (0 ≤ jm_w32 (x1 + (-1)) ∧ jm_w32 (x1 + (-1)) < 12) ∧ (jm_BV E jm_SH jm_m_Mod_findBest 3 17 [some (jm_R 78), some (jm_I (jm_w32 (x1 + (-1)))), some (jm_I (jm_w32 ((h 105 (Int.toNat (jm_w32 (x1 + (-1))))) + 1))), none, none, none] [] h K)) ∧ ((¬ 0 ≤ jm_w32 (x1 + (-1))) → jm_BV E jm_SH jm_m_Mod_findBest 3 17 [some (jm_R 78), some (jm_I (jm_w32 (x1 + (-1)))), some (jm_I 0), none, none, none] [] h K))) : jm_BV E jm_SH jm_m_Mod_findBest 3 115 [some (jm_R 78), some (jm_I x1), none, some (jm_I x3), none, none] [] h K := by
  refine jm_iload_n jd_Mod_findBest_115 rfl rfl ?_
  refine jm_aload_n jd_Mod_findBest_116 rfl rfl ?_
  refine jm_gI jd_Mod_findBest_117 jf_Mod_231 jm_SH_78 ?_
  refine jm_icmp_ne (tgt := 146) jd_Mod_findBest_120 rfl (fun hc1 => ?_) (fun hc1 => ?_)
  · replace H := H.1 hc1
    refine jm_aload_n jd_Mod_findBest_146 rfl rfl ?_
    refine jm_gR jd_Mod_findBest_147 jf_Mod_88 jm_SH_78 rfl ?_
    refine jm_iload_n jd_Mod_findBest_150 rfl rfl ?_
    refine jm_iload_n jd_Mod_findBest_151 rfl rfl ?_
    obtain ⟨hb2, H⟩ := H
    refine jm_iastore jd_Mod_findBest_152 jm_SH_105 hb2 ?_
    refine jm_aload_n jd_Mod_findBest_153 rfl rfl ?_
    refine jm_gR jd_Mod_findBest_154 jf_Mod_91 jm_SH_78 rfl ?_
    refine jm_iload_n jd_Mod_findBest_157 rfl rfl ?_
    refine jm_aload_n jd_Mod_findBest_158 rfl rfl ?_
    refine jm_iload_n jd_Mod_findBest_159 rfl rfl ?_
    refine jm_cV (M' := jm_m_Mod_startOf) (d' := 1) (av := [jm_I x1]) jd_Mod_findBest_160 jk_Mod_startOf jw_1120 rfl (by omega) ⟨rfl, rfl⟩ (by decide) (Nat.le_of_ble_eq_true rfl) jm_SH_78 rfl rfl (jm_hqI (fun v3 h3 H => ?_)) H
    obtain ⟨hb4, H⟩ := H
    refine jm_iastore jd_Mod_findBest_163 jm_SH_106 hb4 ?_
    refine jm_aload_n jd_Mod_findBest_164 rfl rfl ?_
    refine jm_gR jd_Mod_findBest_165 jf_Mod_91 jm_SH_78 rfl ?_
    refine jm_iload_n jd_Mod_findBest_168 rfl rfl ?_
    obtain ⟨hb5, H⟩ := H
    refine jm_iaload jd_Mod_findBest_169 jm_SH_106 hb5 ?_
    refine jm_aload_n jd_Mod_findBest_170 rfl rfl ?_
    refine jm_gR jd_Mod_findBest_171 jf_Mod_82 jm_SH_78 rfl ?_
    refine jm_iload_n jd_Mod_findBest_174 rfl rfl ?_
    obtain ⟨hb6, H⟩ := H
    refine jm_iaload jd_Mod_findBest_175 jm_SH_103 hb6 ?_
    refine jm_topI (y := h3 103 (Int.toNat x3)) rfl ?_
    refine jm_iadd jd_Mod_findBest_176 ?_
    refine jm_istore (i := 4) jd_Mod_findBest_177 (by decide) (ls2 := [some (jm_R 78), some (jm_I x1), none, some (jm_I x3), some (jm_I (jm_w32 (((jm_up h3 106 (Int.toNat x1) v3) 106 (Int.toNat x1)) + (h3 103 (Int.toNat x3))))), none]) rfl ?_
    refine jm_aload_n jd_Mod_findBest_179 rfl rfl ?_
    refine jm_gR jd_Mod_findBest_180 jf_Mod_97 jm_SH_78 rfl ?_
    refine jm_iload_n jd_Mod_findBest_183 rfl rfl ?_
    refine jm_iconst jd_Mod_findBest_184 (jm_o32c rfl) ?_
    refine jm_iadd jd_Mod_findBest_185 ?_
    refine jm_iload jd_Mod_findBest_186 rfl ?_
    refine jm_aload_n jd_Mod_findBest_188 rfl rfl ?_
    refine jm_gR jd_Mod_findBest_189 jf_Mod_97 jm_SH_78 rfl ?_
    refine jm_iload_n jd_Mod_findBest_192 rfl rfl ?_
    obtain ⟨hb7, H⟩ := H
    refine jm_iaload jd_Mod_findBest_193 jm_SH_108 hb7 ?_
    refine jm_topI (y := h3 108 (Int.toNat x1)) rfl ?_
    refine jm_icmp_le (tgt := 202) jd_Mod_findBest_194 rfl (fun hc8 => ?_) (fun hc8 => ?_)
    · replace H := H.1 hc8
      refine jm_aload_n jd_Mod_findBest_202 rfl rfl ?_
      refine jm_gR jd_Mod_findBest_203 jf_Mod_97 jm_SH_78 rfl ?_
      refine jm_iload_n jd_Mod_findBest_206 rfl rfl ?_
      obtain ⟨hb9, H⟩ := H
      refine jm_iaload jd_Mod_findBest_207 jm_SH_108 hb9 ?_
      refine jm_topI (y := h3 108 (Int.toNat x1)) rfl ?_
      obtain ⟨hb10, H⟩ := H
      refine jm_iastore jd_Mod_findBest_208 jm_SH_108 hb10 ?_
      refine jm_aload_n jd_Mod_findBest_209 rfl rfl ?_
      refine jm_iload_n jd_Mod_findBest_210 rfl rfl ?_
      refine jm_iconst jd_Mod_findBest_211 (jm_o32c rfl) ?_
      refine jm_iadd jd_Mod_findBest_212 ?_
      refine jm_cV (M' := jm_m_Mod_leastEnd) (d' := 0) (av := [jm_I (jm_w32 (x1 + 1))]) jd_Mod_findBest_213 jk_Mod_leastEnd jw_1152 rfl (by omega) ⟨rfl, rfl⟩ (by decide) (Nat.le_of_ble_eq_true rfl) jm_SH_78 rfl rfl (jm_hqI (fun v11 h11 H => ?_)) H
      refine jm_aload_n jd_Mod_findBest_216 rfl rfl ?_
      refine jm_gI jd_Mod_findBest_217 jf_Mod_251 jm_SH_78 ?_
      refine jm_icmp_ge (tgt := 227) jd_Mod_findBest_220 rfl (fun hc12 => ?_) (fun hc12 => ?_)
      · replace H := H.1 hc12
        refine jm_iconst jd_Mod_findBest_227 (jm_o32c rfl) ?_
        refine jm_keepG [true, true, false, true, false, false] (ls2 := [some (jm_R 78), some (jm_I x1), none, some (jm_I x3), none, none]) (by rfl) (by rfl) ?_
        exact H
      · replace H := H.2 hc12
        refine jm_iconst jd_Mod_findBest_223 (jm_o32c rfl) ?_
        refine jm_goto (tgt := 228) jd_Mod_findBest_224 rfl ?_
        refine jm_keepG [true, true, false, true, false, false] (ls2 := [some (jm_R 78), some (jm_I x1), none, some (jm_I x3), none, none]) (by rfl) (by rfl) ?_
        exact H
    · replace H := H.2 hc8
      refine jm_iload jd_Mod_findBest_197 rfl ?_
      refine jm_goto (tgt := 208) jd_Mod_findBest_199 rfl ?_
      obtain ⟨hb13, H⟩ := H
      refine jm_iastore jd_Mod_findBest_208 jm_SH_108 hb13 ?_
      refine jm_aload_n jd_Mod_findBest_209 rfl rfl ?_
      refine jm_iload_n jd_Mod_findBest_210 rfl rfl ?_
      refine jm_iconst jd_Mod_findBest_211 (jm_o32c rfl) ?_
      refine jm_iadd jd_Mod_findBest_212 ?_
      refine jm_cV (M' := jm_m_Mod_leastEnd) (d' := 0) (av := [jm_I (jm_w32 (x1 + 1))]) jd_Mod_findBest_213 jk_Mod_leastEnd jw_1152 rfl (by omega) ⟨rfl, rfl⟩ (by decide) (Nat.le_of_ble_eq_true rfl) jm_SH_78 rfl rfl (jm_hqI (fun v14 h14 H => ?_)) H
      refine jm_aload_n jd_Mod_findBest_216 rfl rfl ?_
      refine jm_gI jd_Mod_findBest_217 jf_Mod_251 jm_SH_78 ?_
      refine jm_icmp_ge (tgt := 227) jd_Mod_findBest_220 rfl (fun hc15 => ?_) (fun hc15 => ?_)
      · replace H := H.1 hc15
        refine jm_iconst jd_Mod_findBest_227 (jm_o32c rfl) ?_
        refine jm_keepG [true, true, false, true, false, false] (ls2 := [some (jm_R 78), some (jm_I x1), none, some (jm_I x3), none, none]) (by rfl) (by rfl) ?_
        exact H
      · replace H := H.2 hc15
        refine jm_iconst jd_Mod_findBest_223 (jm_o32c rfl) ?_
        refine jm_goto (tgt := 228) jd_Mod_findBest_224 rfl ?_
        refine jm_keepG [true, true, false, true, false, false] (ls2 := [some (jm_R 78), some (jm_I x1), none, some (jm_I x3), none, none]) (by rfl) (by rfl) ?_
        exact H
  · replace H := H.2 hc1
    refine jm_iinc jd_Mod_findBest_123 rfl (by decide) (ls2 := [some (jm_R 78), some (jm_I (jm_w32 (x1 + (-1)))), none, some (jm_I x3), none, none]) rfl ?_
    refine jm_iload_n jd_Mod_findBest_126 rfl rfl ?_
    refine jm_if_ge (tgt := 134) jd_Mod_findBest_127 rfl (fun hc16 => ?_) (fun hc16 => ?_)
    · replace H := H.1 hc16
      refine jm_aload_n jd_Mod_findBest_134 rfl rfl ?_
      refine jm_gR jd_Mod_findBest_135 jf_Mod_88 jm_SH_78 rfl ?_
      refine jm_iload_n jd_Mod_findBest_138 rfl rfl ?_
      obtain ⟨hb17, H⟩ := H
      refine jm_iaload jd_Mod_findBest_139 jm_SH_105 hb17 ?_
      refine jm_iconst jd_Mod_findBest_140 (jm_o32c rfl) ?_
      refine jm_iadd jd_Mod_findBest_141 ?_
      refine jm_istore_n (i := 2) jd_Mod_findBest_142 rfl (by decide) (ls2 := [some (jm_R 78), some (jm_I (jm_w32 (x1 + (-1)))), some (jm_I (jm_w32 ((h 105 (Int.toNat (jm_w32 (x1 + (-1))))) + 1))), some (jm_I x3), none, none]) rfl ?_
      refine jm_goto (tgt := 256) jd_Mod_findBest_143 rfl ?_
      refine jm_goto (tgt := 17) jd_Mod_findBest_256 rfl ?_
      refine jm_keepG [true, true, true, false, false, false] (ls2 := [some (jm_R 78), some (jm_I (jm_w32 (x1 + (-1)))), some (jm_I (jm_w32 ((h 105 (Int.toNat (jm_w32 (x1 + (-1))))) + 1))), none, none, none]) (by rfl) (by rfl) ?_
      exact H
    · replace H := H.2 hc16
      refine jm_iconst jd_Mod_findBest_130 (jm_o32c rfl) ?_
      refine jm_goto (tgt := 142) jd_Mod_findBest_131 rfl ?_
      refine jm_istore_n (i := 2) jd_Mod_findBest_142 rfl (by decide) (ls2 := [some (jm_R 78), some (jm_I (jm_w32 (x1 + (-1)))), some (jm_I 0), some (jm_I x3), none, none]) rfl ?_
      refine jm_goto (tgt := 256) jd_Mod_findBest_143 rfl ?_
      refine jm_goto (tgt := 17) jd_Mod_findBest_256 rfl ?_
      refine jm_keepG [true, true, true, false, false, false] (ls2 := [some (jm_R 78), some (jm_I (jm_w32 (x1 + (-1)))), some (jm_I 0), none, none, none]) (by rfl) (by rfl) ?_
      exact H
set_option maxRecDepth 4000 in
theorem jb_Mod_findBest_228 {E : jm_Env} {x1 x3 s0 : Int} {h : jm_H} {K : jm_H → Prop} (H : ((s0 = 0) → ((s0 = 0) → jm_BV E jm_SH jm_m_Mod_findBest 3 17 [some (jm_R 78), some (jm_I x1), some (jm_I (jm_w32 (x3 + 1))), none, none, none] [] h K) ∧ ((¬ s0 = 0) → jm_BV E jm_SH jm_m_Mod_findBest 3 17 [some (jm_R 78), some (jm_I x1), some (jm_I 0), none, none, none] [] h K)) ∧ ((¬ s0 = 0) → ((s0 = 0) → jm_BV E jm_SH jm_m_Mod_findBest 3 17 [some (jm_R 78), some (jm_I (jm_w32 (x1 + 1))), some (jm_I (jm_w32 (x3 + 1))), none, none, none] [] h K) ∧ ((¬ s0 = 0) → jm_BV E jm_SH jm_m_Mod_findBest 3 17 [some (jm_R 78), some (jm_I (jm_w32 (x1 + 1))), some (jm_I 0), none, none, none] [] h K))) : jm_BV E jm_SH jm_m_Mod_findBest 3 228 [some (jm_R 78), some (jm_I x1), none, some (jm_I x3), none, none] [jm_I s0] h K := by
  refine jm_istore (i := 5) jd_Mod_findBest_228 (by decide) (ls2 := [some (jm_R 78), some (jm_I x1), none, some (jm_I x3), none, some (jm_I s0)]) rfl ?_
  refine jm_iload jd_Mod_findBest_230 rfl ?_
  refine jm_if_eq (tgt := 241) jd_Mod_findBest_232 rfl (fun hc1 => ?_) (fun hc1 => ?_)
  · replace H := H.1 hc1
    refine jm_iload_n jd_Mod_findBest_241 rfl rfl ?_
    refine jm_istore_n (i := 1) jd_Mod_findBest_242 rfl (by decide) (ls2 := [some (jm_R 78), some (jm_I x1), none, some (jm_I x3), none, some (jm_I s0)]) rfl ?_
    refine jm_iload jd_Mod_findBest_243 rfl ?_
    refine jm_if_eq (tgt := 252) jd_Mod_findBest_245 rfl (fun hc2 => ?_) (fun hc2 => ?_)
    · replace H := H.1 hc2
      refine jm_iload_n jd_Mod_findBest_252 rfl rfl ?_
      refine jm_iconst jd_Mod_findBest_253 (jm_o32c rfl) ?_
      refine jm_iadd jd_Mod_findBest_254 ?_
      refine jm_istore_n (i := 2) jd_Mod_findBest_255 rfl (by decide) (ls2 := [some (jm_R 78), some (jm_I x1), some (jm_I (jm_w32 (x3 + 1))), some (jm_I x3), none, some (jm_I s0)]) rfl ?_
      refine jm_goto (tgt := 17) jd_Mod_findBest_256 rfl ?_
      refine jm_keepG [true, true, true, false, false, false] (ls2 := [some (jm_R 78), some (jm_I x1), some (jm_I (jm_w32 (x3 + 1))), none, none, none]) (by rfl) (by rfl) ?_
      exact H
    · replace H := H.2 hc2
      refine jm_iconst jd_Mod_findBest_248 (jm_o32c rfl) ?_
      refine jm_goto (tgt := 255) jd_Mod_findBest_249 rfl ?_
      refine jm_istore_n (i := 2) jd_Mod_findBest_255 rfl (by decide) (ls2 := [some (jm_R 78), some (jm_I x1), some (jm_I 0), some (jm_I x3), none, some (jm_I s0)]) rfl ?_
      refine jm_goto (tgt := 17) jd_Mod_findBest_256 rfl ?_
      refine jm_keepG [true, true, true, false, false, false] (ls2 := [some (jm_R 78), some (jm_I x1), some (jm_I 0), none, none, none]) (by rfl) (by rfl) ?_
      exact H
  · replace H := H.2 hc1
    refine jm_iload_n jd_Mod_findBest_235 rfl rfl ?_
    refine jm_iconst jd_Mod_findBest_236 (jm_o32c rfl) ?_
    refine jm_iadd jd_Mod_findBest_237 ?_
    refine jm_goto (tgt := 242) jd_Mod_findBest_238 rfl ?_
    refine jm_istore_n (i := 1) jd_Mod_findBest_242 rfl (by decide) (ls2 := [some (jm_R 78), some (jm_I (jm_w32 (x1 + 1))), none, some (jm_I x3), none, some (jm_I s0)]) rfl ?_
    refine jm_iload jd_Mod_findBest_243 rfl ?_
    refine jm_if_eq (tgt := 252) jd_Mod_findBest_245 rfl (fun hc3 => ?_) (fun hc3 => ?_)
    · replace H := H.1 hc3
      refine jm_iload_n jd_Mod_findBest_252 rfl rfl ?_
      refine jm_iconst jd_Mod_findBest_253 (jm_o32c rfl) ?_
      refine jm_iadd jd_Mod_findBest_254 ?_
      refine jm_istore_n (i := 2) jd_Mod_findBest_255 rfl (by decide) (ls2 := [some (jm_R 78), some (jm_I (jm_w32 (x1 + 1))), some (jm_I (jm_w32 (x3 + 1))), some (jm_I x3), none, some (jm_I s0)]) rfl ?_
      refine jm_goto (tgt := 17) jd_Mod_findBest_256 rfl ?_
      refine jm_keepG [true, true, true, false, false, false] (ls2 := [some (jm_R 78), some (jm_I (jm_w32 (x1 + 1))), some (jm_I (jm_w32 (x3 + 1))), none, none, none]) (by rfl) (by rfl) ?_
      exact H
    · replace H := H.2 hc3
      refine jm_iconst jd_Mod_findBest_248 (jm_o32c rfl) ?_
      refine jm_goto (tgt := 255) jd_Mod_findBest_249 rfl ?_
      refine jm_istore_n (i := 2) jd_Mod_findBest_255 rfl (by decide) (ls2 := [some (jm_R 78), some (jm_I (jm_w32 (x1 + 1))), some (jm_I 0), some (jm_I x3), none, some (jm_I s0)]) rfl ?_
      refine jm_goto (tgt := 17) jd_Mod_findBest_256 rfl ?_
      refine jm_keepG [true, true, true, false, false, false] (ls2 := [some (jm_R 78), some (jm_I (jm_w32 (x1 + 1))), some (jm_I 0), none, none, none]) (by rfl) (by rfl) ?_
      exact H
set_option maxRecDepth 4000 in
theorem jb_Mod_best {E : jm_Env} {x1 : Int} {h : jm_H} {K : Int → jm_H → Prop} (H : ((h 78 32 ≤ 10) → jm_CV E jm_SH jm_m_Mod_findBest 3 [jm_R 78] h (fun h2 => ((¬ x1 = -1) → jm_CI E jm_SH jm_m_Mod_in 0 [jm_L x1, jm_L 0, jm_L (jm_w32 ((h2 78 32) - 1))] h2 (fun v4 h4 => ((v4 = 0) → K (-6) h4) ∧ ((¬ v4 = 0) → (0 ≤ x1 ∧ x1 < 12) ∧ (K (h4 107 (Int.toNat x1)) h4)))) ∧ ((x1 = -1) → K (h2 78 36) h2))) ∧ ((¬ h 78 32 ≤ 10) → K (-3) h)) : jm_CI E jm_SH jm_m_Mod_best 4 [jm_R 78, jm_I x1] h K := by
  refine jm_body (ls0 := [some (jm_R 78), some (jm_I x1)]) (by decide +kernel) rfl rfl (Nat.le_of_ble_eq_true rfl) ?_
  refine jm_aload_n jd_Mod_best_0 rfl rfl ?_
  refine jm_gI jd_Mod_best_1 jf_Mod_231 jm_SH_78 ?_
  refine jm_bipush jd_Mod_best_4 jb_10 ?_
  refine jm_icmp_le (tgt := 12) jd_Mod_best_6 rfl (fun hc1 => ?_) (fun hc1 => ?_)
  · replace H := H.1 hc1
    refine jm_aload_n jd_Mod_best_12 rfl rfl ?_
    refine jm_cV (M' := jm_m_Mod_findBest) (d' := 3) (av := []) jd_Mod_best_13 jk_Mod_findBest jw_1144 rfl (by omega) ⟨rfl, rfl⟩ (by decide) (Nat.le_of_ble_eq_true rfl) jm_SH_78 rfl rfl (jm_hqV (fun h2 H => ?_)) H
    refine jm_iload_n jd_Mod_best_16 rfl rfl ?_
    refine jm_iconst jd_Mod_best_17 (jm_o32c rfl) ?_
    refine jm_icmp_ne (tgt := 28) jd_Mod_best_18 rfl (fun hc3 => ?_) (fun hc3 => ?_)
    · replace H := H.1 hc3
      refine jm_iload_n jd_Mod_best_28 rfl rfl ?_
      refine jm_i2l jd_Mod_best_29 ?_
      refine jm_lconst (x := 0) jd_Mod_best_30 ⟨by decide, jm_o64c rfl⟩ ?_
      refine jm_aload_n jd_Mod_best_31 rfl rfl ?_
      refine jm_gI jd_Mod_best_32 jf_Mod_231 jm_SH_78 ?_
      refine jm_iconst jd_Mod_best_35 (jm_o32c rfl) ?_
      refine jm_isub jd_Mod_best_36 ?_
      refine jm_i2l jd_Mod_best_37 ?_
      refine jm_cS (M' := jm_m_Mod_in) (d' := 0) (av := [jm_L x1, jm_L 0, jm_L (jm_w32 ((h2 78 32) - 1))]) jd_Mod_best_38 jk_Mod_in jw_978 rfl (by omega) ⟨rfl, rfl⟩ (by decide) (Nat.le_of_ble_eq_true rfl) (jm_hqI (fun v4 h4 H => ?_)) H
      refine jm_if_eq (tgt := 53) jd_Mod_best_41 rfl (fun hc5 => ?_) (fun hc5 => ?_)
      · replace H := H.1 hc5
        refine jm_bipush jd_Mod_best_53 jb_m6 ?_
        exact jm_ireturn jd_Mod_best_55 rfl (by decide) ⟨rfl, _, rfl, H⟩
      · replace H := H.2 hc5
        refine jm_aload_n jd_Mod_best_44 rfl rfl ?_
        refine jm_gR jd_Mod_best_45 jf_Mod_94 jm_SH_78 rfl ?_
        refine jm_iload_n jd_Mod_best_48 rfl rfl ?_
        obtain ⟨hb6, H⟩ := H
        refine jm_iaload jd_Mod_best_49 jm_SH_107 hb6 ?_
        refine jm_goto (tgt := 55) jd_Mod_best_50 rfl ?_
        exact jm_ireturn jd_Mod_best_55 rfl (by decide) ⟨rfl, _, rfl, H⟩
    · replace H := H.2 hc3
      refine jm_aload_n jd_Mod_best_21 rfl rfl ?_
      refine jm_gI jd_Mod_best_22 jf_Mod_251 jm_SH_78 ?_
      refine jm_goto (tgt := 55) jd_Mod_best_25 rfl ?_
      exact jm_ireturn jd_Mod_best_55 rfl (by decide) ⟨rfl, _, rfl, H⟩
  · replace H := H.2 hc1
    refine jm_bipush jd_Mod_best_9 jb_m3 ?_
    exact jm_ireturn jd_Mod_best_11 rfl (by decide) ⟨rfl, _, rfl, H⟩
