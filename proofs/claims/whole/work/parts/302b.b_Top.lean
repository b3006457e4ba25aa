set_option maxRecDepth 4000 in
theorem jb_Top_place {E : jm_Env} {x1 : Int} {h : jm_H} {K : Int → jm_H → Prop} (H : jm_CI E jm_SH jm_m_Row_has 0 [jm_R 37, jm_I x1] h (fun v1 h1 => ((v1 = 0) → K (-1) h1) ∧ ((¬ v1 = 0) → jm_CI E jm_SH jm_m_Lifetimes_livingBehind 3 [jm_R 56, jm_I x1] h1 (fun v3 h3 => K v3 h3)))) : jm_CI E jm_SH jm_m_Top_place 4 [jm_R 0, jm_I x1] h K := by
  refine jm_body (ls0 := [some (jm_R 0), some (jm_I x1)]) (by decide +kernel) rfl rfl (Nat.le_of_ble_eq_true rfl) ?_
  refine jm_aload_n jd_Top_place_0 rfl rfl ?_
  refine jm_gR jd_Top_place_1 jf_Top_42 jm_SH_0 rfl ?_
  refine jm_iload_n jd_Top_place_4 rfl rfl ?_
  refine jm_cV (M' := jm_m_Row_has) (d' := 0) (av := [jm_I x1]) jd_Top_place_5 jk_Row_has jw_597 rfl (by omega) ⟨rfl, rfl⟩ (by decide) (Nat.le_of_ble_eq_true rfl) jm_SH_37 rfl rfl (jm_hqI (fun v1 h1 H => ?_)) H
  refine jm_if_eq (tgt := 22) jd_Top_place_8 rfl (fun hc2 => ?_) (fun hc2 => ?_)
  · replace H := H.1 hc2
    refine jm_iconst jd_Top_place_22 (jm_o32c rfl) ?_
    exact jm_ireturn jd_Top_place_23 rfl (by decide) ⟨rfl, _, rfl, H⟩
  · replace H := H.2 hc2
    refine jm_aload_n jd_Top_place_11 rfl rfl ?_
    refine jm_gR jd_Top_place_12 jf_Top_58 jm_SH_0 rfl ?_
    refine jm_iload_n jd_Top_place_15 rfl rfl ?_
    refine jm_cV (M' := jm_m_Lifetimes_livingBehind) (d' := 3) (av := [jm_I x1]) jd_Top_place_16 jk_Lifetimes_livingBehind jw_717 rfl (by omega) ⟨rfl, rfl⟩ (by decide) (Nat.le_of_ble_eq_true rfl) jm_SH_56 rfl rfl (jm_hqI (fun v3 h3 H => ?_)) H
    refine jm_goto (tgt := 23) jd_Top_place_19 rfl ?_
    exact jm_ireturn jd_Top_place_23 rfl (by decide) ⟨rfl, _, rfl, H⟩
set_option maxRecDepth 4000 in
theorem jb_Top_crowd {E : jm_Env} {h : jm_H} {K : Int → jm_H → Prop} (H : jm_CI E jm_SH jm_m_Lifetimes_mostAtOnePlace 4 [jm_R 56] h (fun v1 h1 => K v1 h1)) : jm_CI E jm_SH jm_m_Top_crowd 5 [jm_R 0] h K := by
  refine jm_body (ls0 := [some (jm_R 0)]) (by decide +kernel) rfl rfl (Nat.le_of_ble_eq_true rfl) ?_
  refine jm_aload_n jd_Top_crowd_0 rfl rfl ?_
  refine jm_gR jd_Top_crowd_1 jf_Top_58 jm_SH_0 rfl ?_
  refine jm_cV (M' := jm_m_Lifetimes_mostAtOnePlace) (d' := 4) (av := []) jd_Top_crowd_4 jk_Lifetimes_mostAtOnePlace jw_726 rfl (by omega) ⟨rfl, rfl⟩ (by decide) (Nat.le_of_ble_eq_true rfl) jm_SH_56 rfl rfl (jm_hqI (fun v1 h1 H => ?_)) H
  exact jm_ireturn jd_Top_crowd_7 rfl (by decide) ⟨rfl, _, rfl, H⟩
set_option maxRecDepth 4000 in
theorem jb_Top_spilled {E : jm_Env} {x1 x2 : Int} {h : jm_H} {K : Int → jm_H → Prop} (H : ((x1 < 0) → K (-2) h) ∧ ((¬ x1 < 0) → ((12 < x1) → K (-2) h) ∧ ((¬ 12 < x1) → jm_CI E jm_SH jm_m_Top_isBit 0 [jm_I x2] h (fun v3 h3 => ((¬ v3 = 0) → jm_CV E jm_SH jm_m_Lifetimes_spillTo 18 [jm_R 56, jm_I x1] h3 (fun h5 => ((¬ x2 = 0) → K (h5 56 5) h5) ∧ ((x2 = 0) → K (h5 56 4) h5))) ∧ ((v3 = 0) → K (-2) h3))))) : jm_CI E jm_SH jm_m_Top_spilled 19 [jm_R 0, jm_I x1, jm_I x2] h K := by
  refine jm_body (ls0 := [some (jm_R 0), some (jm_I x1), some (jm_I x2)]) (by decide +kernel) rfl rfl (Nat.le_of_ble_eq_true rfl) ?_
  refine jm_iload_n jd_Top_spilled_0 rfl rfl ?_
  refine jm_if_lt (tgt := 17) jd_Top_spilled_1 rfl (fun hc1 => ?_) (fun hc1 => ?_)
  · replace H := H.1 hc1
    refine jm_bipush jd_Top_spilled_17 jb_m2 ?_
    exact jm_ireturn jd_Top_spilled_19 rfl (by decide) ⟨rfl, _, rfl, H⟩
  · replace H := H.2 hc1
    refine jm_iload_n jd_Top_spilled_4 rfl rfl ?_
    refine jm_bipush jd_Top_spilled_5 jb_12 ?_
    refine jm_icmp_gt (tgt := 17) jd_Top_spilled_7 rfl (fun hc2 => ?_) (fun hc2 => ?_)
    · replace H := H.1 hc2
      refine jm_bipush jd_Top_spilled_17 jb_m2 ?_
      exact jm_ireturn jd_Top_spilled_19 rfl (by decide) ⟨rfl, _, rfl, H⟩
    · replace H := H.2 hc2
      refine jm_iload_n jd_Top_spilled_10 rfl rfl ?_
      refine jm_cS (M' := jm_m_Top_isBit) (d' := 0) (av := [jm_I x2]) jd_Top_spilled_11 jk_Top_isBit jw_511 rfl (by omega) ⟨rfl, rfl⟩ (by decide) (Nat.le_of_ble_eq_true rfl) (jm_hqI (fun v3 h3 H => ?_)) H
      refine jm_if_ne (tgt := 20) jd_Top_spilled_14 rfl (fun hc4 => ?_) (fun hc4 => ?_)
      · replace H := H.1 hc4
        refine jm_aload_n jd_Top_spilled_20 rfl rfl ?_
        refine jm_gR jd_Top_spilled_21 jf_Top_58 jm_SH_0 rfl ?_
        refine jm_iload_n jd_Top_spilled_24 rfl rfl ?_
        refine jm_cV (M' := jm_m_Lifetimes_spillTo) (d' := 18) (av := [jm_I x1]) jd_Top_spilled_25 jk_Lifetimes_spillTo jw_742 rfl (by omega) ⟨rfl, rfl⟩ (by decide) (Nat.le_of_ble_eq_true rfl) jm_SH_56 rfl rfl (jm_hqV (fun h5 H => ?_)) H
        refine jm_iload_n jd_Top_spilled_28 rfl rfl ?_
        refine jm_if_ne (tgt := 42) jd_Top_spilled_29 rfl (fun hc6 => ?_) (fun hc6 => ?_)
        · replace H := H.1 hc6
          refine jm_aload_n jd_Top_spilled_42 rfl rfl ?_
          refine jm_gR jd_Top_spilled_43 jf_Top_58 jm_SH_0 rfl ?_
          refine jm_gI jd_Top_spilled_46 jf_Top_226 jm_SH_56 ?_
          exact jm_ireturn jd_Top_spilled_49 rfl (by decide) ⟨rfl, _, rfl, H⟩
        · replace H := H.2 hc6
          refine jm_aload_n jd_Top_spilled_32 rfl rfl ?_
          refine jm_gR jd_Top_spilled_33 jf_Top_58 jm_SH_0 rfl ?_
          refine jm_gI jd_Top_spilled_36 jf_Top_223 jm_SH_56 ?_
          refine jm_goto (tgt := 49) jd_Top_spilled_39 rfl ?_
          exact jm_ireturn jd_Top_spilled_49 rfl (by decide) ⟨rfl, _, rfl, H⟩
      · replace H := H.2 hc4
        refine jm_bipush jd_Top_spilled_17 jb_m2 ?_
        exact jm_ireturn jd_Top_spilled_19 rfl (by decide) ⟨rfl, _, rfl, H⟩
set_option maxRecDepth 4000 in
theorem jb_Top_run {E : jm_Env} {x1 x2 x3 : Int} {h : jm_H} {K : Int → jm_H → Prop} (H : ((x1 < 0) → K (-2) h) ∧ ((¬ x1 < 0) → ((15 < x1) → K (-2) h) ∧ ((¬ 15 < x1) → ((x2 < 0) → K (-2) h) ∧ ((¬ x2 < 0) → ((15 < x2) → K (-2) h) ∧ ((¬ 15 < x2) → jm_CI E jm_SH jm_m_Row_isRegister 0 [jm_I x3] h (fun v5 h5 => ((¬ v5 = 0) → jm_CV E jm_SH jm_m_Machine_behindRow 1 [jm_R 59, jm_L x1, jm_L x2] h5 (fun h7 => (0 ≤ x3 ∧ x3 < 6) ∧ (K (jm_w32 (jv_land (h7 60 (Int.toNat x3)) 15)) h7))) ∧ ((v5 = 0) → K (-2) h5))))))) : jm_CI E jm_SH jm_m_Top_run 2 [jm_R 0, jm_I x1, jm_I x2, jm_I x3] h K := by
  refine jm_body (ls0 := [some (jm_R 0), some (jm_I x1), some (jm_I x2), some (jm_I x3)]) (by decide +kernel) rfl rfl (Nat.le_of_ble_eq_true rfl) ?_
  refine jm_iload_n jd_Top_run_0 rfl rfl ?_
  refine jm_if_lt (tgt := 27) jd_Top_run_1 rfl (fun hc1 => ?_) (fun hc1 => ?_)
  · replace H := H.1 hc1
    refine jm_bipush jd_Top_run_27 jb_m2 ?_
    exact jm_ireturn jd_Top_run_29 rfl (by decide) ⟨rfl, _, rfl, H⟩
  · replace H := H.2 hc1
    refine jm_iload_n jd_Top_run_4 rfl rfl ?_
    refine jm_bipush jd_Top_run_5 jb_15 ?_
    refine jm_icmp_gt (tgt := 27) jd_Top_run_7 rfl (fun hc2 => ?_) (fun hc2 => ?_)
    · replace H := H.1 hc2
      refine jm_bipush jd_Top_run_27 jb_m2 ?_
      exact jm_ireturn jd_Top_run_29 rfl (by decide) ⟨rfl, _, rfl, H⟩
    · replace H := H.2 hc2
      refine jm_iload_n jd_Top_run_10 rfl rfl ?_
      refine jm_if_lt (tgt := 27) jd_Top_run_11 rfl (fun hc3 => ?_) (fun hc3 => ?_)
      · replace H := H.1 hc3
        refine jm_bipush jd_Top_run_27 jb_m2 ?_
        exact jm_ireturn jd_Top_run_29 rfl (by decide) ⟨rfl, _, rfl, H⟩
      · replace H := H.2 hc3
        refine jm_iload_n jd_Top_run_14 rfl rfl ?_
        refine jm_bipush jd_Top_run_15 jb_15 ?_
        refine jm_icmp_gt (tgt := 27) jd_Top_run_17 rfl (fun hc4 => ?_) (fun hc4 => ?_)
        · replace H := H.1 hc4
          refine jm_bipush jd_Top_run_27 jb_m2 ?_
          exact jm_ireturn jd_Top_run_29 rfl (by decide) ⟨rfl, _, rfl, H⟩
        · replace H := H.2 hc4
          refine jm_iload_n jd_Top_run_20 rfl rfl ?_
          refine jm_cS (M' := jm_m_Row_isRegister) (d' := 0) (av := [jm_I x3]) jd_Top_run_21 jk_Row_isRegister jw_577 rfl (by omega) ⟨rfl, rfl⟩ (by decide) (Nat.le_of_ble_eq_true rfl) (jm_hqI (fun v5 h5 H => ?_)) H
          refine jm_if_ne (tgt := 30) jd_Top_run_24 rfl (fun hc6 => ?_) (fun hc6 => ?_)
          · replace H := H.1 hc6
            refine jm_aload_n jd_Top_run_30 rfl rfl ?_
            refine jm_gR jd_Top_run_31 jf_Top_65 jm_SH_0 rfl ?_
            refine jm_iload_n jd_Top_run_34 rfl rfl ?_
            refine jm_i2l jd_Top_run_35 ?_
            refine jm_iload_n jd_Top_run_36 rfl rfl ?_
            refine jm_i2l jd_Top_run_37 ?_
            refine jm_cV (M' := jm_m_Machine_behindRow) (d' := 1) (av := [jm_L x1, jm_L x2]) jd_Top_run_38 jk_Machine_behindRow jw_763 rfl (by omega) ⟨rfl, rfl⟩ (by decide) (Nat.le_of_ble_eq_true rfl) jm_SH_59 rfl rfl (jm_hqV (fun h7 H => ?_)) H
            refine jm_aload_n jd_Top_run_41 rfl rfl ?_
            refine jm_gR jd_Top_run_42 jf_Top_65 jm_SH_0 rfl ?_
            refine jm_gR jd_Top_run_45 jf_Top_233 jm_SH_59 rfl ?_
            refine jm_iload_n jd_Top_run_48 rfl rfl ?_
            obtain ⟨hb8, H⟩ := H
            refine jm_laload jd_Top_run_49 jm_SH_60 hb8 ?_
            refine jm_ldc2 (x := 15) jd_Top_run_50 jc_773 (jm_o64c rfl) ?_
            refine jm_land jd_Top_run_53 ?_
            refine jm_l2i jd_Top_run_54 ?_
            exact jm_ireturn jd_Top_run_55 rfl (by decide) ⟨rfl, _, rfl, H⟩
          · replace H := H.2 hc6
            refine jm_bipush jd_Top_run_27 jb_m2 ?_
            exact jm_ireturn jd_Top_run_29 rfl (by decide) ⟨rfl, _, rfl, H⟩
set_option maxRecDepth 4000 in
theorem jb_Top_shortest {E : jm_Env} {x1 x2 : Int} {h : jm_H} {K : Int → jm_H → Prop} (H : ((x1 < 0) → K (-2) h) ∧ ((¬ x1 < 0) → ((x1 ≤ 3) → jm_CV E jm_SH jm_m_Search_refresh 17 [jm_R 61, jm_I x1] h (fun h3 => ((h3 61 10 < 0) → K (-5) h3) ∧ ((¬ h3 61 10 < 0) → ((h3 61 10 ≤ x1) → ((¬ x2 = -1) → ((x2 < 0) → K (-6) h3) ∧ ((¬ x2 < 0) → ((x2 < h3 61 10) → jm_CI E jm_SH jm_m_Search_codeAt 0 [jm_R 61, jm_I x2] h3 (fun v9 h9 => K v9 h9)) ∧ ((¬ x2 < h3 61 10) → K (-6) h3))) ∧ ((x2 = -1) → K (h3 61 10) h3)) ∧ ((¬ h3 61 10 ≤ x1) → K (-5) h3)))) ∧ ((¬ x1 ≤ 3) → K (-2) h))) : jm_CI E jm_SH jm_m_Top_shortest 18 [jm_R 0, jm_I x1, jm_I x2] h K := by
  refine jm_body (ls0 := [some (jm_R 0), some (jm_I x1), some (jm_I x2)]) (by decide +kernel) rfl rfl (Nat.le_of_ble_eq_true rfl) ?_
  refine jm_iload_n jd_Top_shortest_0 rfl rfl ?_
  refine jm_if_lt (tgt := 9) jd_Top_shortest_1 rfl (fun hc1 => ?_) (fun hc1 => ?_)
  · replace H := H.1 hc1
    refine jm_bipush jd_Top_shortest_9 jb_m2 ?_
    exact jm_ireturn jd_Top_shortest_11 rfl (by decide) ⟨rfl, _, rfl, H⟩
  · replace H := H.2 hc1
    refine jm_iload_n jd_Top_shortest_4 rfl rfl ?_
    refine jm_iconst jd_Top_shortest_5 (jm_o32c rfl) ?_
    refine jm_icmp_le (tgt := 12) jd_Top_shortest_6 rfl (fun hc2 => ?_) (fun hc2 => ?_)
    · replace H := H.1 hc2
      refine jm_aload_n jd_Top_shortest_12 rfl rfl ?_
      refine jm_gR jd_Top_shortest_13 jf_Top_74 jm_SH_0 rfl ?_
      refine jm_iload_n jd_Top_shortest_16 rfl rfl ?_
      refine jm_cV (M' := jm_m_Search_refresh) (d' := 17) (av := [jm_I x1]) jd_Top_shortest_17 jk_Search_refresh jw_778 rfl (by omega) ⟨rfl, rfl⟩ (by decide) (Nat.le_of_ble_eq_true rfl) jm_SH_61 rfl rfl (jm_hqV (fun h3 H => ?_)) H
      refine jm_aload_n jd_Top_shortest_20 rfl rfl ?_
      refine jm_gR jd_Top_shortest_21 jf_Top_74 jm_SH_0 rfl ?_
      refine jm_gI jd_Top_shortest_24 jf_Top_241 jm_SH_61 ?_
      refine jm_if_lt (tgt := 41) jd_Top_shortest_27 rfl (fun hc4 => ?_) (fun hc4 => ?_)
      · replace H := H.1 hc4
        refine jm_bipush jd_Top_shortest_41 jb_m5 ?_
        exact jm_ireturn jd_Top_shortest_43 rfl (by decide) ⟨rfl, _, rfl, H⟩
      · replace H := H.2 hc4
        refine jm_aload_n jd_Top_shortest_30 rfl rfl ?_
        refine jm_gR jd_Top_shortest_31 jf_Top_74 jm_SH_0 rfl ?_
        refine jm_gI jd_Top_shortest_34 jf_Top_241 jm_SH_61 ?_
        refine jm_iload_n jd_Top_shortest_37 rfl rfl ?_
        refine jm_icmp_le (tgt := 44) jd_Top_shortest_38 rfl (fun hc5 => ?_) (fun hc5 => ?_)
        · replace H := H.1 hc5
          refine jm_iload_n jd_Top_shortest_44 rfl rfl ?_
          refine jm_iconst jd_Top_shortest_45 (jm_o32c rfl) ?_
          refine jm_icmp_ne (tgt := 57) jd_Top_shortest_46 rfl (fun hc6 => ?_) (fun hc6 => ?_)
          · replace H := H.1 hc6
            refine jm_iload_n jd_Top_shortest_57 rfl rfl ?_
            refine jm_if_lt (tgt := 72) jd_Top_shortest_58 rfl (fun hc7 => ?_) (fun hc7 => ?_)
            · replace H := H.1 hc7
              refine jm_bipush jd_Top_shortest_72 jb_m6 ?_
              refine jm_goto (tgt := 85) jd_Top_shortest_74 rfl ?_
              exact jm_ireturn jd_Top_shortest_85 rfl (by decide) ⟨rfl, _, rfl, H⟩
            · replace H := H.2 hc7
              refine jm_iload_n jd_Top_shortest_61 rfl rfl ?_
              refine jm_aload_n jd_Top_shortest_62 rfl rfl ?_
              refine jm_gR jd_Top_shortest_63 jf_Top_74 jm_SH_0 rfl ?_
              refine jm_gI jd_Top_shortest_66 jf_Top_241 jm_SH_61 ?_
              refine jm_icmp_lt (tgt := 77) jd_Top_shortest_69 rfl (fun hc8 => ?_) (fun hc8 => ?_)
              · replace H := H.1 hc8
                refine jm_aload_n jd_Top_shortest_77 rfl rfl ?_
                refine jm_gR jd_Top_shortest_78 jf_Top_74 jm_SH_0 rfl ?_
                refine jm_iload_n jd_Top_shortest_81 rfl rfl ?_
                refine jm_cV (M' := jm_m_Search_codeAt) (d' := 0) (av := [jm_I x2]) jd_Top_shortest_82 jk_Search_codeAt jw_810 rfl (by omega) ⟨rfl, rfl⟩ (by decide) (Nat.le_of_ble_eq_true rfl) jm_SH_61 rfl rfl (jm_hqI (fun v9 h9 H => ?_)) H
                exact jm_ireturn jd_Top_shortest_85 rfl (by decide) ⟨rfl, _, rfl, H⟩
              · replace H := H.2 hc8
                refine jm_bipush jd_Top_shortest_72 jb_m6 ?_
                refine jm_goto (tgt := 85) jd_Top_shortest_74 rfl ?_
                exact jm_ireturn jd_Top_shortest_85 rfl (by decide) ⟨rfl, _, rfl, H⟩
          · replace H := H.2 hc6
            refine jm_aload_n jd_Top_shortest_49 rfl rfl ?_
            refine jm_gR jd_Top_shortest_50 jf_Top_74 jm_SH_0 rfl ?_
            refine jm_gI jd_Top_shortest_53 jf_Top_241 jm_SH_61 ?_
            exact jm_ireturn jd_Top_shortest_56 rfl (by decide) ⟨rfl, _, rfl, H⟩
        · replace H := H.2 hc5
          refine jm_bipush jd_Top_shortest_41 jb_m5 ?_
          exact jm_ireturn jd_Top_shortest_43 rfl (by decide) ⟨rfl, _, rfl, H⟩
    · replace H := H.2 hc2
      refine jm_bipush jd_Top_shortest_9 jb_m2 ?_
      exact jm_ireturn jd_Top_shortest_11 rfl (by decide) ⟨rfl, _, rfl, H⟩
set_option maxRecDepth 4000 in
theorem jb_Top_thin {E : jm_Env} {h : jm_H} {K : Int → jm_H → Prop} (H : jm_BI E jm_SH jm_m_Top_thin 4 4 [some (jm_R 0), some (jm_I 0), some (jm_I 0), none] [] h K) : jm_CI E jm_SH jm_m_Top_thin 4 [jm_R 0] h K := by
  refine jm_body (ls0 := [some (jm_R 0), none, none, none]) (by decide +kernel) rfl rfl (Nat.le_of_ble_eq_true rfl) ?_
  refine jm_iconst jd_Top_thin_0 (jm_o32c rfl) ?_
  refine jm_istore_n (i := 1) jd_Top_thin_1 rfl (by decide) (ls2 := [some (jm_R 0), some (jm_I 0), none, none]) rfl ?_
  refine jm_iconst jd_Top_thin_2 (jm_o32c rfl) ?_
  refine jm_istore_n (i := 2) jd_Top_thin_3 rfl (by decide) (ls2 := [some (jm_R 0), some (jm_I 0), some (jm_I 0), none]) rfl ?_
  exact H
set_option maxRecDepth 4000 in
theorem jb_Top_thin_4 {E : jm_Env} {x1 x2 : Int} {h : jm_H} {K : Int → jm_H → Prop} (H : ((12 ≤ x2) → K x1 h) ∧ ((¬ 12 ≤ x2) → jm_CI E jm_SH jm_m_Lifetimes_firstUnused 3 [jm_R 56] h (fun v2 h2 => ((0 ≤ v2) → jm_CV E jm_SH jm_m_Row_remove 1 [jm_R 37, jm_I v2] h2 (fun h4 => jm_BI E jm_SH jm_m_Top_thin 4 4 [some (jm_R 0), some (jm_I (jm_w32 (x1 + 1))), some (jm_I (jm_w32 (x2 + 1))), none] [] h4 K)) ∧ ((¬ 0 ≤ v2) → K x1 h2)))) : jm_BI E jm_SH jm_m_Top_thin 4 4 [some (jm_R 0), some (jm_I x1), some (jm_I x2), none] [] h K := by
  refine jm_iload_n jd_Top_thin_4 rfl rfl ?_
  refine jm_bipush jd_Top_thin_5 jb_12 ?_
  refine jm_icmp_ge (tgt := 41) jd_Top_thin_7 rfl (fun hc1 => ?_) (fun hc1 => ?_)
  · replace H := H.1 hc1
    refine jm_iload_n jd_Top_thin_41 rfl rfl ?_
    exact jm_ireturn jd_Top_thin_42 rfl (by decide) ⟨rfl, _, rfl, H⟩
  · replace H := H.2 hc1
    refine jm_aload_n jd_Top_thin_10 rfl rfl ?_
    refine jm_gR jd_Top_thin_11 jf_Top_58 jm_SH_0 rfl ?_
    refine jm_cV (M' := jm_m_Lifetimes_firstUnused) (d' := 3) (av := []) jd_Top_thin_14 jk_Lifetimes_firstUnused jw_818 rfl (by omega) ⟨rfl, rfl⟩ (by decide) (Nat.le_of_ble_eq_true rfl) jm_SH_56 rfl rfl (jm_hqI (fun v2 h2 H => ?_)) H
    refine jm_istore_n (i := 3) jd_Top_thin_17 rfl (by decide) (ls2 := [some (jm_R 0), some (jm_I x1), some (jm_I x2), some (jm_I v2)]) rfl ?_
    refine jm_iload_n jd_Top_thin_18 rfl rfl ?_
    refine jm_if_ge (tgt := 24) jd_Top_thin_19 rfl (fun hc3 => ?_) (fun hc3 => ?_)
    · replace H := H.1 hc3
      refine jm_aload_n jd_Top_thin_24 rfl rfl ?_
      refine jm_gR jd_Top_thin_25 jf_Top_42 jm_SH_0 rfl ?_
      refine jm_iload_n jd_Top_thin_28 rfl rfl ?_
      refine jm_cV (M' := jm_m_Row_remove) (d' := 1) (av := [jm_I v2]) jd_Top_thin_29 jk_Row_remove jw_822 rfl (by omega) ⟨rfl, rfl⟩ (by decide) (Nat.le_of_ble_eq_true rfl) jm_SH_37 rfl rfl (jm_hqV (fun h4 H => ?_)) H
      refine jm_iinc jd_Top_thin_32 rfl (by decide) (ls2 := [some (jm_R 0), some (jm_I (jm_w32 (x1 + 1))), some (jm_I x2), some (jm_I v2)]) rfl ?_
      refine jm_iinc jd_Top_thin_35 rfl (by decide) (ls2 := [some (jm_R 0), some (jm_I (jm_w32 (x1 + 1))), some (jm_I (jm_w32 (x2 + 1))), some (jm_I v2)]) rfl ?_
      refine jm_goto (tgt := 4) jd_Top_thin_38 rfl ?_
      refine jm_keepG [true, true, true, false] (ls2 := [some (jm_R 0), some (jm_I (jm_w32 (x1 + 1))), some (jm_I (jm_w32 (x2 + 1))), none]) (by rfl) (by rfl) ?_
      exact H
    · replace H := H.2 hc3
      refine jm_iload_n jd_Top_thin_22 rfl rfl ?_
      exact jm_ireturn jd_Top_thin_23 rfl (by decide) ⟨rfl, _, rfl, H⟩
set_option maxRecDepth 4000 in
theorem jb_Top_told {E : jm_Env} {x1 : Int} {h : jm_H} {K : Int → jm_H → Prop} (H : (x1 = 0 → K (h 1 2) h) ∧ ((x1 = 1 → K (h 4 4) h) ∧ ((x1 = 2 → K (h 9 4) h) ∧ ((x1 = 3 → K (h 37 3) h) ∧ ((x1 = 4 → K (h 56 3) h) ∧ (((¬ x1 = 0 ∧ ¬ x1 = 1 ∧ ¬ x1 = 2 ∧ ¬ x1 = 3 ∧ ¬ x1 = 4) → K (-2) h))))))) : jm_CI E jm_SH jm_m_Top_told 0 [jm_R 0, jm_I x1] h K := by
  refine jm_body (ls0 := [some (jm_R 0), some (jm_I x1)]) (by decide +kernel) rfl rfl (Nat.le_of_ble_eq_true rfl) ?_
  refine jm_iload_n jd_Top_told_0 rfl rfl ?_
  by_cases hc1 : x1 = 0
  · replace H := H.1 hc1
    refine jm_tableIn (tgt := 36) jd_Top_told_1 (by omega) (by omega) (by first | (rw [hc1]; rfl) | rw [hc1]) rfl ?_
    refine jm_aload_n jd_Top_told_36 rfl rfl ?_
    refine jm_gR jd_Top_told_37 jf_Top_10 jm_SH_0 rfl ?_
    refine jm_gI jd_Top_told_40 jf_Top_82 jm_SH_1 ?_
    exact jm_ireturn jd_Top_told_43 rfl (by decide) ⟨rfl, _, rfl, H⟩
  · replace H := H.2
    by_cases hc2 : x1 = 1
    · replace H := H.1 hc2
      refine jm_tableIn (tgt := 44) jd_Top_told_1 (by omega) (by omega) (by first | (rw [hc2]; rfl) | rw [hc2]) rfl ?_
      refine jm_aload_n jd_Top_told_44 rfl rfl ?_
      refine jm_gR jd_Top_told_45 jf_Top_19 jm_SH_0 rfl ?_
      refine jm_gI jd_Top_told_48 jf_Top_98 jm_SH_4 ?_
      exact jm_ireturn jd_Top_told_51 rfl (by decide) ⟨rfl, _, rfl, H⟩
    · replace H := H.2
      by_cases hc3 : x1 = 2
      · replace H := H.1 hc3
        refine jm_tableIn (tgt := 52) jd_Top_told_1 (by omega) (by omega) (by first | (rw [hc3]; rfl) | rw [hc3]) rfl ?_
        refine jm_aload_n jd_Top_told_52 rfl rfl ?_
        refine jm_gR jd_Top_told_53 jf_Top_26 jm_SH_0 rfl ?_
        refine jm_gI jd_Top_told_56 jf_Top_125 jm_SH_9 ?_
        exact jm_ireturn jd_Top_told_59 rfl (by decide) ⟨rfl, _, rfl, H⟩
      · replace H := H.2
        by_cases hc4 : x1 = 3
        · replace H := H.1 hc4
          refine jm_tableIn (tgt := 60) jd_Top_told_1 (by omega) (by omega) (by first | (rw [hc4]; rfl) | rw [hc4]) rfl ?_
          refine jm_aload_n jd_Top_told_60 rfl rfl ?_
          refine jm_gR jd_Top_told_61 jf_Top_42 jm_SH_0 rfl ?_
          refine jm_gI jd_Top_told_64 jf_Top_177 jm_SH_37 ?_
          exact jm_ireturn jd_Top_told_67 rfl (by decide) ⟨rfl, _, rfl, H⟩
        · replace H := H.2
          by_cases hc5 : x1 = 4
          · replace H := H.1 hc5
            refine jm_tableIn (tgt := 68) jd_Top_told_1 (by omega) (by omega) (by first | (rw [hc5]; rfl) | rw [hc5]) rfl ?_
            refine jm_aload_n jd_Top_told_68 rfl rfl ?_
            refine jm_gR jd_Top_told_69 jf_Top_58 jm_SH_0 rfl ?_
            refine jm_gI jd_Top_told_72 jf_Top_207 jm_SH_56 ?_
            exact jm_ireturn jd_Top_told_75 rfl (by decide) ⟨rfl, _, rfl, H⟩
          · replace H := H.2
            replace H := H ⟨hc1, hc2, hc3, hc4, hc5⟩
            refine jm_tableOut (tgt := 76) jd_Top_told_1 (by omega) rfl ?_
            refine jm_bipush jd_Top_told_76 jb_m2 ?_
            exact jm_ireturn jd_Top_told_78 rfl (by decide) ⟨rfl, _, rfl, H⟩
set_option maxRecDepth 4000 in
theorem jb_Top_isHead {E : jm_Env} {x0 : Int} {h : jm_H} {K : Int → jm_H → Prop} (H : ((x0 = 0) → K 1 h) ∧ ((¬ x0 = 0) → ((¬ x0 = 1) → K 0 h) ∧ ((x0 = 1) → K 1 h))) : jm_CI E jm_SH jm_m_Top_isHead 0 [jm_I x0] h K := by
  refine jm_body (ls0 := [some (jm_I x0)]) (by decide +kernel) rfl rfl (Nat.le_of_ble_eq_true rfl) ?_
  refine jm_iload_n jd_Top_isHead_0 rfl rfl ?_
  refine jm_if_eq (tgt := 9) jd_Top_isHead_1 rfl (fun hc1 => ?_) (fun hc1 => ?_)
  · replace H := H.1 hc1
    refine jm_iconst jd_Top_isHead_9 (jm_o32c rfl) ?_
    refine jm_goto (tgt := 14) jd_Top_isHead_10 rfl ?_
    exact jm_zreturn jd_Top_isHead_14 rfl (Or.inr rfl) (by decide) ⟨rfl, _, rfl, H⟩
  · replace H := H.2 hc1
    refine jm_iload_n jd_Top_isHead_4 rfl rfl ?_
    refine jm_iconst jd_Top_isHead_5 (jm_o32c rfl) ?_
    refine jm_icmp_ne (tgt := 13) jd_Top_isHead_6 rfl (fun hc2 => ?_) (fun hc2 => ?_)
    · replace H := H.1 hc2
      refine jm_iconst jd_Top_isHead_13 (jm_o32c rfl) ?_
      exact jm_zreturn jd_Top_isHead_14 rfl (Or.inl rfl) (by decide) ⟨rfl, _, rfl, H⟩
    · replace H := H.2 hc2
      refine jm_iconst jd_Top_isHead_9 (jm_o32c rfl) ?_
      refine jm_goto (tgt := 14) jd_Top_isHead_10 rfl ?_
      exact jm_zreturn jd_Top_isHead_14 rfl (Or.inr rfl) (by decide) ⟨rfl, _, rfl, H⟩
set_option maxRecDepth 4000 in
theorem jb_Top_isPrice {E : jm_Env} {x0 : Int} {h : jm_H} {K : Int → jm_H → Prop} (H : ((x0 < 0) → K 0 h) ∧ ((¬ x0 < 0) → ((20 < x0) → K 0 h) ∧ ((¬ 20 < x0) → K 1 h))) : jm_CI E jm_SH jm_m_Top_isPrice 0 [jm_I x0] h K := by
  refine jm_body (ls0 := [some (jm_I x0)]) (by decide +kernel) rfl rfl (Nat.le_of_ble_eq_true rfl) ?_
  refine jm_iload_n jd_Top_isPrice_0 rfl rfl ?_
  refine jm_if_lt (tgt := 14) jd_Top_isPrice_1 rfl (fun hc1 => ?_) (fun hc1 => ?_)
  · replace H := H.1 hc1
    refine jm_iconst jd_Top_isPrice_14 (jm_o32c rfl) ?_
    exact jm_zreturn jd_Top_isPrice_15 rfl (Or.inl rfl) (by decide) ⟨rfl, _, rfl, H⟩
  · replace H := H.2 hc1
    refine jm_iload_n jd_Top_isPrice_4 rfl rfl ?_
    refine jm_bipush jd_Top_isPrice_5 jb_20 ?_
    refine jm_icmp_gt (tgt := 14) jd_Top_isPrice_7 rfl (fun hc2 => ?_) (fun hc2 => ?_)
    · replace H := H.1 hc2
      refine jm_iconst jd_Top_isPrice_14 (jm_o32c rfl) ?_
      exact jm_zreturn jd_Top_isPrice_15 rfl (Or.inl rfl) (by decide) ⟨rfl, _, rfl, H⟩
    · replace H := H.2 hc2
      refine jm_iconst jd_Top_isPrice_10 (jm_o32c rfl) ?_
      refine jm_goto (tgt := 15) jd_Top_isPrice_11 rfl ?_
      exact jm_zreturn jd_Top_isPrice_15 rfl (Or.inr rfl) (by decide) ⟨rfl, _, rfl, H⟩
set_option maxRecDepth 4000 in
theorem jb_Top_isBit {E : jm_Env} {x0 : Int} {h : jm_H} {K : Int → jm_H → Prop} (H : ((x0 = 0) → K 1 h) ∧ ((¬ x0 = 0) → ((¬ x0 = 1) → K 0 h) ∧ ((x0 = 1) → K 1 h))) : jm_CI E jm_SH jm_m_Top_isBit 0 [jm_I x0] h K := by
  refine jm_body (ls0 := [some (jm_I x0)]) (by decide +kernel) rfl rfl (Nat.le_of_ble_eq_true rfl) ?_
  refine jm_iload_n jd_Top_isBit_0 rfl rfl ?_
  refine jm_if_eq (tgt := 9) jd_Top_isBit_1 rfl (fun hc1 => ?_) (fun hc1 => ?_)
  · replace H := H.1 hc1
    refine jm_iconst jd_Top_isBit_9 (jm_o32c rfl) ?_
    refine jm_goto (tgt := 14) jd_Top_isBit_10 rfl ?_
    exact jm_zreturn jd_Top_isBit_14 rfl (Or.inr rfl) (by decide) ⟨rfl, _, rfl, H⟩
  · replace H := H.2 hc1
    refine jm_iload_n jd_Top_isBit_4 rfl rfl ?_
    refine jm_iconst jd_Top_isBit_5 (jm_o32c rfl) ?_
    refine jm_icmp_ne (tgt := 13) jd_Top_isBit_6 rfl (fun hc2 => ?_) (fun hc2 => ?_)
    · replace H := H.1 hc2
      refine jm_iconst jd_Top_isBit_13 (jm_o32c rfl) ?_
      exact jm_zreturn jd_Top_isBit_14 rfl (Or.inl rfl) (by decide) ⟨rfl, _, rfl, H⟩
    · replace H := H.2 hc2
      refine jm_iconst jd_Top_isBit_9 (jm_o32c rfl) ?_
      refine jm_goto (tgt := 14) jd_Top_isBit_10 rfl ?_
      exact jm_zreturn jd_Top_isBit_14 rfl (Or.inr rfl) (by decide) ⟨rfl, _, rfl, H⟩
