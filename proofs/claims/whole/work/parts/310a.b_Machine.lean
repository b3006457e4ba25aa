set_option maxRecDepth 4000 in
theorem jb_Machine_behindRow {E : jm_Env} {x1 x3 : Int} {h : jm_H} {K : jm_H → Prop} (H : jm_BV E jm_SH jm_m_Machine_behindRow 1 3 [some (jm_R 59), some (jm_L x1), none, some (jm_L x3), none, some (jm_I 0), none, none, none, none] [] h K) : jm_CV E jm_SH jm_m_Machine_behindRow 1 [jm_R 59, jm_L x1, jm_L x3] h K := by
  refine jm_body (ls0 := [some (jm_R 59), some (jm_L x1), none, some (jm_L x3), none, none, none, none, none, none]) (by decide +kernel) rfl rfl (Nat.le_of_ble_eq_true rfl) ?_
  refine jm_iconst jd_Machine_behindRow_0 (jm_o32c rfl) ?_
  refine jm_istore (i := 5) jd_Machine_behindRow_1 (by decide) (ls2 := [some (jm_R 59), some (jm_L x1), none, some (jm_L x3), none, some (jm_I 0), none, none, none, none]) rfl ?_
  exact H
set_option maxRecDepth 4000 in
theorem jb_Machine_behindRow_3 {E : jm_Env} {x1 x3 x5 : Int} {h : jm_H} {K : jm_H → Prop} (H : ((6 ≤ x5) → jm_BV E jm_SH jm_m_Machine_behindRow 1 41 [some (jm_R 59), none, none, none, none, some (jm_I 0), none, none, none, none] [] (jm_up (jm_up h 60 0 x1) 60 1 x3) K) ∧ ((¬ 6 ≤ x5) → (0 ≤ x5 ∧ x5 < 6) ∧ (jm_BV E jm_SH jm_m_Machine_behindRow 1 3 [some (jm_R 59), some (jm_L x1), none, some (jm_L x3), none, some (jm_I (jm_w32 (x5 + 1))), none, none, none, none] [] (jm_up h 60 (Int.toNat x5) 0) K))) : jm_BV E jm_SH jm_m_Machine_behindRow 1 3 [some (jm_R 59), some (jm_L x1), none, some (jm_L x3), none, some (jm_I x5), none, none, none, none] [] h K := by
  refine jm_iload jd_Machine_behindRow_3 rfl ?_
  refine jm_bipush jd_Machine_behindRow_5 jb_6 ?_
  refine jm_icmp_ge (tgt := 24) jd_Machine_behindRow_7 rfl (fun hc1 => ?_) (fun hc1 => ?_)
  · replace H := H.1 hc1
    refine jm_aload_n jd_Machine_behindRow_24 rfl rfl ?_
    refine jm_gR jd_Machine_behindRow_25 jf_Machine_9 jm_SH_59 rfl ?_
    refine jm_iconst jd_Machine_behindRow_28 (jm_o32c rfl) ?_
    refine jm_lload_n jd_Machine_behindRow_29 rfl rfl ?_
    refine jm_lastore jd_Machine_behindRow_30 jm_SH_60 (by decide) ?_
    refine jm_aload_n jd_Machine_behindRow_31 rfl rfl ?_
    refine jm_gR jd_Machine_behindRow_32 jf_Machine_9 jm_SH_59 rfl ?_
    refine jm_iconst jd_Machine_behindRow_35 (jm_o32c rfl) ?_
    refine jm_lload_n jd_Machine_behindRow_36 rfl rfl ?_
    refine jm_lastore jd_Machine_behindRow_37 jm_SH_60 (by decide) ?_
    refine jm_iconst jd_Machine_behindRow_38 (jm_o32c rfl) ?_
    refine jm_istore (i := 5) jd_Machine_behindRow_39 (by decide) (ls2 := [some (jm_R 59), some (jm_L x1), none, some (jm_L x3), none, some (jm_I 0), none, none, none, none]) rfl ?_
    refine jm_keepG [true, false, false, false, false, true, false, false, false, false] (ls2 := [some (jm_R 59), none, none, none, none, some (jm_I 0), none, none, none, none]) (by rfl) (by rfl) ?_
    exact H
  · replace H := H.2 hc1
    refine jm_aload_n jd_Machine_behindRow_10 rfl rfl ?_
    refine jm_gR jd_Machine_behindRow_11 jf_Machine_9 jm_SH_59 rfl ?_
    refine jm_iload jd_Machine_behindRow_14 rfl ?_
    refine jm_lconst (x := 0) jd_Machine_behindRow_16 ⟨by decide, jm_o64c rfl⟩ ?_
    obtain ⟨hb2, H⟩ := H
    refine jm_lastore jd_Machine_behindRow_17 jm_SH_60 hb2 ?_
    refine jm_iinc jd_Machine_behindRow_18 rfl (by decide) (ls2 := [some (jm_R 59), some (jm_L x1), none, some (jm_L x3), none, some (jm_I (jm_w32 (x5 + 1))), none, none, none, none]) rfl ?_
    refine jm_goto (tgt := 3) jd_Machine_behindRow_21 rfl ?_
    exact H
set_option maxRecDepth 4000 in
theorem jb_Machine_behindRow_41 {E : jm_Env} {x5 : Int} {h : jm_H} {K : jm_H → Prop} (H : ((h 37 3 ≤ x5) → K h) ∧ ((¬ h 37 3 ≤ x5) → (0 ≤ x5 ∧ x5 < 12) ∧ ((0 ≤ h 41 (Int.toNat x5) ∧ h 41 (Int.toNat x5) < 6) ∧ ((0 ≤ x5 ∧ x5 < 12) ∧ ((0 ≤ h 42 (Int.toNat x5) ∧ h 42 (Int.toNat x5) < 6) ∧ ((0 ≤ x5 ∧ x5 < 12) ∧ ((0 ≤ x5 ∧ x5 < 12) ∧ (jm_CL E jm_SH jm_m_Machine_result 0 [jm_I (h 39 (Int.toNat x5)), jm_L (h 60 (Int.toNat (h 41 (Int.toNat x5)))), jm_L (h 60 (Int.toNat (h 42 (Int.toNat x5))))] h (fun v8 h8 => (0 ≤ h 40 (Int.toNat x5) ∧ h 40 (Int.toNat x5) < 6) ∧ (jm_BV E jm_SH jm_m_Machine_behindRow 1 41 [some (jm_R 59), none, none, none, none, some (jm_I (jm_w32 (x5 + 1))), none, none, none, none] [] (jm_up h8 60 (Int.toNat (h 40 (Int.toNat x5))) v8) K)))))))))) : jm_BV E jm_SH jm_m_Machine_behindRow 1 41 [some (jm_R 59), none, none, none, none, some (jm_I x5), none, none, none, none] [] h K := by
  refine jm_iload jd_Machine_behindRow_41 rfl ?_
  refine jm_aload_n jd_Machine_behindRow_43 rfl rfl ?_
  refine jm_gR jd_Machine_behindRow_44 jf_Machine_15 jm_SH_59 rfl ?_
  refine jm_gI jd_Machine_behindRow_47 jf_Machine_19 jm_SH_37 ?_
  refine jm_icmp_ge (tgt := 133) jd_Machine_behindRow_50 rfl (fun hc1 => ?_) (fun hc1 => ?_)
  · replace H := H.1 hc1
    exact jm_vreturn jd_Machine_behindRow_133 rfl (by decide) ⟨rfl, rfl, H⟩
  · replace H := H.2 hc1
    refine jm_aload_n jd_Machine_behindRow_53 rfl rfl ?_
    refine jm_gR jd_Machine_behindRow_54 jf_Machine_9 jm_SH_59 rfl ?_
    refine jm_aload_n jd_Machine_behindRow_57 rfl rfl ?_
    refine jm_gR jd_Machine_behindRow_58 jf_Machine_15 jm_SH_59 rfl ?_
    refine jm_gR jd_Machine_behindRow_61 jf_Machine_23 jm_SH_37 rfl ?_
    refine jm_iconst jd_Machine_behindRow_64 (jm_o32c rfl) ?_
    refine jm_aaload jd_Machine_behindRow_65 jm_SH_38 (by decide) (by decide) rfl ?_
    refine jm_iload jd_Machine_behindRow_66 rfl ?_
    obtain ⟨hb2, H⟩ := H
    refine jm_iaload jd_Machine_behindRow_68 jm_SH_41 hb2 ?_
    obtain ⟨hb3, H⟩ := H
    refine jm_laload jd_Machine_behindRow_69 jm_SH_60 hb3 ?_
    refine jm_lstore (i := 6) jd_Machine_behindRow_70 (by decide) (ls2 := [some (jm_R 59), none, none, none, none, some (jm_I x5), some (jm_L (h 60 (Int.toNat (h 41 (Int.toNat x5))))), none, none, none]) rfl ?_
    refine jm_aload_n jd_Machine_behindRow_72 rfl rfl ?_
    refine jm_gR jd_Machine_behindRow_73 jf_Machine_9 jm_SH_59 rfl ?_
    refine jm_aload_n jd_Machine_behindRow_76 rfl rfl ?_
    refine jm_gR jd_Machine_behindRow_77 jf_Machine_15 jm_SH_59 rfl ?_
    refine jm_gR jd_Machine_behindRow_80 jf_Machine_23 jm_SH_37 rfl ?_
    refine jm_iconst jd_Machine_behindRow_83 (jm_o32c rfl) ?_
    refine jm_aaload jd_Machine_behindRow_84 jm_SH_38 (by decide) (by decide) rfl ?_
    refine jm_iload jd_Machine_behindRow_85 rfl ?_
    obtain ⟨hb4, H⟩ := H
    refine jm_iaload jd_Machine_behindRow_87 jm_SH_42 hb4 ?_
    obtain ⟨hb5, H⟩ := H
    refine jm_laload jd_Machine_behindRow_88 jm_SH_60 hb5 ?_
    refine jm_lstore (i := 8) jd_Machine_behindRow_89 (by decide) (ls2 := [some (jm_R 59), none, none, none, none, some (jm_I x5), some (jm_L (h 60 (Int.toNat (h 41 (Int.toNat x5))))), none, some (jm_L (h 60 (Int.toNat (h 42 (Int.toNat x5))))), none]) rfl ?_
    refine jm_aload_n jd_Machine_behindRow_91 rfl rfl ?_
    refine jm_gR jd_Machine_behindRow_92 jf_Machine_9 jm_SH_59 rfl ?_
    refine jm_aload_n jd_Machine_behindRow_95 rfl rfl ?_
    refine jm_gR jd_Machine_behindRow_96 jf_Machine_15 jm_SH_59 rfl ?_
    refine jm_gR jd_Machine_behindRow_99 jf_Machine_23 jm_SH_37 rfl ?_
    refine jm_iconst jd_Machine_behindRow_102 (jm_o32c rfl) ?_
    refine jm_aaload jd_Machine_behindRow_103 jm_SH_38 (by decide) (by decide) rfl ?_
    refine jm_iload jd_Machine_behindRow_104 rfl ?_
    obtain ⟨hb6, H⟩ := H
    refine jm_iaload jd_Machine_behindRow_106 jm_SH_40 hb6 ?_
    refine jm_aload_n jd_Machine_behindRow_107 rfl rfl ?_
    refine jm_gR jd_Machine_behindRow_108 jf_Machine_15 jm_SH_59 rfl ?_
    refine jm_gR jd_Machine_behindRow_111 jf_Machine_23 jm_SH_37 rfl ?_
    refine jm_iconst jd_Machine_behindRow_114 (jm_o32c rfl) ?_
    refine jm_aaload jd_Machine_behindRow_115 jm_SH_38 (by decide) (by decide) rfl ?_
    refine jm_iload jd_Machine_behindRow_116 rfl ?_
    obtain ⟨hb7, H⟩ := H
    refine jm_iaload jd_Machine_behindRow_118 jm_SH_39 hb7 ?_
    refine jm_lload jd_Machine_behindRow_119 rfl ?_
    refine jm_lload jd_Machine_behindRow_121 rfl ?_
    refine jm_cS (M' := jm_m_Machine_result) (d' := 0) (av := [jm_I (h 39 (Int.toNat x5)), jm_L (h 60 (Int.toNat (h 41 (Int.toNat x5)))), jm_L (h 60 (Int.toNat (h 42 (Int.toNat x5))))]) jd_Machine_behindRow_123 jk_Machine_result jw_767 rfl (by omega) ⟨rfl, rfl⟩ (by decide) (Nat.le_of_ble_eq_true rfl) (jm_hqL (fun v8 h8 H => ?_)) H
    obtain ⟨hb9, H⟩ := H
    refine jm_lastore jd_Machine_behindRow_126 jm_SH_60 hb9 ?_
    refine jm_iinc jd_Machine_behindRow_127 rfl (by decide) (ls2 := [some (jm_R 59), none, none, none, none, some (jm_I (jm_w32 (x5 + 1))), some (jm_L (h 60 (Int.toNat (h 41 (Int.toNat x5))))), none, some (jm_L (h 60 (Int.toNat (h 42 (Int.toNat x5))))), none]) rfl ?_
    refine jm_goto (tgt := 41) jd_Machine_behindRow_130 rfl ?_
    refine jm_keepG [true, false, false, false, false, true, false, false, false, false] (ls2 := [some (jm_R 59), none, none, none, none, some (jm_I (jm_w32 (x5 + 1))), none, none, none, none]) (by rfl) (by rfl) ?_
    exact H
set_option maxRecDepth 4000 in
theorem jb_Machine_result {E : jm_Env} {x0 x1 x3 : Int} {h : jm_H} {K : Int → jm_H → Prop} (H : (x0 = 0 → K (jv_lxor (jm_w64 ((jv_land x1 8608480567731124087) + (jv_land x3 8608480567731124087))) (jv_land (jv_lxor x1 x3) (-8608480567731124088))) h) ∧ ((x0 = 1 → K (jv_lxor (jm_w64 ((jv_lor x1 (-8608480567731124088)) - (jv_land x3 8608480567731124087))) (jv_land (jv_lxor x1 (jv_lxor x3 (-1))) (-8608480567731124088))) h) ∧ ((x0 = 2 → K (jv_land x1 x3) h) ∧ ((x0 = 3 → K (jv_lor x1 x3) h) ∧ ((x0 = 4 → K (jv_lxor x1 x3) h) ∧ ((x0 = 5 → K (jv_lshl (jv_land x1 8608480567731124087) 1) h) ∧ (((¬ x0 = 0 ∧ ¬ x0 = 1 ∧ ¬ x0 = 2 ∧ ¬ x0 = 3 ∧ ¬ x0 = 4 ∧ ¬ x0 = 5) → K (jv_lxor x1 (-1)) h)))))))) : jm_CL E jm_SH jm_m_Machine_result 0 [jm_I x0, jm_L x1, jm_L x3] h K := by
  refine jm_body (ls0 := [some (jm_I x0), some (jm_L x1), none, some (jm_L x3), none]) (by decide +kernel) rfl rfl (Nat.le_of_ble_eq_true rfl) ?_
  refine jm_iload_n jd_Machine_result_0 rfl rfl ?_
  by_cases hc1 : x0 = 0
  · replace H := H.1 hc1
    refine jm_tableIn (tgt := 40) jd_Machine_result_1 (by omega) (by omega) (by first | (rw [hc1]; rfl) | rw [hc1]) rfl ?_
    refine jm_lload_n jd_Machine_result_40 rfl rfl ?_
    refine jm_ldc2 (x := 8608480567731124087) jd_Machine_result_41 jc_770 (jm_o64c rfl) ?_
    refine jm_land jd_Machine_result_44 ?_
    refine jm_lload_n jd_Machine_result_45 rfl rfl ?_
    refine jm_ldc2 (x := 8608480567731124087) jd_Machine_result_46 jc_770 (jm_o64c rfl) ?_
    refine jm_land jd_Machine_result_49 ?_
    refine jm_ladd jd_Machine_result_50 ?_
    refine jm_lload_n jd_Machine_result_51 rfl rfl ?_
    refine jm_lload_n jd_Machine_result_52 rfl rfl ?_
    refine jm_lxor jd_Machine_result_53 ?_
    refine jm_ldc2 (x := -8608480567731124088) jd_Machine_result_54 jc_771 (jm_o64c rfl) ?_
    refine jm_land jd_Machine_result_57 ?_
    refine jm_lxor jd_Machine_result_58 ?_
    exact jm_lreturn jd_Machine_result_59 rfl (by decide) ⟨rfl, _, rfl, H⟩
  · replace H := H.2
    by_cases hc2 : x0 = 1
    · replace H := H.1 hc2
      refine jm_tableIn (tgt := 60) jd_Machine_result_1 (by omega) (by omega) (by first | (rw [hc2]; rfl) | rw [hc2]) rfl ?_
      refine jm_lload_n jd_Machine_result_60 rfl rfl ?_
      refine jm_ldc2 (x := -8608480567731124088) jd_Machine_result_61 jc_771 (jm_o64c rfl) ?_
      refine jm_lor jd_Machine_result_64 ?_
      refine jm_lload_n jd_Machine_result_65 rfl rfl ?_
      refine jm_ldc2 (x := 8608480567731124087) jd_Machine_result_66 jc_770 (jm_o64c rfl) ?_
      refine jm_land jd_Machine_result_69 ?_
      refine jm_lsub jd_Machine_result_70 ?_
      refine jm_lload_n jd_Machine_result_71 rfl rfl ?_
      refine jm_lload_n jd_Machine_result_72 rfl rfl ?_
      refine jm_ldc2 (x := -1) jd_Machine_result_73 jc_772 (jm_o64c rfl) ?_
      refine jm_lxor jd_Machine_result_76 ?_
      refine jm_lxor jd_Machine_result_77 ?_
      refine jm_ldc2 (x := -8608480567731124088) jd_Machine_result_78 jc_771 (jm_o64c rfl) ?_
      refine jm_land jd_Machine_result_81 ?_
      refine jm_lxor jd_Machine_result_82 ?_
      exact jm_lreturn jd_Machine_result_83 rfl (by decide) ⟨rfl, _, rfl, H⟩
    · replace H := H.2
      by_cases hc3 : x0 = 2
      · replace H := H.1 hc3
        refine jm_tableIn (tgt := 84) jd_Machine_result_1 (by omega) (by omega) (by first | (rw [hc3]; rfl) | rw [hc3]) rfl ?_
        refine jm_lload_n jd_Machine_result_84 rfl rfl ?_
        refine jm_lload_n jd_Machine_result_85 rfl rfl ?_
        refine jm_land jd_Machine_result_86 ?_
        exact jm_lreturn jd_Machine_result_87 rfl (by decide) ⟨rfl, _, rfl, H⟩
      · replace H := H.2
        by_cases hc4 : x0 = 3
        · replace H := H.1 hc4
          refine jm_tableIn (tgt := 88) jd_Machine_result_1 (by omega) (by omega) (by first | (rw [hc4]; rfl) | rw [hc4]) rfl ?_
          refine jm_lload_n jd_Machine_result_88 rfl rfl ?_
          refine jm_lload_n jd_Machine_result_89 rfl rfl ?_
          refine jm_lor jd_Machine_result_90 ?_
          exact jm_lreturn jd_Machine_result_91 rfl (by decide) ⟨rfl, _, rfl, H⟩
        · replace H := H.2
          by_cases hc5 : x0 = 4
          · replace H := H.1 hc5
            refine jm_tableIn (tgt := 92) jd_Machine_result_1 (by omega) (by omega) (by first | (rw [hc5]; rfl) | rw [hc5]) rfl ?_
            refine jm_lload_n jd_Machine_result_92 rfl rfl ?_
            refine jm_lload_n jd_Machine_result_93 rfl rfl ?_
            refine jm_lxor jd_Machine_result_94 ?_
            exact jm_lreturn jd_Machine_result_95 rfl (by decide) ⟨rfl, _, rfl, H⟩
          · replace H := H.2
            by_cases hc6 : x0 = 5
            · replace H := H.1 hc6
              refine jm_tableIn (tgt := 96) jd_Machine_result_1 (by omega) (by omega) (by first | (rw [hc6]; rfl) | rw [hc6]) rfl ?_
              refine jm_lload_n jd_Machine_result_96 rfl rfl ?_
              refine jm_ldc2 (x := 8608480567731124087) jd_Machine_result_97 jc_770 (jm_o64c rfl) ?_
              refine jm_land jd_Machine_result_100 ?_
              refine jm_iconst jd_Machine_result_101 (jm_o32c rfl) ?_
              refine jm_lshl jd_Machine_result_102 ?_
              exact jm_lreturn jd_Machine_result_103 rfl (by decide) ⟨rfl, _, rfl, H⟩
            · replace H := H.2
              replace H := H ⟨hc1, hc2, hc3, hc4, hc5, hc6⟩
              refine jm_tableOut (tgt := 104) jd_Machine_result_1 (by omega) rfl ?_
              refine jm_lload_n jd_Machine_result_104 rfl rfl ?_
              refine jm_ldc2 (x := -1) jd_Machine_result_105 jc_772 (jm_o64c rfl) ?_
              refine jm_lxor jd_Machine_result_108 ?_
              exact jm_lreturn jd_Machine_result_109 rfl (by decide) ⟨rfl, _, rfl, H⟩
