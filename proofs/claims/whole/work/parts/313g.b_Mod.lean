set_option maxRecDepth 4000 in
theorem jb_Mod_worked {E : jm_Env} {x0 x1 x2 : Int} {h : jm_H} {K : Int → jm_H → Prop} (H : (x0 = 0 → K (jv_and (jm_w32 (x1 + x2)) 15) h) ∧ ((x0 = 1 → K (jv_and (jm_w32 (x1 - x2)) 15) h) ∧ ((x0 = 2 → K (jv_and x1 x2) h) ∧ ((x0 = 3 → K (jv_or x1 x2) h) ∧ ((x0 = 4 → K (jv_xor x1 x2) h) ∧ ((x0 = 5 → K (jv_and (jm_w32 (2 * x1)) 15) h) ∧ (((¬ x0 = 0 ∧ ¬ x0 = 1 ∧ ¬ x0 = 2 ∧ ¬ x0 = 3 ∧ ¬ x0 = 4 ∧ ¬ x0 = 5) → K (jv_and (jv_xor x1 (-1)) 15) h)))))))) : jm_CI E jm_SH jm_m_Mod_worked 0 [jm_I x0, jm_I x1, jm_I x2] h K := by
  refine jm_body (ls0 := [some (jm_I x0), some (jm_I x1), some (jm_I x2)]) (by decide +kernel) rfl rfl (Nat.le_of_ble_eq_true rfl) ?_
  refine jm_iload_n jd_Mod_worked_0 rfl rfl ?_
  by_cases hc1 : x0 = 0
  · replace H := H.1 hc1
    refine jm_tableIn (tgt := 40) jd_Mod_worked_1 (by omega) (by omega) (by first | (rw [hc1]; rfl) | rw [hc1]) rfl ?_
    refine jm_iload_n jd_Mod_worked_40 rfl rfl ?_
    refine jm_iload_n jd_Mod_worked_41 rfl rfl ?_
    refine jm_iadd jd_Mod_worked_42 ?_
    refine jm_bipush jd_Mod_worked_43 jb_15 ?_
    refine jm_iand jd_Mod_worked_45 ?_
    exact jm_ireturn jd_Mod_worked_46 rfl (by decide) ⟨rfl, _, rfl, H⟩
  · replace H := H.2
    by_cases hc2 : x0 = 1
    · replace H := H.1 hc2
      refine jm_tableIn (tgt := 47) jd_Mod_worked_1 (by omega) (by omega) (by first | (rw [hc2]; rfl) | rw [hc2]) rfl ?_
      refine jm_iload_n jd_Mod_worked_47 rfl rfl ?_
      refine jm_iload_n jd_Mod_worked_48 rfl rfl ?_
      refine jm_isub jd_Mod_worked_49 ?_
      refine jm_bipush jd_Mod_worked_50 jb_15 ?_
      refine jm_iand jd_Mod_worked_52 ?_
      exact jm_ireturn jd_Mod_worked_53 rfl (by decide) ⟨rfl, _, rfl, H⟩
    · replace H := H.2
      by_cases hc3 : x0 = 2
      · replace H := H.1 hc3
        refine jm_tableIn (tgt := 54) jd_Mod_worked_1 (by omega) (by omega) (by first | (rw [hc3]; rfl) | rw [hc3]) rfl ?_
        refine jm_iload_n jd_Mod_worked_54 rfl rfl ?_
        refine jm_iload_n jd_Mod_worked_55 rfl rfl ?_
        refine jm_iand jd_Mod_worked_56 ?_
        exact jm_ireturn jd_Mod_worked_57 rfl (by decide) ⟨rfl, _, rfl, H⟩
      · replace H := H.2
        by_cases hc4 : x0 = 3
        · replace H := H.1 hc4
          refine jm_tableIn (tgt := 58) jd_Mod_worked_1 (by omega) (by omega) (by first | (rw [hc4]; rfl) | rw [hc4]) rfl ?_
          refine jm_iload_n jd_Mod_worked_58 rfl rfl ?_
          refine jm_iload_n jd_Mod_worked_59 rfl rfl ?_
          refine jm_ior jd_Mod_worked_60 ?_
          exact jm_ireturn jd_Mod_worked_61 rfl (by decide) ⟨rfl, _, rfl, H⟩
        · replace H := H.2
          by_cases hc5 : x0 = 4
          · replace H := H.1 hc5
            refine jm_tableIn (tgt := 62) jd_Mod_worked_1 (by omega) (by omega) (by first | (rw [hc5]; rfl) | rw [hc5]) rfl ?_
            refine jm_iload_n jd_Mod_worked_62 rfl rfl ?_
            refine jm_iload_n jd_Mod_worked_63 rfl rfl ?_
            refine jm_ixor jd_Mod_worked_64 ?_
            exact jm_ireturn jd_Mod_worked_65 rfl (by decide) ⟨rfl, _, rfl, H⟩
          · replace H := H.2
            by_cases hc6 : x0 = 5
            · replace H := H.1 hc6
              refine jm_tableIn (tgt := 66) jd_Mod_worked_1 (by omega) (by omega) (by first | (rw [hc6]; rfl) | rw [hc6]) rfl ?_
              refine jm_iconst jd_Mod_worked_66 (jm_o32c rfl) ?_
              refine jm_iload_n jd_Mod_worked_67 rfl rfl ?_
              refine jm_imul jd_Mod_worked_68 ?_
              refine jm_bipush jd_Mod_worked_69 jb_15 ?_
              refine jm_iand jd_Mod_worked_71 ?_
              exact jm_ireturn jd_Mod_worked_72 rfl (by decide) ⟨rfl, _, rfl, H⟩
            · replace H := H.2
              replace H := H ⟨hc1, hc2, hc3, hc4, hc5, hc6⟩
              refine jm_tableOut (tgt := 73) jd_Mod_worked_1 (by omega) rfl ?_
              refine jm_iload_n jd_Mod_worked_73 rfl rfl ?_
              refine jm_iconst jd_Mod_worked_74 (jm_o32c rfl) ?_
              refine jm_ixor jd_Mod_worked_75 ?_
              refine jm_bipush jd_Mod_worked_76 jb_15 ?_
              refine jm_iand jd_Mod_worked_78 ?_
              exact jm_ireturn jd_Mod_worked_79 rfl (by decide) ⟨rfl, _, rfl, H⟩
set_option maxRecDepth 4000 in
theorem jb_Mod_begin {E : jm_Env} {x1 x2 : Int} {h : jm_H} {K : jm_H → Prop} (H : jm_BV E jm_SH jm_m_Mod_begin 0 2 [some (jm_R 78), some (jm_I x1), some (jm_I x2), some (jm_I 0)] [] h K) : jm_CV E jm_SH jm_m_Mod_begin 0 [jm_R 78, jm_I x1, jm_I x2] h K := by
  refine jm_body (ls0 := [some (jm_R 78), some (jm_I x1), some (jm_I x2), none]) (by decide +kernel) rfl rfl (Nat.le_of_ble_eq_true rfl) ?_
  refine jm_iconst jd_Mod_begin_0 (jm_o32c rfl) ?_
  refine jm_istore_n (i := 3) jd_Mod_begin_1 rfl (by decide) (ls2 := [some (jm_R 78), some (jm_I x1), some (jm_I x2), some (jm_I 0)]) rfl ?_
  exact H
set_option maxRecDepth 4000 in
theorem jb_Mod_begin_2 {E : jm_Env} {x1 x2 x3 : Int} {h : jm_H} {K : jm_H → Prop} (H : ((6 ≤ x3) → K h) ∧ ((¬ 6 ≤ x3) → ((¬ x3 = 0) → ((¬ x3 = 1) → (0 ≤ x3 ∧ x3 < 6) ∧ (jm_BV E jm_SH jm_m_Mod_begin 0 2 [some (jm_R 78), some (jm_I x1), some (jm_I x2), some (jm_I (jm_w32 (x3 + 1)))] [] (jm_up h 111 (Int.toNat x3) 0) K)) ∧ ((x3 = 1) → (0 ≤ x3 ∧ x3 < 6) ∧ (jm_BV E jm_SH jm_m_Mod_begin 0 2 [some (jm_R 78), some (jm_I x1), some (jm_I x2), some (jm_I (jm_w32 (x3 + 1)))] [] (jm_up h 111 (Int.toNat x3) x2) K))) ∧ ((x3 = 0) → (0 ≤ x3 ∧ x3 < 6) ∧ (jm_BV E jm_SH jm_m_Mod_begin 0 2 [some (jm_R 78), some (jm_I x1), some (jm_I x2), some (jm_I (jm_w32 (x3 + 1)))] [] (jm_up h 111 (Int.toNat x3) x1) K)))) : jm_BV E jm_SH jm_m_Mod_begin 0 2 [some (jm_R 78), some (jm_I x1), some (jm_I x2), some (jm_I x3)] [] h K := by
  refine jm_iload_n jd_Mod_begin_2 rfl rfl ?_
  refine jm_bipush jd_Mod_begin_3 jb_6 ?_
  refine jm_icmp_ge (tgt := 38) jd_Mod_begin_5 rfl (fun hc1 => ?_) (fun hc1 => ?_)
  · replace H := H.1 hc1
    exact jm_vreturn jd_Mod_begin_38 rfl (by decide) ⟨rfl, rfl, H⟩
  · replace H := H.2 hc1
    refine jm_aload_n jd_Mod_begin_8 rfl rfl ?_
    refine jm_gR jd_Mod_begin_9 jf_Mod_106 jm_SH_78 rfl ?_
    refine jm_iload_n jd_Mod_begin_12 rfl rfl ?_
    refine jm_iload_n jd_Mod_begin_13 rfl rfl ?_
    refine jm_if_ne (tgt := 21) jd_Mod_begin_14 rfl (fun hc2 => ?_) (fun hc2 => ?_)
    · replace H := H.1 hc2
      refine jm_iload_n jd_Mod_begin_21 rfl rfl ?_
      refine jm_iconst jd_Mod_begin_22 (jm_o32c rfl) ?_
      refine jm_icmp_ne (tgt := 30) jd_Mod_begin_23 rfl (fun hc3 => ?_) (fun hc3 => ?_)
      · replace H := H.1 hc3
        refine jm_iconst jd_Mod_begin_30 (jm_o32c rfl) ?_
        obtain ⟨hb4, H⟩ := H
        refine jm_iastore jd_Mod_begin_31 jm_SH_111 hb4 ?_
        refine jm_iinc jd_Mod_begin_32 rfl (by decide) (ls2 := [some (jm_R 78), some (jm_I x1), some (jm_I x2), some (jm_I (jm_w32 (x3 + 1)))]) rfl ?_
        refine jm_goto (tgt := 2) jd_Mod_begin_35 rfl ?_
        exact H
      · replace H := H.2 hc3
        refine jm_iload_n jd_Mod_begin_26 rfl rfl ?_
        refine jm_goto (tgt := 31) jd_Mod_begin_27 rfl ?_
        obtain ⟨hb5, H⟩ := H
        refine jm_iastore jd_Mod_begin_31 jm_SH_111 hb5 ?_
        refine jm_iinc jd_Mod_begin_32 rfl (by decide) (ls2 := [some (jm_R 78), some (jm_I x1), some (jm_I x2), some (jm_I (jm_w32 (x3 + 1)))]) rfl ?_
        refine jm_goto (tgt := 2) jd_Mod_begin_35 rfl ?_
        exact H
    · replace H := H.2 hc2
      refine jm_iload_n jd_Mod_begin_17 rfl rfl ?_
      refine jm_goto (tgt := 31) jd_Mod_begin_18 rfl ?_
      obtain ⟨hb6, H⟩ := H
      refine jm_iastore jd_Mod_begin_31 jm_SH_111 hb6 ?_
      refine jm_iinc jd_Mod_begin_32 rfl (by decide) (ls2 := [some (jm_R 78), some (jm_I x1), some (jm_I x2), some (jm_I (jm_w32 (x3 + 1)))]) rfl ?_
      refine jm_goto (tgt := 2) jd_Mod_begin_35 rfl ?_
      exact H
set_option maxRecDepth 4000 in
theorem jb_Mod_runRow {E : jm_Env} {x1 x2 : Int} {h : jm_H} {K : jm_H → Prop} (H : jm_CV E jm_SH jm_m_Mod_begin 0 [jm_R 78, jm_I x1, jm_I x2] h (fun h1 => jm_BV E jm_SH jm_m_Mod_runRow 1 8 [some (jm_R 78), none, none, some (jm_I 0)] [] h1 K)) : jm_CV E jm_SH jm_m_Mod_runRow 1 [jm_R 78, jm_I x1, jm_I x2] h K := by
  refine jm_body (ls0 := [some (jm_R 78), some (jm_I x1), some (jm_I x2), none]) (by decide +kernel) rfl rfl (Nat.le_of_ble_eq_true rfl) ?_
  refine jm_aload_n jd_Mod_runRow_0 rfl rfl ?_
  refine jm_iload_n jd_Mod_runRow_1 rfl rfl ?_
  refine jm_iload_n jd_Mod_runRow_2 rfl rfl ?_
  refine jm_cV (M' := jm_m_Mod_begin) (d' := 0) (av := [jm_I x1, jm_I x2]) jd_Mod_runRow_3 jk_Mod_begin jw_1226 rfl (by omega) ⟨rfl, rfl⟩ (by decide) (Nat.le_of_ble_eq_true rfl) jm_SH_78 rfl rfl (jm_hqV (fun h1 H => ?_)) H
  refine jm_iconst jd_Mod_runRow_6 (jm_o32c rfl) ?_
  refine jm_istore_n (i := 3) jd_Mod_runRow_7 rfl (by decide) (ls2 := [some (jm_R 78), some (jm_I x1), some (jm_I x2), some (jm_I 0)]) rfl ?_
  refine jm_keepG [true, false, false, true] (ls2 := [some (jm_R 78), none, none, some (jm_I 0)]) (by rfl) (by rfl) ?_
  exact H
set_option maxRecDepth 4000 in
theorem jb_Mod_runRow_8 {E : jm_Env} {x3 : Int} {h : jm_H} {K : jm_H → Prop} (H : ((h 78 32 ≤ x3) → K h) ∧ ((¬ h 78 32 ≤ x3) → (0 ≤ x3 ∧ x3 < 12) ∧ ((0 ≤ x3 ∧ x3 < 12) ∧ ((0 ≤ x3 ∧ x3 < 12) ∧ ((0 ≤ h 101 (Int.toNat x3) ∧ h 101 (Int.toNat x3) < 6) ∧ ((0 ≤ x3 ∧ x3 < 12) ∧ ((0 ≤ h 102 (Int.toNat x3) ∧ h 102 (Int.toNat x3) < 6) ∧ (jm_CI E jm_SH jm_m_Mod_worked 0 [jm_I (h 99 (Int.toNat x3)), jm_I (h 111 (Int.toNat (h 101 (Int.toNat x3)))), jm_I (h 111 (Int.toNat (h 102 (Int.toNat x3))))] h (fun v8 h8 => (0 ≤ h 100 (Int.toNat x3) ∧ h 100 (Int.toNat x3) < 6) ∧ (jm_BV E jm_SH jm_m_Mod_runRow 1 8 [some (jm_R 78), none, none, some (jm_I (jm_w32 (x3 + 1)))] [] (jm_up h8 111 (Int.toNat (h 100 (Int.toNat x3))) v8) K)))))))))) : jm_BV E jm_SH jm_m_Mod_runRow 1 8 [some (jm_R 78), none, none, some (jm_I x3)] [] h K := by
  refine jm_iload_n jd_Mod_runRow_8 rfl rfl ?_
  refine jm_aload_n jd_Mod_runRow_9 rfl rfl ?_
  refine jm_gI jd_Mod_runRow_10 jf_Mod_231 jm_SH_78 ?_
  refine jm_icmp_ge (tgt := 64) jd_Mod_runRow_13 rfl (fun hc1 => ?_) (fun hc1 => ?_)
  · replace H := H.1 hc1
    exact jm_vreturn jd_Mod_runRow_64 rfl (by decide) ⟨rfl, rfl, H⟩
  · replace H := H.2 hc1
    refine jm_aload_n jd_Mod_runRow_16 rfl rfl ?_
    refine jm_gR jd_Mod_runRow_17 jf_Mod_106 jm_SH_78 rfl ?_
    refine jm_aload_n jd_Mod_runRow_20 rfl rfl ?_
    refine jm_gR jd_Mod_runRow_21 jf_Mod_73 jm_SH_78 rfl ?_
    refine jm_iload_n jd_Mod_runRow_24 rfl rfl ?_
    obtain ⟨hb2, H⟩ := H
    refine jm_iaload jd_Mod_runRow_25 jm_SH_100 hb2 ?_
    refine jm_aload_n jd_Mod_runRow_26 rfl rfl ?_
    refine jm_gR jd_Mod_runRow_27 jf_Mod_70 jm_SH_78 rfl ?_
    refine jm_iload_n jd_Mod_runRow_30 rfl rfl ?_
    obtain ⟨hb3, H⟩ := H
    refine jm_iaload jd_Mod_runRow_31 jm_SH_99 hb3 ?_
    refine jm_aload_n jd_Mod_runRow_32 rfl rfl ?_
    refine jm_gR jd_Mod_runRow_33 jf_Mod_106 jm_SH_78 rfl ?_
    refine jm_aload_n jd_Mod_runRow_36 rfl rfl ?_
    refine jm_gR jd_Mod_runRow_37 jf_Mod_76 jm_SH_78 rfl ?_
    refine jm_iload_n jd_Mod_runRow_40 rfl rfl ?_
    obtain ⟨hb4, H⟩ := H
    refine jm_iaload jd_Mod_runRow_41 jm_SH_101 hb4 ?_
    obtain ⟨hb5, H⟩ := H
    refine jm_iaload jd_Mod_runRow_42 jm_SH_111 hb5 ?_
    refine jm_aload_n jd_Mod_runRow_43 rfl rfl ?_
    refine jm_gR jd_Mod_runRow_44 jf_Mod_106 jm_SH_78 rfl ?_
    refine jm_aload_n jd_Mod_runRow_47 rfl rfl ?_
    refine jm_gR jd_Mod_runRow_48 jf_Mod_79 jm_SH_78 rfl ?_
    refine jm_iload_n jd_Mod_runRow_51 rfl rfl ?_
    obtain ⟨hb6, H⟩ := H
    refine jm_iaload jd_Mod_runRow_52 jm_SH_102 hb6 ?_
    obtain ⟨hb7, H⟩ := H
    refine jm_iaload jd_Mod_runRow_53 jm_SH_111 hb7 ?_
    refine jm_cS (M' := jm_m_Mod_worked) (d' := 0) (av := [jm_I (h 99 (Int.toNat x3)), jm_I (h 111 (Int.toNat (h 101 (Int.toNat x3)))), jm_I (h 111 (Int.toNat (h 102 (Int.toNat x3))))]) jd_Mod_runRow_54 jk_Mod_worked jw_1230 rfl (by omega) ⟨rfl, rfl⟩ (by decide) (Nat.le_of_ble_eq_true rfl) (jm_hqI (fun v8 h8 H => ?_)) H
    obtain ⟨hb9, H⟩ := H
    refine jm_iastore jd_Mod_runRow_57 jm_SH_111 hb9 ?_
    refine jm_iinc jd_Mod_runRow_58 rfl (by decide) (ls2 := [some (jm_R 78), none, none, some (jm_I (jm_w32 (x3 + 1)))]) rfl ?_
    refine jm_goto (tgt := 8) jd_Mod_runRow_61 rfl ?_
    exact H
set_option maxRecDepth 4000 in
theorem jb_Mod_isWord {E : jm_Env} {x0 : Int} {h : jm_H} {K : Int → jm_H → Prop} (H : jm_CI E jm_SH jm_m_Mod_in 0 [jm_L x0, jm_L 0, jm_L 15] h (fun v1 h1 => (v1 = 0 ∨ v1 = 1) ∧ K v1 h1)) : jm_CI E jm_SH jm_m_Mod_isWord 1 [jm_I x0] h K := by
  refine jm_body (ls0 := [some (jm_I x0)]) (by decide +kernel) rfl rfl (Nat.le_of_ble_eq_true rfl) ?_
  refine jm_iload_n jd_Mod_isWord_0 rfl rfl ?_
  refine jm_i2l jd_Mod_isWord_1 ?_
  refine jm_lconst (x := 0) jd_Mod_isWord_2 ⟨by decide, jm_o64c rfl⟩ ?_
  refine jm_ldc2 (x := 15) jd_Mod_isWord_3 jc_1221 (jm_o64c rfl) ?_
  refine jm_cS (M' := jm_m_Mod_in) (d' := 0) (av := [jm_L x0, jm_L 0, jm_L 15]) jd_Mod_isWord_6 jk_Mod_in jw_978 rfl (by omega) ⟨rfl, rfl⟩ (by decide) (Nat.le_of_ble_eq_true rfl) (jm_hqI (fun v1 h1 H => ?_)) H
  exact jm_zreturn jd_Mod_isWord_9 rfl H.1 (by decide) ⟨rfl, _, rfl, H.2⟩
set_option maxRecDepth 4000 in
theorem jb_Mod_run {E : jm_Env} {x1 x2 x3 : Int} {h : jm_H} {K : Int → jm_H → Prop} (H : jm_CI E jm_SH jm_m_Mod_isWord 1 [jm_I x1] h (fun v1 h1 => ((v1 = 0) → K (-2) h1) ∧ ((¬ v1 = 0) → jm_CI E jm_SH jm_m_Mod_isWord 1 [jm_I x2] h1 (fun v3 h3 => ((v3 = 0) → K (-2) h3) ∧ ((¬ v3 = 0) → jm_CI E jm_SH jm_m_Mod_isRegister 1 [jm_I x3] h3 (fun v5 h5 => ((¬ v5 = 0) → jm_CV E jm_SH jm_m_Mod_runRow 1 [jm_R 78, jm_I x1, jm_I x2] h5 (fun h7 => (0 ≤ x3 ∧ x3 < 6) ∧ (K (h7 111 (Int.toNat x3)) h7))) ∧ ((v5 = 0) → K (-2) h5))))))) : jm_CI E jm_SH jm_m_Mod_run 2 [jm_R 78, jm_I x1, jm_I x2, jm_I x3] h K := by
  refine jm_body (ls0 := [some (jm_R 78), some (jm_I x1), some (jm_I x2), some (jm_I x3)]) (by decide +kernel) rfl rfl (Nat.le_of_ble_eq_true rfl) ?_
  refine jm_iload_n jd_Mod_run_0 rfl rfl ?_
  refine jm_cS (M' := jm_m_Mod_isWord) (d' := 1) (av := [jm_I x1]) jd_Mod_run_1 jk_Mod_isWord jw_1218 rfl (by omega) ⟨rfl, rfl⟩ (by decide) (Nat.le_of_ble_eq_true rfl) (jm_hqI (fun v1 h1 H => ?_)) H
  refine jm_if_eq (tgt := 21) jd_Mod_run_4 rfl (fun hc2 => ?_) (fun hc2 => ?_)
  · replace H := H.1 hc2
    refine jm_bipush jd_Mod_run_21 jb_m2 ?_
    exact jm_ireturn jd_Mod_run_23 rfl (by decide) ⟨rfl, _, rfl, H⟩
  · replace H := H.2 hc2
    refine jm_iload_n jd_Mod_run_7 rfl rfl ?_
    refine jm_cS (M' := jm_m_Mod_isWord) (d' := 1) (av := [jm_I x2]) jd_Mod_run_8 jk_Mod_isWord jw_1218 rfl (by omega) ⟨rfl, rfl⟩ (by decide) (Nat.le_of_ble_eq_true rfl) (jm_hqI (fun v3 h3 H => ?_)) H
    refine jm_if_eq (tgt := 21) jd_Mod_run_11 rfl (fun hc4 => ?_) (fun hc4 => ?_)
    · replace H := H.1 hc4
      refine jm_bipush jd_Mod_run_21 jb_m2 ?_
      exact jm_ireturn jd_Mod_run_23 rfl (by decide) ⟨rfl, _, rfl, H⟩
    · replace H := H.2 hc4
      refine jm_iload_n jd_Mod_run_14 rfl rfl ?_
      refine jm_cS (M' := jm_m_Mod_isRegister) (d' := 1) (av := [jm_I x3]) jd_Mod_run_15 jk_Mod_isRegister jw_1100 rfl (by omega) ⟨rfl, rfl⟩ (by decide) (Nat.le_of_ble_eq_true rfl) (jm_hqI (fun v5 h5 H => ?_)) H
      refine jm_if_ne (tgt := 24) jd_Mod_run_18 rfl (fun hc6 => ?_) (fun hc6 => ?_)
      · replace H := H.1 hc6
        refine jm_aload_n jd_Mod_run_24 rfl rfl ?_
        refine jm_iload_n jd_Mod_run_25 rfl rfl ?_
        refine jm_iload_n jd_Mod_run_26 rfl rfl ?_
        refine jm_cV (M' := jm_m_Mod_runRow) (d' := 1) (av := [jm_I x1, jm_I x2]) jd_Mod_run_27 jk_Mod_runRow jw_1222 rfl (by omega) ⟨rfl, rfl⟩ (by decide) (Nat.le_of_ble_eq_true rfl) jm_SH_78 rfl rfl (jm_hqV (fun h7 H => ?_)) H
        refine jm_aload_n jd_Mod_run_30 rfl rfl ?_
        refine jm_gR jd_Mod_run_31 jf_Mod_106 jm_SH_78 rfl ?_
        refine jm_iload_n jd_Mod_run_34 rfl rfl ?_
        obtain ⟨hb8, H⟩ := H
        refine jm_iaload jd_Mod_run_35 jm_SH_111 hb8 ?_
        exact jm_ireturn jd_Mod_run_36 rfl (by decide) ⟨rfl, _, rfl, H⟩
      · replace H := H.2 hc6
        refine jm_bipush jd_Mod_run_21 jb_m2 ?_
        exact jm_ireturn jd_Mod_run_23 rfl (by decide) ⟨rfl, _, rfl, H⟩
set_option maxRecDepth 4000 in
theorem jb_Mod_layShorts {E : jm_Env} {h : jm_H} {K : jm_H → Prop} (H : jm_BV E jm_SH jm_m_Mod_layShorts 0 4 [some (jm_R 78), some (jm_I 0), some (jm_I 0), none, none, none] [] h K) : jm_CV E jm_SH jm_m_Mod_layShorts 0 [jm_R 78] h K := by
  refine jm_body (ls0 := [some (jm_R 78), none, none, none, none, none]) (by decide +kernel) rfl rfl (Nat.le_of_ble_eq_true rfl) ?_
  refine jm_iconst jd_Mod_layShorts_0 (jm_o32c rfl) ?_
  refine jm_istore_n (i := 1) jd_Mod_layShorts_1 rfl (by decide) (ls2 := [some (jm_R 78), some (jm_I 0), none, none, none, none]) rfl ?_
  refine jm_iconst jd_Mod_layShorts_2 (jm_o32c rfl) ?_
  refine jm_istore_n (i := 2) jd_Mod_layShorts_3 rfl (by decide) (ls2 := [some (jm_R 78), some (jm_I 0), some (jm_I 0), none, none, none]) rfl ?_
  exact H
set_option maxRecDepth 4000 in
theorem jb_Mod_layShorts_4 {E : jm_Env} {x1 x2 : Int} {h : jm_H} {K : jm_H → Prop} (H : ((7 ≤ x2) → K h) ∧ ((¬ 7 ≤ x2) → jm_BV E jm_SH jm_m_Mod_layShorts 0 12 [some (jm_R 78), some (jm_I x1), some (jm_I x2), some (jm_I 0), none, none] [] h K)) : jm_BV E jm_SH jm_m_Mod_layShorts 0 4 [some (jm_R 78), some (jm_I x1), some (jm_I x2), none, none, none] [] h K := by
  refine jm_iload_n jd_Mod_layShorts_4 rfl rfl ?_
  refine jm_bipush jd_Mod_layShorts_5 jb_7 ?_
  refine jm_icmp_ge (tgt := 96) jd_Mod_layShorts_7 rfl (fun hc1 => ?_) (fun hc1 => ?_)
  · replace H := H.1 hc1
    exact jm_vreturn jd_Mod_layShorts_96 rfl (by decide) ⟨rfl, rfl, H⟩
  · replace H := H.2 hc1
    refine jm_iconst jd_Mod_layShorts_10 (jm_o32c rfl) ?_
    refine jm_istore_n (i := 3) jd_Mod_layShorts_11 rfl (by decide) (ls2 := [some (jm_R 78), some (jm_I x1), some (jm_I x2), some (jm_I 0), none, none]) rfl ?_
    exact H
set_option maxRecDepth 4000 in
theorem jb_Mod_layShorts_12 {E : jm_Env} {x1 x2 x3 : Int} {h : jm_H} {K : jm_H → Prop} (H : ((3 ≤ x3) → jm_BV E jm_SH jm_m_Mod_layShorts 0 4 [some (jm_R 78), some (jm_I x1), some (jm_I (jm_w32 (x2 + 1))), none, none, none] [] h K) ∧ ((¬ 3 ≤ x3) → jm_BV E jm_SH jm_m_Mod_layShorts 0 20 [some (jm_R 78), some (jm_I x1), some (jm_I x2), some (jm_I x3), some (jm_I 0), none] [] h K)) : jm_BV E jm_SH jm_m_Mod_layShorts 0 12 [some (jm_R 78), some (jm_I x1), some (jm_I x2), some (jm_I x3), none, none] [] h K := by
  refine jm_iload_n jd_Mod_layShorts_12 rfl rfl ?_
  refine jm_iconst jd_Mod_layShorts_13 (jm_o32c rfl) ?_
  refine jm_icmp_ge (tgt := 90) jd_Mod_layShorts_14 rfl (fun hc1 => ?_) (fun hc1 => ?_)
  · replace H := H.1 hc1
    refine jm_iinc jd_Mod_layShorts_90 rfl (by decide) (ls2 := [some (jm_R 78), some (jm_I x1), some (jm_I (jm_w32 (x2 + 1))), some (jm_I x3), none, none]) rfl ?_
    refine jm_goto (tgt := 4) jd_Mod_layShorts_93 rfl ?_
    refine jm_keepG [true, true, true, false, false, false] (ls2 := [some (jm_R 78), some (jm_I x1), some (jm_I (jm_w32 (x2 + 1))), none, none, none]) (by rfl) (by rfl) ?_
    exact H
  · replace H := H.2 hc1
    refine jm_iconst jd_Mod_layShorts_17 (jm_o32c rfl) ?_
    refine jm_istore (i := 4) jd_Mod_layShorts_18 (by decide) (ls2 := [some (jm_R 78), some (jm_I x1), some (jm_I x2), some (jm_I x3), some (jm_I 0), none]) rfl ?_
    exact H
set_option maxRecDepth 4000 in
theorem jb_Mod_layShorts_20 {E : jm_Env} {x1 x2 x3 x4 : Int} {h : jm_H} {K : jm_H → Prop} (H : ((3 ≤ x4) → jm_BV E jm_SH jm_m_Mod_layShorts 0 12 [some (jm_R 78), some (jm_I x1), some (jm_I x2), some (jm_I (jm_w32 (x3 + 1))), none, none] [] h K) ∧ ((¬ 3 ≤ x4) → jm_BV E jm_SH jm_m_Mod_layShorts 0 29 [some (jm_R 78), some (jm_I x1), some (jm_I x2), some (jm_I x3), some (jm_I x4), some (jm_I 0)] [] h K)) : jm_BV E jm_SH jm_m_Mod_layShorts 0 20 [some (jm_R 78), some (jm_I x1), some (jm_I x2), some (jm_I x3), some (jm_I x4), none] [] h K := by
  refine jm_iload jd_Mod_layShorts_20 rfl ?_
  refine jm_iconst jd_Mod_layShorts_22 (jm_o32c rfl) ?_
  refine jm_icmp_ge (tgt := 84) jd_Mod_layShorts_23 rfl (fun hc1 => ?_) (fun hc1 => ?_)
  · replace H := H.1 hc1
    refine jm_iinc jd_Mod_layShorts_84 rfl (by decide) (ls2 := [some (jm_R 78), some (jm_I x1), some (jm_I x2), some (jm_I (jm_w32 (x3 + 1))), some (jm_I x4), none]) rfl ?_
    refine jm_goto (tgt := 12) jd_Mod_layShorts_87 rfl ?_
    refine jm_keepG [true, true, true, true, false, false] (ls2 := [some (jm_R 78), some (jm_I x1), some (jm_I x2), some (jm_I (jm_w32 (x3 + 1))), none, none]) (by rfl) (by rfl) ?_
    exact H
  · replace H := H.2 hc1
    refine jm_iconst jd_Mod_layShorts_26 (jm_o32c rfl) ?_
    refine jm_istore (i := 5) jd_Mod_layShorts_27 (by decide) (ls2 := [some (jm_R 78), some (jm_I x1), some (jm_I x2), some (jm_I x3), some (jm_I x4), some (jm_I 0)]) rfl ?_
    exact H
set_option maxRecDepth 4000 in
theorem jb_Mod_layShorts_29 {E : jm_Env} {x1 x2 x3 x4 x5 : Int} {h : jm_H} {K : jm_H → Prop} (H : ((5 ≤ x2) → ((1 ≤ x5) → jm_BV E jm_SH jm_m_Mod_layShorts 0 20 [some (jm_R 78), some (jm_I x1), some (jm_I x2), some (jm_I x3), some (jm_I (jm_w32 (x4 + 1))), none] [] h K) ∧ ((¬ 1 ≤ x5) → (0 ≤ x1 ∧ x1 < 153) ∧ (jm_BV E jm_SH jm_m_Mod_layShorts 0 29 [some (jm_R 78), some (jm_I (jm_w32 (x1 + 1))), some (jm_I x2), some (jm_I x3), some (jm_I x4), some (jm_I (jm_w32 (x5 + 1)))] [] (jm_up h 113 (Int.toNat x1) (jm_w32 ((jm_w32 ((jm_w32 ((jm_w32 (1000 * x2)) + (jm_w32 (100 * x3)))) + (jm_w32 (10 * x4)))) + x5))) K))) ∧ ((¬ 5 ≤ x2) → ((3 ≤ x5) → jm_BV E jm_SH jm_m_Mod_layShorts 0 20 [some (jm_R 78), some (jm_I x1), some (jm_I x2), some (jm_I x3), some (jm_I (jm_w32 (x4 + 1))), none] [] h K) ∧ ((¬ 3 ≤ x5) → (0 ≤ x1 ∧ x1 < 153) ∧ (jm_BV E jm_SH jm_m_Mod_layShorts 0 29 [some (jm_R 78), some (jm_I (jm_w32 (x1 + 1))), some (jm_I x2), some (jm_I x3), some (jm_I x4), some (jm_I (jm_w32 (x5 + 1)))] [] (jm_up h 113 (Int.toNat x1) (jm_w32 ((jm_w32 ((jm_w32 ((jm_w32 (1000 * x2)) + (jm_w32 (100 * x3)))) + (jm_w32 (10 * x4)))) + x5))) K)))) : jm_BV E jm_SH jm_m_Mod_layShorts 0 29 [some (jm_R 78), some (jm_I x1), some (jm_I x2), some (jm_I x3), some (jm_I x4), some (jm_I x5)] [] h K := by
  refine jm_iload jd_Mod_layShorts_29 rfl ?_
  refine jm_iload_n jd_Mod_layShorts_31 rfl rfl ?_
  refine jm_iconst jd_Mod_layShorts_32 (jm_o32c rfl) ?_
  refine jm_icmp_ge (tgt := 40) jd_Mod_layShorts_33 rfl (fun hc1 => ?_) (fun hc1 => ?_)
  · replace H := H.1 hc1
    refine jm_iconst jd_Mod_layShorts_40 (jm_o32c rfl) ?_
    refine jm_icmp_ge (tgt := 78) jd_Mod_layShorts_41 rfl (fun hc2 => ?_) (fun hc2 => ?_)
    · replace H := H.1 hc2
      refine jm_iinc jd_Mod_layShorts_78 rfl (by decide) (ls2 := [some (jm_R 78), some (jm_I x1), some (jm_I x2), some (jm_I x3), some (jm_I (jm_w32 (x4 + 1))), some (jm_I x5)]) rfl ?_
      refine jm_goto (tgt := 20) jd_Mod_layShorts_81 rfl ?_
      refine jm_keepG [true, true, true, true, true, false] (ls2 := [some (jm_R 78), some (jm_I x1), some (jm_I x2), some (jm_I x3), some (jm_I (jm_w32 (x4 + 1))), none]) (by rfl) (by rfl) ?_
      exact H
    · replace H := H.2 hc2
      refine jm_aload_n jd_Mod_layShorts_44 rfl rfl ?_
      refine jm_gR jd_Mod_layShorts_45 jf_Mod_112 jm_SH_78 rfl ?_
      refine jm_iload_n jd_Mod_layShorts_48 rfl rfl ?_
      refine jm_sipush jd_Mod_layShorts_49 js_1000 ?_
      refine jm_iload_n jd_Mod_layShorts_52 rfl rfl ?_
      refine jm_imul jd_Mod_layShorts_53 ?_
      refine jm_bipush jd_Mod_layShorts_54 jb_100 ?_
      refine jm_iload_n jd_Mod_layShorts_56 rfl rfl ?_
      refine jm_imul jd_Mod_layShorts_57 ?_
      refine jm_iadd jd_Mod_layShorts_58 ?_
      refine jm_bipush jd_Mod_layShorts_59 jb_10 ?_
      refine jm_iload jd_Mod_layShorts_61 rfl ?_
      refine jm_imul jd_Mod_layShorts_63 ?_
      refine jm_iadd jd_Mod_layShorts_64 ?_
      refine jm_iload jd_Mod_layShorts_65 rfl ?_
      refine jm_iadd jd_Mod_layShorts_67 ?_
      obtain ⟨hb3, H⟩ := H
      refine jm_iastore jd_Mod_layShorts_68 jm_SH_113 hb3 ?_
      refine jm_iinc jd_Mod_layShorts_69 rfl (by decide) (ls2 := [some (jm_R 78), some (jm_I (jm_w32 (x1 + 1))), some (jm_I x2), some (jm_I x3), some (jm_I x4), some (jm_I x5)]) rfl ?_
      refine jm_iinc jd_Mod_layShorts_72 rfl (by decide) (ls2 := [some (jm_R 78), some (jm_I (jm_w32 (x1 + 1))), some (jm_I x2), some (jm_I x3), some (jm_I x4), some (jm_I (jm_w32 (x5 + 1)))]) rfl ?_
      refine jm_goto (tgt := 29) jd_Mod_layShorts_75 rfl ?_
      exact H
  · replace H := H.2 hc1
    refine jm_iconst jd_Mod_layShorts_36 (jm_o32c rfl) ?_
    refine jm_goto (tgt := 41) jd_Mod_layShorts_37 rfl ?_
    refine jm_icmp_ge (tgt := 78) jd_Mod_layShorts_41 rfl (fun hc4 => ?_) (fun hc4 => ?_)
    · replace H := H.1 hc4
      refine jm_iinc jd_Mod_layShorts_78 rfl (by decide) (ls2 := [some (jm_R 78), some (jm_I x1), some (jm_I x2), some (jm_I x3), some (jm_I (jm_w32 (x4 + 1))), some (jm_I x5)]) rfl ?_
      refine jm_goto (tgt := 20) jd_Mod_layShorts_81 rfl ?_
      refine jm_keepG [true, true, true, true, true, false] (ls2 := [some (jm_R 78), some (jm_I x1), some (jm_I x2), some (jm_I x3), some (jm_I (jm_w32 (x4 + 1))), none]) (by rfl) (by rfl) ?_
      exact H
    · replace H := H.2 hc4
      refine jm_aload_n jd_Mod_layShorts_44 rfl rfl ?_
      refine jm_gR jd_Mod_layShorts_45 jf_Mod_112 jm_SH_78 rfl ?_
      refine jm_iload_n jd_Mod_layShorts_48 rfl rfl ?_
      refine jm_sipush jd_Mod_layShorts_49 js_1000 ?_
      refine jm_iload_n jd_Mod_layShorts_52 rfl rfl ?_
      refine jm_imul jd_Mod_layShorts_53 ?_
      refine jm_bipush jd_Mod_layShorts_54 jb_100 ?_
      refine jm_iload_n jd_Mod_layShorts_56 rfl rfl ?_
      refine jm_imul jd_Mod_layShorts_57 ?_
      refine jm_iadd jd_Mod_layShorts_58 ?_
      refine jm_bipush jd_Mod_layShorts_59 jb_10 ?_
      refine jm_iload jd_Mod_layShorts_61 rfl ?_
      refine jm_imul jd_Mod_layShorts_63 ?_
      refine jm_iadd jd_Mod_layShorts_64 ?_
      refine jm_iload jd_Mod_layShorts_65 rfl ?_
      refine jm_iadd jd_Mod_layShorts_67 ?_
      obtain ⟨hb5, H⟩ := H
      refine jm_iastore jd_Mod_layShorts_68 jm_SH_113 hb5 ?_
      refine jm_iinc jd_Mod_layShorts_69 rfl (by decide) (ls2 := [some (jm_R 78), some (jm_I (jm_w32 (x1 + 1))), some (jm_I x2), some (jm_I x3), some (jm_I x4), some (jm_I x5)]) rfl ?_
      refine jm_iinc jd_Mod_layShorts_72 rfl (by decide) (ls2 := [some (jm_R 78), some (jm_I (jm_w32 (x1 + 1))), some (jm_I x2), some (jm_I x3), some (jm_I x4), some (jm_I (jm_w32 (x5 + 1)))]) rfl ?_
      refine jm_goto (tgt := 29) jd_Mod_layShorts_75 rfl ?_
      exact H
set_option maxRecDepth 4000 in
theorem jb_Mod_isAlike {E : jm_Env} {x1 : Int} {h : jm_H} {K : Int → jm_H → Prop} (H : jm_BI E jm_SH jm_m_Mod_isAlike 1 2 [some (jm_R 78), some (jm_I x1), some (jm_I 0), none, none] [] h K) : jm_CI E jm_SH jm_m_Mod_isAlike 1 [jm_R 78, jm_I x1] h K := by
  refine jm_body (ls0 := [some (jm_R 78), some (jm_I x1), none, none, none]) (by decide +kernel) rfl rfl (Nat.le_of_ble_eq_true rfl) ?_
  refine jm_iconst jd_Mod_isAlike_0 (jm_o32c rfl) ?_
  refine jm_istore_n (i := 2) jd_Mod_isAlike_1 rfl (by decide) (ls2 := [some (jm_R 78), some (jm_I x1), some (jm_I 0), none, none]) rfl ?_
  exact H
set_option maxRecDepth 4000 in
theorem jb_Mod_isAlike_2 {E : jm_Env} {x1 x2 : Int} {h : jm_H} {K : Int → jm_H → Prop} (H : ((256 ≤ x2) → K 1 h) ∧ ((¬ 256 ≤ x2) → jm_CV E jm_SH jm_m_Mod_begin 0 [jm_R 78, jm_I (jv_div x2 16), jm_I (jv_rem x2 16)] h (fun h2 => jm_BI E jm_SH jm_m_Mod_isAlike 1 23 [some (jm_R 78), some (jm_I x1), some (jm_I x2), some (jm_I 0), none] [] h2 K))) : jm_BI E jm_SH jm_m_Mod_isAlike 1 2 [some (jm_R 78), some (jm_I x1), some (jm_I x2), none, none] [] h K := by
  refine jm_iload_n jd_Mod_isAlike_2 rfl rfl ?_
  refine jm_sipush jd_Mod_isAlike_3 js_256 ?_
  refine jm_icmp_ge (tgt := 115) jd_Mod_isAlike_6 rfl (fun hc1 => ?_) (fun hc1 => ?_)
  · replace H := H.1 hc1
    refine jm_iconst jd_Mod_isAlike_115 (jm_o32c rfl) ?_
    exact jm_zreturn jd_Mod_isAlike_116 rfl (Or.inr rfl) (by decide) ⟨rfl, _, rfl, H⟩
  · replace H := H.2 hc1
    refine jm_aload_n jd_Mod_isAlike_9 rfl rfl ?_
    refine jm_iload_n jd_Mod_isAlike_10 rfl rfl ?_
    refine jm_bipush jd_Mod_isAlike_11 jb_16 ?_
    refine jm_idiv jd_Mod_isAlike_13 (by decide) ?_
    refine jm_iload_n jd_Mod_isAlike_14 rfl rfl ?_
    refine jm_bipush jd_Mod_isAlike_15 jb_16 ?_
    refine jm_irem jd_Mod_isAlike_17 (by decide) ?_
    refine jm_cV (M' := jm_m_Mod_begin) (d' := 0) (av := [jm_I (jv_div x2 16), jm_I (jv_rem x2 16)]) jd_Mod_isAlike_18 jk_Mod_begin jw_1226 rfl (by omega) ⟨rfl, rfl⟩ (by decide) (Nat.le_of_ble_eq_true rfl) jm_SH_78 rfl rfl (jm_hqV (fun h2 H => ?_)) H
    refine jm_iconst jd_Mod_isAlike_21 (jm_o32c rfl) ?_
    refine jm_istore_n (i := 3) jd_Mod_isAlike_22 rfl (by decide) (ls2 := [some (jm_R 78), some (jm_I x1), some (jm_I x2), some (jm_I 0), none]) rfl ?_
    exact H
set_option maxRecDepth 4000 in
theorem jb_Mod_isAlike_23 {E : jm_Env} {x1 x2 x3 : Int} {h : jm_H} {K : Int → jm_H → Prop} (H : ((x1 ≤ x3) → (0 ≤ x2 ∧ x2 < 256) ∧ (((h 111 0 = h 112 (Int.toNat x2)) → jm_BI E jm_SH jm_m_Mod_isAlike 1 2 [some (jm_R 78), some (jm_I x1), some (jm_I (jm_w32 (x2 + 1))), none, none] [] h K) ∧ ((¬ h 111 0 = h 112 (Int.toNat x2)) → K 0 h))) ∧ ((¬ x1 ≤ x3) → (0 ≤ x3 ∧ x3 < 3) ∧ ((0 ≤ h 114 (Int.toNat x3) ∧ h 114 (Int.toNat x3) < 153) ∧ ((0 ≤ jv_rem (jv_div (h 113 (Int.toNat (h 114 (Int.toNat x3)))) 10) 10 ∧ jv_rem (jv_div (h 113 (Int.toNat (h 114 (Int.toNat x3)))) 10) 10 < 6) ∧ ((0 ≤ jv_rem (h 113 (Int.toNat (h 114 (Int.toNat x3)))) 10 ∧ jv_rem (h 113 (Int.toNat (h 114 (Int.toNat x3)))) 10 < 6) ∧ (jm_CI E jm_SH jm_m_Mod_worked 0 [jm_I (jv_div (h 113 (Int.toNat (h 114 (Int.toNat x3)))) 1000), jm_I (h 111 (Int.toNat (jv_rem (jv_div (h 113 (Int.toNat (h 114 (Int.toNat x3)))) 10) 10))), jm_I (h 111 (Int.toNat (jv_rem (h 113 (Int.toNat (h 114 (Int.toNat x3)))) 10)))] h (fun v8 h8 => (0 ≤ jv_rem (jv_div (h 113 (Int.toNat (h 114 (Int.toNat x3)))) 100) 10 ∧ jv_rem (jv_div (h 113 (Int.toNat (h 114 (Int.toNat x3)))) 100) 10 < 6) ∧ (jm_BI E jm_SH jm_m_Mod_isAlike 1 23 [some (jm_R 78), some (jm_I x1), some (jm_I x2), some (jm_I (jm_w32 (x3 + 1))), none] [] (jm_up h8 111 (Int.toNat (jv_rem (jv_div (h 113 (Int.toNat (h 114 (Int.toNat x3)))) 100) 10)) v8) K)))))))) : jm_BI E jm_SH jm_m_Mod_isAlike 1 23 [some (jm_R 78), some (jm_I x1), some (jm_I x2), some (jm_I x3), none] [] h K := by
  refine jm_iload_n jd_Mod_isAlike_23 rfl rfl ?_
  refine jm_iload_n jd_Mod_isAlike_24 rfl rfl ?_
  refine jm_icmp_ge (tgt := 92) jd_Mod_isAlike_25 rfl (fun hc1 => ?_) (fun hc1 => ?_)
  · replace H := H.1 hc1
    refine jm_aload_n jd_Mod_isAlike_92 rfl rfl ?_
    refine jm_gR jd_Mod_isAlike_93 jf_Mod_106 jm_SH_78 rfl ?_
    refine jm_iconst jd_Mod_isAlike_96 (jm_o32c rfl) ?_
    refine jm_iaload jd_Mod_isAlike_97 jm_SH_111 (by decide) ?_
    refine jm_topI (y := h 111 0) rfl ?_
    refine jm_aload_n jd_Mod_isAlike_98 rfl rfl ?_
    refine jm_gR jd_Mod_isAlike_99 jf_Mod_109 jm_SH_78 rfl ?_
    refine jm_iload_n jd_Mod_isAlike_102 rfl rfl ?_
    obtain ⟨hb2, H⟩ := H
    refine jm_iaload jd_Mod_isAlike_103 jm_SH_112 hb2 ?_
    refine jm_icmp_eq (tgt := 109) jd_Mod_isAlike_104 rfl (fun hc3 => ?_) (fun hc3 => ?_)
    · replace H := H.1 hc3
      refine jm_iinc jd_Mod_isAlike_109 rfl (by decide) (ls2 := [some (jm_R 78), some (jm_I x1), some (jm_I (jm_w32 (x2 + 1))), some (jm_I x3), none]) rfl ?_
      refine jm_goto (tgt := 2) jd_Mod_isAlike_112 rfl ?_
      refine jm_keepG [true, true, true, false, false] (ls2 := [some (jm_R 78), some (jm_I x1), some (jm_I (jm_w32 (x2 + 1))), none, none]) (by rfl) (by rfl) ?_
      exact H
    · replace H := H.2 hc3
      refine jm_iconst jd_Mod_isAlike_107 (jm_o32c rfl) ?_
      exact jm_zreturn jd_Mod_isAlike_108 rfl (Or.inl rfl) (by decide) ⟨rfl, _, rfl, H⟩
  · replace H := H.2 hc1
    refine jm_aload_n jd_Mod_isAlike_28 rfl rfl ?_
    refine jm_gR jd_Mod_isAlike_29 jf_Mod_112 jm_SH_78 rfl ?_
    refine jm_aload_n jd_Mod_isAlike_32 rfl rfl ?_
    refine jm_gR jd_Mod_isAlike_33 jf_Mod_115 jm_SH_78 rfl ?_
    refine jm_iload_n jd_Mod_isAlike_36 rfl rfl ?_
    obtain ⟨hb4, H⟩ := H
    refine jm_iaload jd_Mod_isAlike_37 jm_SH_114 hb4 ?_
    obtain ⟨hb5, H⟩ := H
    refine jm_iaload jd_Mod_isAlike_38 jm_SH_113 hb5 ?_
    refine jm_istore (i := 4) jd_Mod_isAlike_39 (by decide) (ls2 := [some (jm_R 78), some (jm_I x1), some (jm_I x2), some (jm_I x3), some (jm_I (h 113 (Int.toNat (h 114 (Int.toNat x3)))))]) rfl ?_
    refine jm_aload_n jd_Mod_isAlike_41 rfl rfl ?_
    refine jm_gR jd_Mod_isAlike_42 jf_Mod_106 jm_SH_78 rfl ?_
    refine jm_iload jd_Mod_isAlike_45 rfl ?_
    refine jm_bipush jd_Mod_isAlike_47 jb_100 ?_
    refine jm_idiv jd_Mod_isAlike_49 (by decide) ?_
    refine jm_bipush jd_Mod_isAlike_50 jb_10 ?_
    refine jm_irem jd_Mod_isAlike_52 (by decide) ?_
    refine jm_iload jd_Mod_isAlike_53 rfl ?_
    refine jm_sipush jd_Mod_isAlike_55 js_1000 ?_
    refine jm_idiv jd_Mod_isAlike_58 (by decide) ?_
    refine jm_aload_n jd_Mod_isAlike_59 rfl rfl ?_
    refine jm_gR jd_Mod_isAlike_60 jf_Mod_106 jm_SH_78 rfl ?_
    refine jm_iload jd_Mod_isAlike_63 rfl ?_
    refine jm_bipush jd_Mod_isAlike_65 jb_10 ?_
    refine jm_idiv jd_Mod_isAlike_67 (by decide) ?_
    refine jm_bipush jd_Mod_isAlike_68 jb_10 ?_
    refine jm_irem jd_Mod_isAlike_70 (by decide) ?_
    obtain ⟨hb6, H⟩ := H
    refine jm_iaload jd_Mod_isAlike_71 jm_SH_111 hb6 ?_
    refine jm_aload_n jd_Mod_isAlike_72 rfl rfl ?_
    refine jm_gR jd_Mod_isAlike_73 jf_Mod_106 jm_SH_78 rfl ?_
    refine jm_iload jd_Mod_isAlike_76 rfl ?_
    refine jm_bipush jd_Mod_isAlike_78 jb_10 ?_
    refine jm_irem jd_Mod_isAlike_80 (by decide) ?_
    obtain ⟨hb7, H⟩ := H
    refine jm_iaload jd_Mod_isAlike_81 jm_SH_111 hb7 ?_
    refine jm_cS (M' := jm_m_Mod_worked) (d' := 0) (av := [jm_I (jv_div (h 113 (Int.toNat (h 114 (Int.toNat x3)))) 1000), jm_I (h 111 (Int.toNat (jv_rem (jv_div (h 113 (Int.toNat (h 114 (Int.toNat x3)))) 10) 10))), jm_I (h 111 (Int.toNat (jv_rem (h 113 (Int.toNat (h 114 (Int.toNat x3)))) 10)))]) jd_Mod_isAlike_82 jk_Mod_worked jw_1230 rfl (by omega) ⟨rfl, rfl⟩ (by decide) (Nat.le_of_ble_eq_true rfl) (jm_hqI (fun v8 h8 H => ?_)) H
    obtain ⟨hb9, H⟩ := H
    refine jm_iastore jd_Mod_isAlike_85 jm_SH_111 hb9 ?_
    refine jm_iinc jd_Mod_isAlike_86 rfl (by decide) (ls2 := [some (jm_R 78), some (jm_I x1), some (jm_I x2), some (jm_I (jm_w32 (x3 + 1))), some (jm_I (h 113 (Int.toNat (h 114 (Int.toNat x3)))))]) rfl ?_
    refine jm_goto (tgt := 23) jd_Mod_isAlike_89 rfl ?_
    refine jm_keepG [true, true, true, true, false] (ls2 := [some (jm_R 78), some (jm_I x1), some (jm_I x2), some (jm_I (jm_w32 (x3 + 1))), none]) (by rfl) (by rfl) ?_
    exact H
set_option maxRecDepth 4000 in
theorem jb_Mod_findRow {E : jm_Env} {x1 : Int} {h : jm_H} {K : Int → jm_H → Prop} (H : ((¬ x1 = 0) → ((¬ x1 = 1) → ((¬ x1 = 2) → jm_BI E jm_SH jm_m_Mod_findRow 2 36 [some (jm_R 78), some (jm_I x1), some (jm_I 3581577), some (jm_I 0), none, none] [] h K) ∧ ((x1 = 2) → jm_BI E jm_SH jm_m_Mod_findRow 2 36 [some (jm_R 78), some (jm_I x1), some (jm_I 23409), some (jm_I 0), none, none] [] h K)) ∧ ((x1 = 1) → jm_BI E jm_SH jm_m_Mod_findRow 2 36 [some (jm_R 78), some (jm_I x1), some (jm_I 153), some (jm_I 0), none, none] [] h K)) ∧ ((x1 = 0) → jm_BI E jm_SH jm_m_Mod_findRow 2 36 [some (jm_R 78), some (jm_I x1), some (jm_I 1), some (jm_I 0), none, none] [] h K)) : jm_CI E jm_SH jm_m_Mod_findRow 2 [jm_R 78, jm_I x1] h K := by
  refine jm_body (ls0 := [some (jm_R 78), some (jm_I x1), none, none, none, none]) (by decide +kernel) rfl rfl (Nat.le_of_ble_eq_true rfl) ?_
  refine jm_iload_n jd_Mod_findRow_0 rfl rfl ?_
  refine jm_if_ne (tgt := 8) jd_Mod_findRow_1 rfl (fun hc1 => ?_) (fun hc1 => ?_)
  · replace H := H.1 hc1
    refine jm_iload_n jd_Mod_findRow_8 rfl rfl ?_
    refine jm_iconst jd_Mod_findRow_9 (jm_o32c rfl) ?_
    refine jm_icmp_ne (tgt := 19) jd_Mod_findRow_10 rfl (fun hc2 => ?_) (fun hc2 => ?_)
    · replace H := H.1 hc2
      refine jm_iload_n jd_Mod_findRow_19 rfl rfl ?_
      refine jm_iconst jd_Mod_findRow_20 (jm_o32c rfl) ?_
      refine jm_icmp_ne (tgt := 30) jd_Mod_findRow_21 rfl (fun hc3 => ?_) (fun hc3 => ?_)
      · replace H := H.1 hc3
        refine jm_ldcw (x := 3581577) jd_Mod_findRow_30 jc_1246 (jm_o32c rfl) ?_
        refine jm_istore_n (i := 2) jd_Mod_findRow_33 rfl (by decide) (ls2 := [some (jm_R 78), some (jm_I x1), some (jm_I 3581577), none, none, none]) rfl ?_
        refine jm_iconst jd_Mod_findRow_34 (jm_o32c rfl) ?_
        refine jm_istore_n (i := 3) jd_Mod_findRow_35 rfl (by decide) (ls2 := [some (jm_R 78), some (jm_I x1), some (jm_I 3581577), some (jm_I 0), none, none]) rfl ?_
        exact H
      · replace H := H.2 hc3
        refine jm_sipush jd_Mod_findRow_24 js_23409 ?_
        refine jm_goto (tgt := 33) jd_Mod_findRow_27 rfl ?_
        refine jm_istore_n (i := 2) jd_Mod_findRow_33 rfl (by decide) (ls2 := [some (jm_R 78), some (jm_I x1), some (jm_I 23409), none, none, none]) rfl ?_
        refine jm_iconst jd_Mod_findRow_34 (jm_o32c rfl) ?_
        refine jm_istore_n (i := 3) jd_Mod_findRow_35 rfl (by decide) (ls2 := [some (jm_R 78), some (jm_I x1), some (jm_I 23409), some (jm_I 0), none, none]) rfl ?_
        exact H
    · replace H := H.2 hc2
      refine jm_sipush jd_Mod_findRow_13 js_153 ?_
      refine jm_goto (tgt := 33) jd_Mod_findRow_16 rfl ?_
      refine jm_istore_n (i := 2) jd_Mod_findRow_33 rfl (by decide) (ls2 := [some (jm_R 78), some (jm_I x1), some (jm_I 153), none, none, none]) rfl ?_
      refine jm_iconst jd_Mod_findRow_34 (jm_o32c rfl) ?_
      refine jm_istore_n (i := 3) jd_Mod_findRow_35 rfl (by decide) (ls2 := [some (jm_R 78), some (jm_I x1), some (jm_I 153), some (jm_I 0), none, none]) rfl ?_
      exact H
  · replace H := H.2 hc1
    refine jm_iconst jd_Mod_findRow_4 (jm_o32c rfl) ?_
    refine jm_goto (tgt := 33) jd_Mod_findRow_5 rfl ?_
    refine jm_istore_n (i := 2) jd_Mod_findRow_33 rfl (by decide) (ls2 := [some (jm_R 78), some (jm_I x1), some (jm_I 1), none, none, none]) rfl ?_
    refine jm_iconst jd_Mod_findRow_34 (jm_o32c rfl) ?_
    refine jm_istore_n (i := 3) jd_Mod_findRow_35 rfl (by decide) (ls2 := [some (jm_R 78), some (jm_I x1), some (jm_I 1), some (jm_I 0), none, none]) rfl ?_
    exact H
set_option maxRecDepth 4000 in
theorem jb_Mod_findRow_36 {E : jm_Env} {x1 x2 x3 : Int} {h : jm_H} {K : Int → jm_H → Prop} (H : ((x2 ≤ x3) → K 0 h) ∧ ((¬ x2 ≤ x3) → jm_BI E jm_SH jm_m_Mod_findRow 2 49 [some (jm_R 78), some (jm_I x1), some (jm_I x2), some (jm_I x3), some (jm_I x3), some (jm_I (jm_w32 (x1 - 1)))] [] h K)) : jm_BI E jm_SH jm_m_Mod_findRow 2 36 [some (jm_R 78), some (jm_I x1), some (jm_I x2), some (jm_I x3), none, none] [] h K := by
  refine jm_iload_n jd_Mod_findRow_36 rfl rfl ?_
  refine jm_iload_n jd_Mod_findRow_37 rfl rfl ?_
  refine jm_icmp_ge (tgt := 97) jd_Mod_findRow_38 rfl (fun hc1 => ?_) (fun hc1 => ?_)
  · replace H := H.1 hc1
    refine jm_iconst jd_Mod_findRow_97 (jm_o32c rfl) ?_
    exact jm_zreturn jd_Mod_findRow_98 rfl (Or.inl rfl) (by decide) ⟨rfl, _, rfl, H⟩
  · replace H := H.2 hc1
    refine jm_iload_n jd_Mod_findRow_41 rfl rfl ?_
    refine jm_istore (i := 4) jd_Mod_findRow_42 (by decide) (ls2 := [some (jm_R 78), some (jm_I x1), some (jm_I x2), some (jm_I x3), some (jm_I x3), none]) rfl ?_
    refine jm_iload_n jd_Mod_findRow_44 rfl rfl ?_
    refine jm_iconst jd_Mod_findRow_45 (jm_o32c rfl) ?_
    refine jm_isub jd_Mod_findRow_46 ?_
    refine jm_istore (i := 5) jd_Mod_findRow_47 (by decide) (ls2 := [some (jm_R 78), some (jm_I x1), some (jm_I x2), some (jm_I x3), some (jm_I x3), some (jm_I (jm_w32 (x1 - 1)))]) rfl ?_
    exact H
set_option maxRecDepth 4000 in
theorem jb_Mod_findRow_49 {E : jm_Env} {x1 x2 x3 x4 x5 : Int} {h : jm_H} {K : Int → jm_H → Prop} (H : ((x5 < 0) → jm_CI E jm_SH jm_m_Mod_isAlike 1 [jm_R 78, jm_I x1] h (fun v2 h2 => ((v2 = 0) → jm_BI E jm_SH jm_m_Mod_findRow 2 36 [some (jm_R 78), some (jm_I x1), some (jm_I x2), some (jm_I (jm_w32 (x3 + 1))), none, none] [] h2 K) ∧ ((¬ v2 = 0) → K 1 h2))) ∧ ((¬ x5 < 0) → (0 ≤ x5 ∧ x5 < 3) ∧ (jm_BI E jm_SH jm_m_Mod_findRow 2 49 [some (jm_R 78), some (jm_I x1), some (jm_I x2), some (jm_I x3), some (jm_I (jv_div x4 153)), some (jm_I (jm_w32 (x5 + (-1))))] [] (jm_up h 114 (Int.toNat x5) (jv_rem x4 153)) K))) : jm_BI E jm_SH jm_m_Mod_findRow 2 49 [some (jm_R 78), some (jm_I x1), some (jm_I x2), some (jm_I x3), some (jm_I x4), some (jm_I x5)] [] h K := by
  refine jm_iload jd_Mod_findRow_49 rfl ?_
  refine jm_if_lt (tgt := 81) jd_Mod_findRow_51 rfl (fun hc1 => ?_) (fun hc1 => ?_)
  · replace H := H.1 hc1
    refine jm_aload_n jd_Mod_findRow_81 rfl rfl ?_
    refine jm_iload_n jd_Mod_findRow_82 rfl rfl ?_
    refine jm_cV (M' := jm_m_Mod_isAlike) (d' := 1) (av := [jm_I x1]) jd_Mod_findRow_83 jk_Mod_isAlike jw_1247 rfl (by omega) ⟨rfl, rfl⟩ (by decide) (Nat.le_of_ble_eq_true rfl) jm_SH_78 rfl rfl (jm_hqI (fun v2 h2 H => ?_)) H
    refine jm_if_eq (tgt := 91) jd_Mod_findRow_86 rfl (fun hc3 => ?_) (fun hc3 => ?_)
    · replace H := H.1 hc3
      refine jm_iinc jd_Mod_findRow_91 rfl (by decide) (ls2 := [some (jm_R 78), some (jm_I x1), some (jm_I x2), some (jm_I (jm_w32 (x3 + 1))), some (jm_I x4), some (jm_I x5)]) rfl ?_
      refine jm_goto (tgt := 36) jd_Mod_findRow_94 rfl ?_
      refine jm_keepG [true, true, true, true, false, false] (ls2 := [some (jm_R 78), some (jm_I x1), some (jm_I x2), some (jm_I (jm_w32 (x3 + 1))), none, none]) (by rfl) (by rfl) ?_
      exact H
    · replace H := H.2 hc3
      refine jm_iconst jd_Mod_findRow_89 (jm_o32c rfl) ?_
      exact jm_zreturn jd_Mod_findRow_90 rfl (Or.inr rfl) (by decide) ⟨rfl, _, rfl, H⟩
  · replace H := H.2 hc1
    refine jm_aload_n jd_Mod_findRow_54 rfl rfl ?_
    refine jm_gR jd_Mod_findRow_55 jf_Mod_115 jm_SH_78 rfl ?_
    refine jm_iload jd_Mod_findRow_58 rfl ?_
    refine jm_iload jd_Mod_findRow_60 rfl ?_
    refine jm_sipush jd_Mod_findRow_62 js_153 ?_
    refine jm_irem jd_Mod_findRow_65 (by decide) ?_
    obtain ⟨hb4, H⟩ := H
    refine jm_iastore jd_Mod_findRow_66 jm_SH_114 hb4 ?_
    refine jm_iload jd_Mod_findRow_67 rfl ?_
    refine jm_sipush jd_Mod_findRow_69 js_153 ?_
    refine jm_idiv jd_Mod_findRow_72 (by decide) ?_
    refine jm_istore (i := 4) jd_Mod_findRow_73 (by decide) (ls2 := [some (jm_R 78), some (jm_I x1), some (jm_I x2), some (jm_I x3), some (jm_I (jv_div x4 153)), some (jm_I x5)]) rfl ?_
    refine jm_iinc jd_Mod_findRow_75 rfl (by decide) (ls2 := [some (jm_R 78), some (jm_I x1), some (jm_I x2), some (jm_I x3), some (jm_I (jv_div x4 153)), some (jm_I (jm_w32 (x5 + (-1))))]) rfl ?_
    refine jm_goto (tgt := 49) jd_Mod_findRow_78 rfl ?_
    exact H
set_option maxRecDepth 4000 in
theorem jb_Mod_shortest {E : jm_Env} {x1 x2 : Int} {h : jm_H} {K : Int → jm_H → Prop} (H : jm_CI E jm_SH jm_m_Mod_in 0 [jm_L x1, jm_L 0, jm_L 3] h (fun v1 h1 => ((¬ v1 = 0) → jm_CV E jm_SH jm_m_Mod_layShorts 0 [jm_R 78] h1 (fun h3 => jm_BI E jm_SH jm_m_Mod_shortest 3 21 [some (jm_R 78), some (jm_I x1), some (jm_I x2), some (jm_I 0), none] [] h3 K)) ∧ ((v1 = 0) → K (-2) h1))) : jm_CI E jm_SH jm_m_Mod_shortest 3 [jm_R 78, jm_I x1, jm_I x2] h K := by
  refine jm_body (ls0 := [some (jm_R 78), some (jm_I x1), some (jm_I x2), none, none]) (by decide +kernel) rfl rfl (Nat.le_of_ble_eq_true rfl) ?_
  refine jm_iload_n jd_Mod_shortest_0 rfl rfl ?_
  refine jm_i2l jd_Mod_shortest_1 ?_
  refine jm_lconst (x := 0) jd_Mod_shortest_2 ⟨by decide, jm_o64c rfl⟩ ?_
  refine jm_ldc2 (x := 3) jd_Mod_shortest_3 jc_1237 (jm_o64c rfl) ?_
  refine jm_cS (M' := jm_m_Mod_in) (d' := 0) (av := [jm_L x1, jm_L 0, jm_L 3]) jd_Mod_shortest_6 jk_Mod_in jw_978 rfl (by omega) ⟨rfl, rfl⟩ (by decide) (Nat.le_of_ble_eq_true rfl) (jm_hqI (fun v1 h1 H => ?_)) H
  refine jm_if_ne (tgt := 15) jd_Mod_shortest_9 rfl (fun hc2 => ?_) (fun hc2 => ?_)
  · replace H := H.1 hc2
    refine jm_aload_n jd_Mod_shortest_15 rfl rfl ?_
    refine jm_cV (M' := jm_m_Mod_layShorts) (d' := 0) (av := []) jd_Mod_shortest_16 jk_Mod_layShorts jw_1238 rfl (by omega) ⟨rfl, rfl⟩ (by decide) (Nat.le_of_ble_eq_true rfl) jm_SH_78 rfl rfl (jm_hqV (fun h3 H => ?_)) H
    refine jm_iconst jd_Mod_shortest_19 (jm_o32c rfl) ?_
    refine jm_istore_n (i := 3) jd_Mod_shortest_20 rfl (by decide) (ls2 := [some (jm_R 78), some (jm_I x1), some (jm_I x2), some (jm_I 0), none]) rfl ?_
    exact H
  · replace H := H.2 hc2
    refine jm_bipush jd_Mod_shortest_12 jb_m2 ?_
    exact jm_ireturn jd_Mod_shortest_14 rfl (by decide) ⟨rfl, _, rfl, H⟩
set_option maxRecDepth 4000 in
theorem jb_Mod_shortest_21 {E : jm_Env} {x1 x2 x3 : Int} {h : jm_H} {K : Int → jm_H → Prop} (H : ((256 ≤ x3) → jm_BI E jm_SH jm_m_Mod_shortest 3 64 [some (jm_R 78), some (jm_I x1), some (jm_I x2), some (jm_I (-6)), some (jm_I 0)] [] h K) ∧ ((¬ 256 ≤ x3) → jm_CV E jm_SH jm_m_Mod_runRow 1 [jm_R 78, jm_I (jv_div x3 16), jm_I (jv_rem x3 16)] h (fun h2 => (0 ≤ x3 ∧ x3 < 256) ∧ (jm_BI E jm_SH jm_m_Mod_shortest 3 21 [some (jm_R 78), some (jm_I x1), some (jm_I x2), some (jm_I (jm_w32 (x3 + 1))), none] [] (jm_up h2 112 (Int.toNat x3) (h2 111 0)) K)))) : jm_BI E jm_SH jm_m_Mod_shortest 3 21 [some (jm_R 78), some (jm_I x1), some (jm_I x2), some (jm_I x3), none] [] h K := by
  refine jm_iload_n jd_Mod_shortest_21 rfl rfl ?_
  refine jm_sipush jd_Mod_shortest_22 js_256 ?_
  refine jm_icmp_ge (tgt := 58) jd_Mod_shortest_25 rfl (fun hc1 => ?_) (fun hc1 => ?_)
  · replace H := H.1 hc1
    refine jm_bipush jd_Mod_shortest_58 jb_m6 ?_
    refine jm_istore_n (i := 3) jd_Mod_shortest_60 rfl (by decide) (ls2 := [some (jm_R 78), some (jm_I x1), some (jm_I x2), some (jm_I (-6)), none]) rfl ?_
    refine jm_iconst jd_Mod_shortest_61 (jm_o32c rfl) ?_
    refine jm_istore (i := 4) jd_Mod_shortest_62 (by decide) (ls2 := [some (jm_R 78), some (jm_I x1), some (jm_I x2), some (jm_I (-6)), some (jm_I 0)]) rfl ?_
    exact H
  · replace H := H.2 hc1
    refine jm_aload_n jd_Mod_shortest_28 rfl rfl ?_
    refine jm_iload_n jd_Mod_shortest_29 rfl rfl ?_
    refine jm_bipush jd_Mod_shortest_30 jb_16 ?_
    refine jm_idiv jd_Mod_shortest_32 (by decide) ?_
    refine jm_iload_n jd_Mod_shortest_33 rfl rfl ?_
    refine jm_bipush jd_Mod_shortest_34 jb_16 ?_
    refine jm_irem jd_Mod_shortest_36 (by decide) ?_
    refine jm_cV (M' := jm_m_Mod_runRow) (d' := 1) (av := [jm_I (jv_div x3 16), jm_I (jv_rem x3 16)]) jd_Mod_shortest_37 jk_Mod_runRow jw_1222 rfl (by omega) ⟨rfl, rfl⟩ (by decide) (Nat.le_of_ble_eq_true rfl) jm_SH_78 rfl rfl (jm_hqV (fun h2 H => ?_)) H
    refine jm_aload_n jd_Mod_shortest_40 rfl rfl ?_
    refine jm_gR jd_Mod_shortest_41 jf_Mod_109 jm_SH_78 rfl ?_
    refine jm_iload_n jd_Mod_shortest_44 rfl rfl ?_
    refine jm_aload_n jd_Mod_shortest_45 rfl rfl ?_
    refine jm_gR jd_Mod_shortest_46 jf_Mod_106 jm_SH_78 rfl ?_
    refine jm_iconst jd_Mod_shortest_49 (jm_o32c rfl) ?_
    refine jm_iaload jd_Mod_shortest_50 jm_SH_111 (by decide) ?_
    refine jm_topI (y := h2 111 0) rfl ?_
    obtain ⟨hb3, H⟩ := H
    refine jm_iastore jd_Mod_shortest_51 jm_SH_112 hb3 ?_
    refine jm_iinc jd_Mod_shortest_52 rfl (by decide) (ls2 := [some (jm_R 78), some (jm_I x1), some (jm_I x2), some (jm_I (jm_w32 (x3 + 1))), none]) rfl ?_
    refine jm_goto (tgt := 21) jd_Mod_shortest_55 rfl ?_
    exact H
set_option maxRecDepth 4000 in
theorem jb_Mod_shortest_64 {E : jm_Env} {x1 x2 x3 x4 : Int} {h : jm_H} {K : Int → jm_H → Prop} (H : ((x1 < x4) → jm_BI E jm_SH jm_m_Mod_shortest 3 96 [some (jm_R 78), none, some (jm_I x2), some (jm_I x3), none] [] h K) ∧ ((¬ x1 < x4) → ((0 ≤ x3) → jm_BI E jm_SH jm_m_Mod_shortest 3 96 [some (jm_R 78), none, some (jm_I x2), some (jm_I x3), none] [] h K) ∧ ((¬ 0 ≤ x3) → jm_CI E jm_SH jm_m_Mod_findRow 2 [jm_R 78, jm_I x4] h (fun v3 h3 => ((v3 = 0) → jm_BI E jm_SH jm_m_Mod_shortest 3 64 [some (jm_R 78), some (jm_I x1), some (jm_I x2), some (jm_I x3), some (jm_I (jm_w32 (x4 + 1)))] [] h3 K) ∧ ((¬ v3 = 0) → jm_BI E jm_SH jm_m_Mod_shortest 3 64 [some (jm_R 78), some (jm_I x1), some (jm_I x2), some (jm_I x4), some (jm_I (jm_w32 (x4 + 1)))] [] h3 K))))) : jm_BI E jm_SH jm_m_Mod_shortest 3 64 [some (jm_R 78), some (jm_I x1), some (jm_I x2), some (jm_I x3), some (jm_I x4)] [] h K := by
  refine jm_iload jd_Mod_shortest_64 rfl ?_
  refine jm_iload_n jd_Mod_shortest_66 rfl rfl ?_
  refine jm_icmp_gt (tgt := 96) jd_Mod_shortest_67 rfl (fun hc1 => ?_) (fun hc1 => ?_)
  · replace H := H.1 hc1
    refine jm_keepG [true, false, true, true, false] (ls2 := [some (jm_R 78), none, some (jm_I x2), some (jm_I x3), none]) (by rfl) (by rfl) ?_
    exact H
  · replace H := H.2 hc1
    refine jm_iload_n jd_Mod_shortest_70 rfl rfl ?_
    refine jm_if_ge (tgt := 96) jd_Mod_shortest_71 rfl (fun hc2 => ?_) (fun hc2 => ?_)
    · replace H := H.1 hc2
      refine jm_keepG [true, false, true, true, false] (ls2 := [some (jm_R 78), none, some (jm_I x2), some (jm_I x3), none]) (by rfl) (by rfl) ?_
      exact H
    · replace H := H.2 hc2
      refine jm_aload_n jd_Mod_shortest_74 rfl rfl ?_
      refine jm_iload jd_Mod_shortest_75 rfl ?_
      refine jm_cV (M' := jm_m_Mod_findRow) (d' := 2) (av := [jm_I x4]) jd_Mod_shortest_77 jk_Mod_findRow jw_1242 rfl (by omega) ⟨rfl, rfl⟩ (by decide) (Nat.le_of_ble_eq_true rfl) jm_SH_78 rfl rfl (jm_hqI (fun v3 h3 H => ?_)) H
      refine jm_if_eq (tgt := 88) jd_Mod_shortest_80 rfl (fun hc4 => ?_) (fun hc4 => ?_)
      · replace H := H.1 hc4
        refine jm_iload_n jd_Mod_shortest_88 rfl rfl ?_
        refine jm_istore_n (i := 3) jd_Mod_shortest_89 rfl (by decide) (ls2 := [some (jm_R 78), some (jm_I x1), some (jm_I x2), some (jm_I x3), some (jm_I x4)]) rfl ?_
        refine jm_iinc jd_Mod_shortest_90 rfl (by decide) (ls2 := [some (jm_R 78), some (jm_I x1), some (jm_I x2), some (jm_I x3), some (jm_I (jm_w32 (x4 + 1)))]) rfl ?_
        refine jm_goto (tgt := 64) jd_Mod_shortest_93 rfl ?_
        exact H
      · replace H := H.2 hc4
        refine jm_iload jd_Mod_shortest_83 rfl ?_
        refine jm_goto (tgt := 89) jd_Mod_shortest_85 rfl ?_
        refine jm_istore_n (i := 3) jd_Mod_shortest_89 rfl (by decide) (ls2 := [some (jm_R 78), some (jm_I x1), some (jm_I x2), some (jm_I x4), some (jm_I x4)]) rfl ?_
        refine jm_iinc jd_Mod_shortest_90 rfl (by decide) (ls2 := [some (jm_R 78), some (jm_I x1), some (jm_I x2), some (jm_I x4), some (jm_I (jm_w32 (x4 + 1)))]) rfl ?_
        refine jm_goto (tgt := 64) jd_Mod_shortest_93 rfl ?_
        exact H
set_option maxRecDepth 4000 in
theorem jb_Mod_shortest_96 {E : jm_Env} {x2 x3 : Int} {h : jm_H} {K : Int → jm_H → Prop} (H : ((0 ≤ x3) → ((¬ x2 = -1) → jm_CI E jm_SH jm_m_Mod_in 0 [jm_L x2, jm_L 0, jm_L (jm_w32 (x3 - 1))] h (fun v3 h3 => ((v3 = 0) → K (-6) h3) ∧ ((¬ v3 = 0) → (0 ≤ x2 ∧ x2 < 3) ∧ ((0 ≤ h3 114 (Int.toNat x2) ∧ h3 114 (Int.toNat x2) < 153) ∧ (K (h3 113 (Int.toNat (h3 114 (Int.toNat x2)))) h3))))) ∧ ((x2 = -1) → K x3 h)) ∧ ((¬ 0 ≤ x3) → K (-5) h)) : jm_BI E jm_SH jm_m_Mod_shortest 3 96 [some (jm_R 78), none, some (jm_I x2), some (jm_I x3), none] [] h K := by
  refine jm_iload_n jd_Mod_shortest_96 rfl rfl ?_
  refine jm_if_ge (tgt := 105) jd_Mod_shortest_97 rfl (fun hc1 => ?_) (fun hc1 => ?_)
  · replace H := H.1 hc1
    refine jm_iload_n jd_Mod_shortest_105 rfl rfl ?_
    refine jm_iconst jd_Mod_shortest_106 (jm_o32c rfl) ?_
    refine jm_icmp_ne (tgt := 114) jd_Mod_shortest_107 rfl (fun hc2 => ?_) (fun hc2 => ?_)
    · replace H := H.1 hc2
      refine jm_iload_n jd_Mod_shortest_114 rfl rfl ?_
      refine jm_i2l jd_Mod_shortest_115 ?_
      refine jm_lconst (x := 0) jd_Mod_shortest_116 ⟨by decide, jm_o64c rfl⟩ ?_
      refine jm_iload_n jd_Mod_shortest_117 rfl rfl ?_
      refine jm_iconst jd_Mod_shortest_118 (jm_o32c rfl) ?_
      refine jm_isub jd_Mod_shortest_119 ?_
      refine jm_i2l jd_Mod_shortest_120 ?_
      refine jm_cS (M' := jm_m_Mod_in) (d' := 0) (av := [jm_L x2, jm_L 0, jm_L (jm_w32 (x3 - 1))]) jd_Mod_shortest_121 jk_Mod_in jw_978 rfl (by omega) ⟨rfl, rfl⟩ (by decide) (Nat.le_of_ble_eq_true rfl) (jm_hqI (fun v3 h3 H => ?_)) H
      refine jm_if_eq (tgt := 141) jd_Mod_shortest_124 rfl (fun hc4 => ?_) (fun hc4 => ?_)
      · replace H := H.1 hc4
        refine jm_bipush jd_Mod_shortest_141 jb_m6 ?_
        exact jm_ireturn jd_Mod_shortest_143 rfl (by decide) ⟨rfl, _, rfl, H⟩
      · replace H := H.2 hc4
        refine jm_aload_n jd_Mod_shortest_127 rfl rfl ?_
        refine jm_gR jd_Mod_shortest_128 jf_Mod_112 jm_SH_78 rfl ?_
        refine jm_aload_n jd_Mod_shortest_131 rfl rfl ?_
        refine jm_gR jd_Mod_shortest_132 jf_Mod_115 jm_SH_78 rfl ?_
        refine jm_iload_n jd_Mod_shortest_135 rfl rfl ?_
        obtain ⟨hb5, H⟩ := H
        refine jm_iaload jd_Mod_shortest_136 jm_SH_114 hb5 ?_
        obtain ⟨hb6, H⟩ := H
        refine jm_iaload jd_Mod_shortest_137 jm_SH_113 hb6 ?_
        refine jm_goto (tgt := 143) jd_Mod_shortest_138 rfl ?_
        exact jm_ireturn jd_Mod_shortest_143 rfl (by decide) ⟨rfl, _, rfl, H⟩
    · replace H := H.2 hc2
      refine jm_iload_n jd_Mod_shortest_110 rfl rfl ?_
      refine jm_goto (tgt := 143) jd_Mod_shortest_111 rfl ?_
      exact jm_ireturn jd_Mod_shortest_143 rfl (by decide) ⟨rfl, _, rfl, H⟩
  · replace H := H.2 hc1
    refine jm_bipush jd_Mod_shortest_100 jb_m5 ?_
    refine jm_goto (tgt := 143) jd_Mod_shortest_102 rfl ?_
    exact jm_ireturn jd_Mod_shortest_143 rfl (by decide) ⟨rfl, _, rfl, H⟩
set_option maxRecDepth 4000 in
theorem jb_Mod_thin {E : jm_Env} {h : jm_H} {K : Int → jm_H → Prop} (H : jm_BI E jm_SH jm_m_Mod_thin 2 4 [some (jm_R 78), some (jm_I 0), some (jm_I 0), none] [] h K) : jm_CI E jm_SH jm_m_Mod_thin 2 [jm_R 78] h K := by
  refine jm_body (ls0 := [some (jm_R 78), none, none, none]) (by decide +kernel) rfl rfl (Nat.le_of_ble_eq_true rfl) ?_
  refine jm_iconst jd_Mod_thin_0 (jm_o32c rfl) ?_
  refine jm_istore_n (i := 1) jd_Mod_thin_1 rfl (by decide) (ls2 := [some (jm_R 78), some (jm_I 0), none, none]) rfl ?_
  refine jm_iconst jd_Mod_thin_2 (jm_o32c rfl) ?_
  refine jm_istore_n (i := 2) jd_Mod_thin_3 rfl (by decide) (ls2 := [some (jm_R 78), some (jm_I 0), some (jm_I 0), none]) rfl ?_
  exact H
set_option maxRecDepth 4000 in
theorem jb_Mod_thin_4 {E : jm_Env} {x1 x2 : Int} {h : jm_H} {K : Int → jm_H → Prop} (H : ((h 78 32 ≤ x2) → K x1 h) ∧ ((¬ h 78 32 ≤ x2) → jm_CI E jm_SH jm_m_Mod_livesTo 1 [jm_R 78, jm_I x2] h (fun v2 h2 => ((¬ v2 = x2) → jm_BI E jm_SH jm_m_Mod_thin 2 4 [some (jm_R 78), some (jm_I x1), some (jm_I (jm_w32 (x2 + 1))), none] [] h2 K) ∧ ((v2 = x2) → jm_CV E jm_SH jm_m_Mod_keepAside 0 [jm_R 78] h2 (fun h4 => jm_BI E jm_SH jm_m_Mod_thin 2 37 [some (jm_R 78), some (jm_I x1), none, some (jm_I x2)] [] (jm_up h4 78 32 (jm_w32 ((h4 78 32) - 1))) K))))) : jm_BI E jm_SH jm_m_Mod_thin 2 4 [some (jm_R 78), some (jm_I x1), some (jm_I x2), none] [] h K := by
  refine jm_iload_n jd_Mod_thin_4 rfl rfl ?_
  refine jm_aload_n jd_Mod_thin_5 rfl rfl ?_
  refine jm_gI jd_Mod_thin_6 jf_Mod_231 jm_SH_78 ?_
  refine jm_icmp_ge (tgt := 73) jd_Mod_thin_9 rfl (fun hc1 => ?_) (fun hc1 => ?_)
  · replace H := H.1 hc1
    refine jm_iload_n jd_Mod_thin_73 rfl rfl ?_
    exact jm_ireturn jd_Mod_thin_74 rfl (by decide) ⟨rfl, _, rfl, H⟩
  · replace H := H.2 hc1
    refine jm_aload_n jd_Mod_thin_12 rfl rfl ?_
    refine jm_iload_n jd_Mod_thin_13 rfl rfl ?_
    refine jm_cV (M' := jm_m_Mod_livesTo) (d' := 1) (av := [jm_I x2]) jd_Mod_thin_14 jk_Mod_livesTo jw_1182 rfl (by omega) ⟨rfl, rfl⟩ (by decide) (Nat.le_of_ble_eq_true rfl) jm_SH_78 rfl rfl (jm_hqI (fun v2 h2 H => ?_)) H
    refine jm_iload_n jd_Mod_thin_17 rfl rfl ?_
    refine jm_icmp_ne (tgt := 67) jd_Mod_thin_18 rfl (fun hc3 => ?_) (fun hc3 => ?_)
    · replace H := H.1 hc3
      refine jm_iinc jd_Mod_thin_67 rfl (by decide) (ls2 := [some (jm_R 78), some (jm_I x1), some (jm_I (jm_w32 (x2 + 1))), none]) rfl ?_
      refine jm_goto (tgt := 4) jd_Mod_thin_70 rfl ?_
      exact H
    · replace H := H.2 hc3
      refine jm_aload_n jd_Mod_thin_21 rfl rfl ?_
      refine jm_cV (M' := jm_m_Mod_keepAside) (d' := 0) (av := []) jd_Mod_thin_22 jk_Mod_keepAside jw_1160 rfl (by omega) ⟨rfl, rfl⟩ (by decide) (Nat.le_of_ble_eq_true rfl) jm_SH_78 rfl rfl (jm_hqV (fun h4 H => ?_)) H
      refine jm_aload_n jd_Mod_thin_25 rfl rfl ?_
      refine jm_dup jd_Mod_thin_26 rfl ?_
      refine jm_gI jd_Mod_thin_27 jf_Mod_231 jm_SH_78 ?_
      refine jm_iconst jd_Mod_thin_30 (jm_o32c rfl) ?_
      refine jm_isub jd_Mod_thin_31 ?_
      refine jm_sI jd_Mod_thin_32 jp_Mod_231 jm_SH_78 ?_
      refine jm_iload_n jd_Mod_thin_35 rfl rfl ?_
      refine jm_istore_n (i := 3) jd_Mod_thin_36 rfl (by decide) (ls2 := [some (jm_R 78), some (jm_I x1), some (jm_I x2), some (jm_I x2)]) rfl ?_
      refine jm_keepG [true, true, false, true] (ls2 := [some (jm_R 78), some (jm_I x1), none, some (jm_I x2)]) (by rfl) (by rfl) ?_
      exact H
set_option maxRecDepth 4000 in
theorem jb_Mod_thin_37 {E : jm_Env} {x1 x3 : Int} {h : jm_H} {K : Int → jm_H → Prop} (H : ((h 78 32 ≤ x3) → jm_BI E jm_SH jm_m_Mod_thin 2 4 [some (jm_R 78), some (jm_I (jm_w32 (x1 + 1))), some (jm_I 0), none] [] h K) ∧ ((¬ h 78 32 ≤ x3) → jm_CV E jm_SH jm_m_Mod_lay 0 [jm_R 78, jm_I (jm_w32 (x3 + 1)), jm_I x3] h (fun h2 => jm_BI E jm_SH jm_m_Mod_thin 2 37 [some (jm_R 78), some (jm_I x1), none, some (jm_I (jm_w32 (x3 + 1)))] [] h2 K))) : jm_BI E jm_SH jm_m_Mod_thin 2 37 [some (jm_R 78), some (jm_I x1), none, some (jm_I x3)] [] h K := by
  refine jm_iload_n jd_Mod_thin_37 rfl rfl ?_
  refine jm_aload_n jd_Mod_thin_38 rfl rfl ?_
  refine jm_gI jd_Mod_thin_39 jf_Mod_231 jm_SH_78 ?_
  refine jm_icmp_ge (tgt := 59) jd_Mod_thin_42 rfl (fun hc1 => ?_) (fun hc1 => ?_)
  · replace H := H.1 hc1
    refine jm_iinc jd_Mod_thin_59 rfl (by decide) (ls2 := [some (jm_R 78), some (jm_I (jm_w32 (x1 + 1))), none, some (jm_I x3)]) rfl ?_
    refine jm_iconst jd_Mod_thin_62 (jm_o32c rfl) ?_
    refine jm_istore_n (i := 2) jd_Mod_thin_63 rfl (by decide) (ls2 := [some (jm_R 78), some (jm_I (jm_w32 (x1 + 1))), some (jm_I 0), some (jm_I x3)]) rfl ?_
    refine jm_goto (tgt := 4) jd_Mod_thin_64 rfl ?_
    refine jm_keepG [true, true, true, false] (ls2 := [some (jm_R 78), some (jm_I (jm_w32 (x1 + 1))), some (jm_I 0), none]) (by rfl) (by rfl) ?_
    exact H
  · replace H := H.2 hc1
    refine jm_aload_n jd_Mod_thin_45 rfl rfl ?_
    refine jm_iload_n jd_Mod_thin_46 rfl rfl ?_
    refine jm_iconst jd_Mod_thin_47 (jm_o32c rfl) ?_
    refine jm_iadd jd_Mod_thin_48 ?_
    refine jm_iload_n jd_Mod_thin_49 rfl rfl ?_
    refine jm_cV (M' := jm_m_Mod_lay) (d' := 0) (av := [jm_I (jm_w32 (x3 + 1)), jm_I x3]) jd_Mod_thin_50 jk_Mod_lay jw_1164 rfl (by omega) ⟨rfl, rfl⟩ (by decide) (Nat.le_of_ble_eq_true rfl) jm_SH_78 rfl rfl (jm_hqV (fun h2 H => ?_)) H
    refine jm_iinc jd_Mod_thin_53 rfl (by decide) (ls2 := [some (jm_R 78), some (jm_I x1), none, some (jm_I (jm_w32 (x3 + 1)))]) rfl ?_
    refine jm_goto (tgt := 37) jd_Mod_thin_56 rfl ?_
    exact H
