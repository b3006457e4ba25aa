set_option maxRecDepth 4000 in
theorem jb_Mod_told {E : jm_Env} {x1 : Int} {h : jm_H} {K : Int → jm_H → Prop} (H : (x1 = 0 → K (h 78 1) h) ∧ ((x1 = 1 → K (h 78 4) h) ∧ ((x1 = 2 → K (h 78 14) h) ∧ ((x1 = 3 → K (h 78 32) h) ∧ ((x1 = 4 → K (h 78 39) h) ∧ (((¬ x1 = 0 ∧ ¬ x1 = 1 ∧ ¬ x1 = 2 ∧ ¬ x1 = 3 ∧ ¬ x1 = 4) → K (-2) h))))))) : jm_CI E jm_SH jm_m_Mod_told 0 [jm_R 78, jm_I x1] h K := by
  refine jm_body (ls0 := [some (jm_R 78), some (jm_I x1)]) (by decide +kernel) rfl rfl (Nat.le_of_ble_eq_true rfl) ?_
  refine jm_iload_n jd_Mod_told_0 rfl rfl ?_
  by_cases hc1 : x1 = 0
  · replace H := H.1 hc1
    refine jm_tableIn (tgt := 36) jd_Mod_told_1 (by omega) (by omega) (by first | (rw [hc1]; rfl) | rw [hc1]) rfl ?_
    refine jm_aload_n jd_Mod_told_36 rfl rfl ?_
    refine jm_gI jd_Mod_told_37 jf_Mod_130 jm_SH_78 ?_
    exact jm_ireturn jd_Mod_told_40 rfl (by decide) ⟨rfl, _, rfl, H⟩
  · replace H := H.2
    by_cases hc2 : x1 = 1
    · replace H := H.1 hc2
      refine jm_tableIn (tgt := 41) jd_Mod_told_1 (by omega) (by omega) (by first | (rw [hc2]; rfl) | rw [hc2]) rfl ?_
      refine jm_aload_n jd_Mod_told_41 rfl rfl ?_
      refine jm_gI jd_Mod_told_42 jf_Mod_169 jm_SH_78 ?_
      exact jm_ireturn jd_Mod_told_45 rfl (by decide) ⟨rfl, _, rfl, H⟩
    · replace H := H.2
      by_cases hc3 : x1 = 2
      · replace H := H.1 hc3
        refine jm_tableIn (tgt := 46) jd_Mod_told_1 (by omega) (by omega) (by first | (rw [hc3]; rfl) | rw [hc3]) rfl ?_
        refine jm_aload_n jd_Mod_told_46 rfl rfl ?_
        refine jm_gI jd_Mod_told_47 jf_Mod_186 jm_SH_78 ?_
        exact jm_ireturn jd_Mod_told_50 rfl (by decide) ⟨rfl, _, rfl, H⟩
      · replace H := H.2
        by_cases hc4 : x1 = 3
        · replace H := H.1 hc4
          refine jm_tableIn (tgt := 51) jd_Mod_told_1 (by omega) (by omega) (by first | (rw [hc4]; rfl) | rw [hc4]) rfl ?_
          refine jm_aload_n jd_Mod_told_51 rfl rfl ?_
          refine jm_gI jd_Mod_told_52 jf_Mod_231 jm_SH_78 ?_
          exact jm_ireturn jd_Mod_told_55 rfl (by decide) ⟨rfl, _, rfl, H⟩
        · replace H := H.2
          by_cases hc5 : x1 = 4
          · replace H := H.1 hc5
            refine jm_tableIn (tgt := 56) jd_Mod_told_1 (by omega) (by omega) (by first | (rw [hc5]; rfl) | rw [hc5]) rfl ?_
            refine jm_aload_n jd_Mod_told_56 rfl rfl ?_
            refine jm_gI jd_Mod_told_57 jf_Mod_118 jm_SH_78 ?_
            exact jm_ireturn jd_Mod_told_60 rfl (by decide) ⟨rfl, _, rfl, H⟩
          · replace H := H.2
            replace H := H ⟨hc1, hc2, hc3, hc4, hc5⟩
            refine jm_tableOut (tgt := 61) jd_Mod_told_1 (by omega) rfl ?_
            refine jm_bipush jd_Mod_told_61 jb_m2 ?_
            exact jm_ireturn jd_Mod_told_63 rfl (by decide) ⟨rfl, _, rfl, H⟩
