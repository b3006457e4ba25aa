/-! Moves, while Search is made: its methods at that shape (printed by gen/movesgen.py) -/
def jm_SM (P : List jm_C) : List jm_C := P ++ [.inl (10, [some 63, some 64, some 65, some 66, some 67, none]), .inr (0, 24, []), .inr (0, 24, []), .inr (0, 24, []), .inr (2, 24, []), .inr (0, 8, [])]
theorem jm_SM_62 {P : List jm_C} (hP : P.length = 62) : (jm_SM P)[62]? = some (.inl (10, [some 63, some 64, some 65, some 66, some 67, none])) := jx_get hP 0 rfl
theorem jm_SM_63 {P : List jm_C} (hP : P.length = 62) : (jm_SM P)[63]? = some (.inr (0, 24, [])) := jx_get hP 1 rfl
theorem jm_SM_64 {P : List jm_C} (hP : P.length = 62) : (jm_SM P)[64]? = some (.inr (0, 24, [])) := jx_get hP 2 rfl
theorem jm_SM_65 {P : List jm_C} (hP : P.length = 62) : (jm_SM P)[65]? = some (.inr (0, 24, [])) := jx_get hP 3 rfl
theorem jm_SM_66 {P : List jm_C} (hP : P.length = 62) : (jm_SM P)[66]? = some (.inr (2, 24, [])) := jx_get hP 4 rfl
theorem jm_SM_67 {P : List jm_C} (hP : P.length = 62) : (jm_SM P)[67]? = some (.inr (0, 8, [])) := jx_get hP 5 rfl
set_option maxRecDepth 4000 in
theorem js_Row_hasSecond {E : jm_Env} {P : List jm_C} (hP : P.length = 62) {x0 : Int} {h : jm_H} {K : Int → jm_H → Prop} (H : ((5 ≤ x0) → K 0 h) ∧ ((¬ 5 ≤ x0) → K 1 h)) : jm_CI E (jm_SM P) jm_m_Row_hasSecond 0 [jm_I x0] h K := by
  refine jm_body (ls0 := [some (jm_I x0)]) (by decide +kernel) rfl rfl (Nat.le_of_ble_eq_true rfl) ?_
  refine jm_iload_n jd_Row_hasSecond_0 rfl rfl ?_
  refine jm_iconst jd_Row_hasSecond_1 (jm_o32c rfl) ?_
  refine jm_icmp_ge (tgt := 9) jd_Row_hasSecond_2 rfl (fun hc1 => ?_) (fun hc1 => ?_)
  · replace H := H.1 hc1
    refine jm_iconst jd_Row_hasSecond_9 (jm_o32c rfl) ?_
    exact jm_zreturn jd_Row_hasSecond_10 rfl (Or.inl rfl) (by decide) ⟨rfl, _, rfl, H⟩
  · replace H := H.2 hc1
    refine jm_iconst jd_Row_hasSecond_5 (jm_o32c rfl) ?_
    refine jm_goto (tgt := 10) jd_Row_hasSecond_6 rfl ?_
    exact jm_zreturn jd_Row_hasSecond_10 rfl (Or.inr rfl) (by decide) ⟨rfl, _, rfl, H⟩
set_option maxRecDepth 4000 in
theorem js_Moves_isNew {E : jm_Env} {P : List jm_C} (hP : P.length = 62) {x0 x1 x2 : Int} {h : jm_H} {K : Int → jm_H → Prop} (H : (x0 = 0 → ((x2 < x1) → K 0 h) ∧ ((¬ x2 < x1) → K 1 h)) ∧ ((x0 = 1 → ((x1 = x2) → K 0 h) ∧ ((¬ x1 = x2) → K 1 h)) ∧ ((x0 = 2 → ((x2 ≤ x1) → K 0 h) ∧ ((¬ x2 ≤ x1) → K 1 h)) ∧ ((x0 = 3 → ((x2 ≤ x1) → K 0 h) ∧ ((¬ x2 ≤ x1) → K 1 h)) ∧ ((x0 = 4 → ((x2 ≤ x1) → K 0 h) ∧ ((¬ x2 ≤ x1) → K 1 h)) ∧ ((x0 = 5 → K 0 h) ∧ (((¬ x0 = 0 ∧ ¬ x0 = 1 ∧ ¬ x0 = 2 ∧ ¬ x0 = 3 ∧ ¬ x0 = 4 ∧ ¬ x0 = 5) → K 1 h)))))))) : jm_CI E (jm_SM P) jm_m_Moves_isNew 0 [jm_I x0, jm_I x1, jm_I x2] h K := by
  refine jm_body (ls0 := [some (jm_I x0), some (jm_I x1), some (jm_I x2)]) (by decide +kernel) rfl rfl (Nat.le_of_ble_eq_true rfl) ?_
  refine jm_iload_n jd_Moves_isNew_0 rfl rfl ?_
  by_cases hc1 : x0 = 0
  · replace H := H.1 hc1
    refine jm_tableIn (tgt := 40) jd_Moves_isNew_1 (by omega) (by omega) (by first | (rw [hc1]; rfl) | rw [hc1]) rfl ?_
    refine jm_iload_n jd_Moves_isNew_40 rfl rfl ?_
    refine jm_iload_n jd_Moves_isNew_41 rfl rfl ?_
    refine jm_icmp_gt (tgt := 49) jd_Moves_isNew_42 rfl (fun hc2 => ?_) (fun hc2 => ?_)
    · replace H := H.1 hc2
      refine jm_iconst jd_Moves_isNew_49 (jm_o32c rfl) ?_
      exact jm_zreturn jd_Moves_isNew_50 rfl (Or.inl rfl) (by decide) ⟨rfl, _, rfl, H⟩
    · replace H := H.2 hc2
      refine jm_iconst jd_Moves_isNew_45 (jm_o32c rfl) ?_
      refine jm_goto (tgt := 50) jd_Moves_isNew_46 rfl ?_
      exact jm_zreturn jd_Moves_isNew_50 rfl (Or.inr rfl) (by decide) ⟨rfl, _, rfl, H⟩
  · replace H := H.2
    by_cases hc3 : x0 = 1
    · replace H := H.1 hc3
      refine jm_tableIn (tgt := 51) jd_Moves_isNew_1 (by omega) (by omega) (by first | (rw [hc3]; rfl) | rw [hc3]) rfl ?_
      refine jm_iload_n jd_Moves_isNew_51 rfl rfl ?_
      refine jm_iload_n jd_Moves_isNew_52 rfl rfl ?_
      refine jm_icmp_eq (tgt := 60) jd_Moves_isNew_53 rfl (fun hc4 => ?_) (fun hc4 => ?_)
      · replace H := H.1 hc4
        refine jm_iconst jd_Moves_isNew_60 (jm_o32c rfl) ?_
        exact jm_zreturn jd_Moves_isNew_61 rfl (Or.inl rfl) (by decide) ⟨rfl, _, rfl, H⟩
      · replace H := H.2 hc4
        refine jm_iconst jd_Moves_isNew_56 (jm_o32c rfl) ?_
        refine jm_goto (tgt := 61) jd_Moves_isNew_57 rfl ?_
        exact jm_zreturn jd_Moves_isNew_61 rfl (Or.inr rfl) (by decide) ⟨rfl, _, rfl, H⟩
    · replace H := H.2
      by_cases hc5 : x0 = 2
      · replace H := H.1 hc5
        refine jm_tableIn (tgt := 62) jd_Moves_isNew_1 (by omega) (by omega) (by first | (rw [hc5]; rfl) | rw [hc5]) rfl ?_
        refine jm_iload_n jd_Moves_isNew_62 rfl rfl ?_
        refine jm_iload_n jd_Moves_isNew_63 rfl rfl ?_
        refine jm_icmp_ge (tgt := 71) jd_Moves_isNew_64 rfl (fun hc6 => ?_) (fun hc6 => ?_)
        · replace H := H.1 hc6
          refine jm_iconst jd_Moves_isNew_71 (jm_o32c rfl) ?_
          exact jm_zreturn jd_Moves_isNew_72 rfl (Or.inl rfl) (by decide) ⟨rfl, _, rfl, H⟩
        · replace H := H.2 hc6
          refine jm_iconst jd_Moves_isNew_67 (jm_o32c rfl) ?_
          refine jm_goto (tgt := 72) jd_Moves_isNew_68 rfl ?_
          exact jm_zreturn jd_Moves_isNew_72 rfl (Or.inr rfl) (by decide) ⟨rfl, _, rfl, H⟩
      · replace H := H.2
        by_cases hc7 : x0 = 3
        · replace H := H.1 hc7
          refine jm_tableIn (tgt := 62) jd_Moves_isNew_1 (by omega) (by omega) (by first | (rw [hc7]; rfl) | rw [hc7]) rfl ?_
          refine jm_iload_n jd_Moves_isNew_62 rfl rfl ?_
          refine jm_iload_n jd_Moves_isNew_63 rfl rfl ?_
          refine jm_icmp_ge (tgt := 71) jd_Moves_isNew_64 rfl (fun hc8 => ?_) (fun hc8 => ?_)
          · replace H := H.1 hc8
            refine jm_iconst jd_Moves_isNew_71 (jm_o32c rfl) ?_
            exact jm_zreturn jd_Moves_isNew_72 rfl (Or.inl rfl) (by decide) ⟨rfl, _, rfl, H⟩
          · replace H := H.2 hc8
            refine jm_iconst jd_Moves_isNew_67 (jm_o32c rfl) ?_
            refine jm_goto (tgt := 72) jd_Moves_isNew_68 rfl ?_
            exact jm_zreturn jd_Moves_isNew_72 rfl (Or.inr rfl) (by decide) ⟨rfl, _, rfl, H⟩
        · replace H := H.2
          by_cases hc9 : x0 = 4
          · replace H := H.1 hc9
            refine jm_tableIn (tgt := 62) jd_Moves_isNew_1 (by omega) (by omega) (by first | (rw [hc9]; rfl) | rw [hc9]) rfl ?_
            refine jm_iload_n jd_Moves_isNew_62 rfl rfl ?_
            refine jm_iload_n jd_Moves_isNew_63 rfl rfl ?_
            refine jm_icmp_ge (tgt := 71) jd_Moves_isNew_64 rfl (fun hc10 => ?_) (fun hc10 => ?_)
            · replace H := H.1 hc10
              refine jm_iconst jd_Moves_isNew_71 (jm_o32c rfl) ?_
              exact jm_zreturn jd_Moves_isNew_72 rfl (Or.inl rfl) (by decide) ⟨rfl, _, rfl, H⟩
            · replace H := H.2 hc10
              refine jm_iconst jd_Moves_isNew_67 (jm_o32c rfl) ?_
              refine jm_goto (tgt := 72) jd_Moves_isNew_68 rfl ?_
              exact jm_zreturn jd_Moves_isNew_72 rfl (Or.inr rfl) (by decide) ⟨rfl, _, rfl, H⟩
          · replace H := H.2
            by_cases hc11 : x0 = 5
            · replace H := H.1 hc11
              refine jm_tableIn (tgt := 73) jd_Moves_isNew_1 (by omega) (by omega) (by first | (rw [hc11]; rfl) | rw [hc11]) rfl ?_
              refine jm_iconst jd_Moves_isNew_73 (jm_o32c rfl) ?_
              exact jm_zreturn jd_Moves_isNew_74 rfl (Or.inl rfl) (by decide) ⟨rfl, _, rfl, H⟩
            · replace H := H.2
              replace H := H ⟨hc1, hc3, hc5, hc7, hc9, hc11⟩
              refine jm_tableOut (tgt := 75) jd_Moves_isNew_1 (by omega) rfl ?_
              refine jm_iconst jd_Moves_isNew_75 (jm_o32c rfl) ?_
              exact jm_zreturn jd_Moves_isNew_76 rfl (Or.inr rfl) (by decide) ⟨rfl, _, rfl, H⟩
set_option maxRecDepth 4000 in
theorem js_Moves_isNewAtFirst {E : jm_Env} {P : List jm_C} (hP : P.length = 62) {x0 x1 x2 : Int} {h : jm_H} {K : Int → jm_H → Prop} (H : (x0 = 1 → ((x2 = 2) → K 0 h) ∧ ((¬ x2 = 2) → K 1 h)) ∧ ((x0 = 2 → ((¬ x1 = 0) → K 0 h) ∧ ((x1 = 0) → ((¬ x2 = 1) → K 0 h) ∧ ((x2 = 1) → K 1 h))) ∧ ((x0 = 3 → ((¬ x1 = 0) → K 0 h) ∧ ((x1 = 0) → ((¬ x2 = 1) → K 0 h) ∧ ((x2 = 1) → K 1 h))) ∧ ((x0 = 4 → ((¬ x1 = 0) → K 0 h) ∧ ((x1 = 0) → ((¬ x2 = 1) → K 0 h) ∧ ((x2 = 1) → K 1 h))) ∧ (((¬ x0 = 1 ∧ ¬ x0 = 2 ∧ ¬ x0 = 3 ∧ ¬ x0 = 4) → K 1 h)))))) : jm_CI E (jm_SM P) jm_m_Moves_isNewAtFirst 0 [jm_I x0, jm_I x1, jm_I x2] h K := by
  refine jm_body (ls0 := [some (jm_I x0), some (jm_I x1), some (jm_I x2)]) (by decide +kernel) rfl rfl (Nat.le_of_ble_eq_true rfl) ?_
  refine jm_iload_n jd_Moves_isNewAtFirst_0 rfl rfl ?_
  by_cases hc1 : x0 = 1
  · replace H := H.1 hc1
    refine jm_tableIn (tgt := 32) jd_Moves_isNewAtFirst_1 (by omega) (by omega) (by first | (rw [hc1]; rfl) | rw [hc1]) rfl ?_
    refine jm_iload_n jd_Moves_isNewAtFirst_32 rfl rfl ?_
    refine jm_iconst jd_Moves_isNewAtFirst_33 (jm_o32c rfl) ?_
    refine jm_icmp_eq (tgt := 41) jd_Moves_isNewAtFirst_34 rfl (fun hc2 => ?_) (fun hc2 => ?_)
    · replace H := H.1 hc2
      refine jm_iconst jd_Moves_isNewAtFirst_41 (jm_o32c rfl) ?_
      exact jm_zreturn jd_Moves_isNewAtFirst_42 rfl (Or.inl rfl) (by decide) ⟨rfl, _, rfl, H⟩
    · replace H := H.2 hc2
      refine jm_iconst jd_Moves_isNewAtFirst_37 (jm_o32c rfl) ?_
      refine jm_goto (tgt := 42) jd_Moves_isNewAtFirst_38 rfl ?_
      exact jm_zreturn jd_Moves_isNewAtFirst_42 rfl (Or.inr rfl) (by decide) ⟨rfl, _, rfl, H⟩
  · replace H := H.2
    by_cases hc3 : x0 = 2
    · replace H := H.1 hc3
      refine jm_tableIn (tgt := 43) jd_Moves_isNewAtFirst_1 (by omega) (by omega) (by first | (rw [hc3]; rfl) | rw [hc3]) rfl ?_
      refine jm_iload_n jd_Moves_isNewAtFirst_43 rfl rfl ?_
      refine jm_if_ne (tgt := 56) jd_Moves_isNewAtFirst_44 rfl (fun hc4 => ?_) (fun hc4 => ?_)
      · replace H := H.1 hc4
        refine jm_iconst jd_Moves_isNewAtFirst_56 (jm_o32c rfl) ?_
        exact jm_zreturn jd_Moves_isNewAtFirst_57 rfl (Or.inl rfl) (by decide) ⟨rfl, _, rfl, H⟩
      · replace H := H.2 hc4
        refine jm_iload_n jd_Moves_isNewAtFirst_47 rfl rfl ?_
        refine jm_iconst jd_Moves_isNewAtFirst_48 (jm_o32c rfl) ?_
        refine jm_icmp_ne (tgt := 56) jd_Moves_isNewAtFirst_49 rfl (fun hc5 => ?_) (fun hc5 => ?_)
        · replace H := H.1 hc5
          refine jm_iconst jd_Moves_isNewAtFirst_56 (jm_o32c rfl) ?_
          exact jm_zreturn jd_Moves_isNewAtFirst_57 rfl (Or.inl rfl) (by decide) ⟨rfl, _, rfl, H⟩
        · replace H := H.2 hc5
          refine jm_iconst jd_Moves_isNewAtFirst_52 (jm_o32c rfl) ?_
          refine jm_goto (tgt := 57) jd_Moves_isNewAtFirst_53 rfl ?_
          exact jm_zreturn jd_Moves_isNewAtFirst_57 rfl (Or.inr rfl) (by decide) ⟨rfl, _, rfl, H⟩
    · replace H := H.2
      by_cases hc6 : x0 = 3
      · replace H := H.1 hc6
        refine jm_tableIn (tgt := 43) jd_Moves_isNewAtFirst_1 (by omega) (by omega) (by first | (rw [hc6]; rfl) | rw [hc6]) rfl ?_
        refine jm_iload_n jd_Moves_isNewAtFirst_43 rfl rfl ?_
        refine jm_if_ne (tgt := 56) jd_Moves_isNewAtFirst_44 rfl (fun hc7 => ?_) (fun hc7 => ?_)
        · replace H := H.1 hc7
          refine jm_iconst jd_Moves_isNewAtFirst_56 (jm_o32c rfl) ?_
          exact jm_zreturn jd_Moves_isNewAtFirst_57 rfl (Or.inl rfl) (by decide) ⟨rfl, _, rfl, H⟩
        · replace H := H.2 hc7
          refine jm_iload_n jd_Moves_isNewAtFirst_47 rfl rfl ?_
          refine jm_iconst jd_Moves_isNewAtFirst_48 (jm_o32c rfl) ?_
          refine jm_icmp_ne (tgt := 56) jd_Moves_isNewAtFirst_49 rfl (fun hc8 => ?_) (fun hc8 => ?_)
          · replace H := H.1 hc8
            refine jm_iconst jd_Moves_isNewAtFirst_56 (jm_o32c rfl) ?_
            exact jm_zreturn jd_Moves_isNewAtFirst_57 rfl (Or.inl rfl) (by decide) ⟨rfl, _, rfl, H⟩
          · replace H := H.2 hc8
            refine jm_iconst jd_Moves_isNewAtFirst_52 (jm_o32c rfl) ?_
            refine jm_goto (tgt := 57) jd_Moves_isNewAtFirst_53 rfl ?_
            exact jm_zreturn jd_Moves_isNewAtFirst_57 rfl (Or.inr rfl) (by decide) ⟨rfl, _, rfl, H⟩
      · replace H := H.2
        by_cases hc9 : x0 = 4
        · replace H := H.1 hc9
          refine jm_tableIn (tgt := 43) jd_Moves_isNewAtFirst_1 (by omega) (by omega) (by first | (rw [hc9]; rfl) | rw [hc9]) rfl ?_
          refine jm_iload_n jd_Moves_isNewAtFirst_43 rfl rfl ?_
          refine jm_if_ne (tgt := 56) jd_Moves_isNewAtFirst_44 rfl (fun hc10 => ?_) (fun hc10 => ?_)
          · replace H := H.1 hc10
            refine jm_iconst jd_Moves_isNewAtFirst_56 (jm_o32c rfl) ?_
            exact jm_zreturn jd_Moves_isNewAtFirst_57 rfl (Or.inl rfl) (by decide) ⟨rfl, _, rfl, H⟩
          · replace H := H.2 hc10
            refine jm_iload_n jd_Moves_isNewAtFirst_47 rfl rfl ?_
            refine jm_iconst jd_Moves_isNewAtFirst_48 (jm_o32c rfl) ?_
            refine jm_icmp_ne (tgt := 56) jd_Moves_isNewAtFirst_49 rfl (fun hc11 => ?_) (fun hc11 => ?_)
            · replace H := H.1 hc11
              refine jm_iconst jd_Moves_isNewAtFirst_56 (jm_o32c rfl) ?_
              exact jm_zreturn jd_Moves_isNewAtFirst_57 rfl (Or.inl rfl) (by decide) ⟨rfl, _, rfl, H⟩
            · replace H := H.2 hc11
              refine jm_iconst jd_Moves_isNewAtFirst_52 (jm_o32c rfl) ?_
              refine jm_goto (tgt := 57) jd_Moves_isNewAtFirst_53 rfl ?_
              exact jm_zreturn jd_Moves_isNewAtFirst_57 rfl (Or.inr rfl) (by decide) ⟨rfl, _, rfl, H⟩
        · replace H := H.2
          replace H := H ⟨hc1, hc3, hc6, hc9⟩
          refine jm_tableOut (tgt := 58) jd_Moves_isNewAtFirst_1 (by omega) rfl ?_
          refine jm_iconst jd_Moves_isNewAtFirst_58 (jm_o32c rfl) ?_
          exact jm_zreturn jd_Moves_isNewAtFirst_59 rfl (Or.inr rfl) (by decide) ⟨rfl, _, rfl, H⟩
set_option maxRecDepth 4000 in
theorem js_Moves_listSources {E : jm_Env} {P : List jm_C} (hP : P.length = 62) {x1 : Int} {h : jm_H} {K : jm_H → Prop} (H : jm_CI E (jm_SM P) jm_m_Row_hasSecond 0 [jm_I x1] h (fun v1 h1 => ((v1 = 0) → jm_BV E (jm_SM P) jm_m_Moves_listSources 1 15 [some (jm_R 62), some (jm_I x1), some (jm_I 1), some (jm_I 0), none] [] h1 K) ∧ ((¬ v1 = 0) → jm_BV E (jm_SM P) jm_m_Moves_listSources 1 15 [some (jm_R 62), some (jm_I x1), some (jm_I 3), some (jm_I 0), none] [] h1 K))) : jm_CV E (jm_SM P) jm_m_Moves_listSources 1 [jm_R 62, jm_I x1] h K := by
  refine jm_body (ls0 := [some (jm_R 62), some (jm_I x1), none, none, none]) (by decide +kernel) rfl rfl (Nat.le_of_ble_eq_true rfl) ?_
  refine jm_iload_n jd_Moves_listSources_0 rfl rfl ?_
  refine jm_cS (M' := jm_m_Row_hasSecond) (d' := 0) (av := [jm_I x1]) jd_Moves_listSources_1 jk_Row_hasSecond jw_288 rfl (by omega) ⟨rfl, rfl⟩ (by decide) (Nat.le_of_ble_eq_true rfl) (jm_hqI (fun v1 h1 H => ?_)) H
  refine jm_if_eq (tgt := 11) jd_Moves_listSources_4 rfl (fun hc2 => ?_) (fun hc2 => ?_)
  · replace H := H.1 hc2
    refine jm_iconst jd_Moves_listSources_11 (jm_o32c rfl) ?_
    refine jm_istore_n (i := 2) jd_Moves_listSources_12 rfl (by decide) (ls2 := [some (jm_R 62), some (jm_I x1), some (jm_I 1), none, none]) rfl ?_
    refine jm_iconst jd_Moves_listSources_13 (jm_o32c rfl) ?_
    refine jm_istore_n (i := 3) jd_Moves_listSources_14 rfl (by decide) (ls2 := [some (jm_R 62), some (jm_I x1), some (jm_I 1), some (jm_I 0), none]) rfl ?_
    exact H
  · replace H := H.2 hc2
    refine jm_iconst jd_Moves_listSources_7 (jm_o32c rfl) ?_
    refine jm_goto (tgt := 12) jd_Moves_listSources_8 rfl ?_
    refine jm_istore_n (i := 2) jd_Moves_listSources_12 rfl (by decide) (ls2 := [some (jm_R 62), some (jm_I x1), some (jm_I 3), none, none]) rfl ?_
    refine jm_iconst jd_Moves_listSources_13 (jm_o32c rfl) ?_
    refine jm_istore_n (i := 3) jd_Moves_listSources_14 rfl (by decide) (ls2 := [some (jm_R 62), some (jm_I x1), some (jm_I 3), some (jm_I 0), none]) rfl ?_
    exact H
set_option maxRecDepth 4000 in
theorem js_Moves_listSources_15 {E : jm_Env} {P : List jm_C} (hP : P.length = 62) {x1 x2 x3 : Int} {h : jm_H} {K : jm_H → Prop} (H : ((3 ≤ x3) → K h) ∧ ((¬ 3 ≤ x3) → jm_BV E (jm_SM P) jm_m_Moves_listSources 1 23 [some (jm_R 62), some (jm_I x1), some (jm_I x2), some (jm_I x3), some (jm_I 0)] [] h K)) : jm_BV E (jm_SM P) jm_m_Moves_listSources 1 15 [some (jm_R 62), some (jm_I x1), some (jm_I x2), some (jm_I x3), none] [] h K := by
  refine jm_iload_n jd_Moves_listSources_15 rfl rfl ?_
  refine jm_iconst jd_Moves_listSources_16 (jm_o32c rfl) ?_
  refine jm_icmp_ge (tgt := 135) jd_Moves_listSources_17 rfl (fun hc1 => ?_) (fun hc1 => ?_)
  · replace H := H.1 hc1
    exact jm_vreturn jd_Moves_listSources_135 rfl (by decide) ⟨rfl, rfl, H⟩
  · replace H := H.2 hc1
    refine jm_iconst jd_Moves_listSources_20 (jm_o32c rfl) ?_
    refine jm_istore (i := 4) jd_Moves_listSources_21 (by decide) (ls2 := [some (jm_R 62), some (jm_I x1), some (jm_I x2), some (jm_I x3), some (jm_I 0)]) rfl ?_
    exact H
set_option maxRecDepth 4000 in
theorem js_Moves_listSources_23 {E : jm_Env} {P : List jm_C} (hP : P.length = 62) {x1 x2 x3 x4 : Int} {h : jm_H} {K : jm_H → Prop} (H : ((x2 ≤ x4) → jm_BV E (jm_SM P) jm_m_Moves_listSources 1 15 [some (jm_R 62), some (jm_I x1), some (jm_I x2), some (jm_I (jm_w32 (x3 + 1))), none] [] h K) ∧ ((¬ x2 ≤ x4) → jm_CI E (jm_SM P) jm_m_Moves_isNew 0 [jm_I x1, jm_I x3, jm_I x4] h (fun v2 h2 => ((v2 = 0) → jm_BV E (jm_SM P) jm_m_Moves_listSources 1 23 [some (jm_R 62), some (jm_I x1), some (jm_I x2), some (jm_I x3), some (jm_I (jm_w32 (x4 + 1)))] [] h2 K) ∧ ((¬ v2 = 0) → ((24 ≤ h2 62 5) → jm_BV E (jm_SM P) jm_m_Moves_listSources 1 23 [some (jm_R 62), some (jm_I x1), some (jm_I x2), some (jm_I x3), some (jm_I (jm_w32 (x4 + 1)))] [] h2 K) ∧ ((¬ 24 ≤ h2 62 5) → (0 ≤ h2 62 5 ∧ h2 62 5 < 24) ∧ ((0 ≤ h2 62 5 ∧ h2 62 5 < 24) ∧ (jm_CI E (jm_SM P) jm_m_Row_hasSecond 0 [jm_I x1] (jm_up (jm_up h2 63 (Int.toNat (h2 62 5)) x3) 64 (Int.toNat (h2 62 5)) x4) (fun v7 h7 => ((v7 = 0) → (0 ≤ h2 62 5 ∧ h2 62 5 < 24) ∧ (jm_CI E (jm_SM P) jm_m_Moves_isNewAtFirst 0 [jm_I x1, jm_I x3, jm_I x4] (jm_up h7 65 (Int.toNat (h2 62 5)) (jv_or (jv_shl 1 x3) 0)) (fun v10 h10 => (v10 = 0 ∨ v10 = 1) ∧ ((0 ≤ h7 62 5 ∧ h7 62 5 < 24) ∧ (jm_BV E (jm_SM P) jm_m_Moves_listSources 1 23 [some (jm_R 62), some (jm_I x1), some (jm_I x2), some (jm_I x3), some (jm_I (jm_w32 (x4 + 1)))] [] (jm_up (jm_up h10 66 (Int.toNat (h7 62 5)) v10) 62 5 (jm_w32 ((h10 62 5) + 1))) K))))) ∧ ((¬ v7 = 0) → (0 ≤ h2 62 5 ∧ h2 62 5 < 24) ∧ (jm_CI E (jm_SM P) jm_m_Moves_isNewAtFirst 0 [jm_I x1, jm_I x3, jm_I x4] (jm_up h7 65 (Int.toNat (h2 62 5)) (jv_or (jv_shl 1 x3) (jv_shl 1 x4))) (fun v14 h14 => (v14 = 0 ∨ v14 = 1) ∧ ((0 ≤ h7 62 5 ∧ h7 62 5 < 24) ∧ (jm_BV E (jm_SM P) jm_m_Moves_listSources 1 23 [some (jm_R 62), some (jm_I x1), some (jm_I x2), some (jm_I x3), some (jm_I (jm_w32 (x4 + 1)))] [] (jm_up (jm_up h14 66 (Int.toNat (h7 62 5)) v14) 62 5 (jm_w32 ((h14 62 5) + 1))) K))))))))))))) : jm_BV E (jm_SM P) jm_m_Moves_listSources 1 23 [some (jm_R 62), some (jm_I x1), some (jm_I x2), some (jm_I x3), some (jm_I x4)] [] h K := by
  refine jm_iload jd_Moves_listSources_23 rfl ?_
  refine jm_iload_n jd_Moves_listSources_25 rfl rfl ?_
  refine jm_icmp_ge (tgt := 129) jd_Moves_listSources_26 rfl (fun hc1 => ?_) (fun hc1 => ?_)
  · replace H := H.1 hc1
    refine jm_iinc jd_Moves_listSources_129 rfl (by decide) (ls2 := [some (jm_R 62), some (jm_I x1), some (jm_I x2), some (jm_I (jm_w32 (x3 + 1))), some (jm_I x4)]) rfl ?_
    refine jm_goto (tgt := 15) jd_Moves_listSources_132 rfl ?_
    refine jm_keepG [true, true, true, true, false] (ls2 := [some (jm_R 62), some (jm_I x1), some (jm_I x2), some (jm_I (jm_w32 (x3 + 1))), none]) (by rfl) (by rfl) ?_
    exact H
  · replace H := H.2 hc1
    refine jm_iload_n jd_Moves_listSources_29 rfl rfl ?_
    refine jm_iload_n jd_Moves_listSources_30 rfl rfl ?_
    refine jm_iload jd_Moves_listSources_31 rfl ?_
    refine jm_cS (M' := jm_m_Moves_isNew) (d' := 0) (av := [jm_I x1, jm_I x3, jm_I x4]) jd_Moves_listSources_33 jk_Moves_isNew jw_291 rfl (by omega) ⟨rfl, rfl⟩ (by decide) (Nat.le_of_ble_eq_true rfl) (jm_hqI (fun v2 h2 H => ?_)) H
    refine jm_if_eq (tgt := 123) jd_Moves_listSources_36 rfl (fun hc3 => ?_) (fun hc3 => ?_)
    · replace H := H.1 hc3
      refine jm_iinc jd_Moves_listSources_123 rfl (by decide) (ls2 := [some (jm_R 62), some (jm_I x1), some (jm_I x2), some (jm_I x3), some (jm_I (jm_w32 (x4 + 1)))]) rfl ?_
      refine jm_goto (tgt := 23) jd_Moves_listSources_126 rfl ?_
      exact H
    · replace H := H.2 hc3
      refine jm_aload_n jd_Moves_listSources_39 rfl rfl ?_
      refine jm_gI jd_Moves_listSources_40 jf_Moves_26 (jm_SM_62 hP) ?_
      refine jm_bipush jd_Moves_listSources_43 jb_24 ?_
      refine jm_icmp_ge (tgt := 123) jd_Moves_listSources_45 rfl (fun hc4 => ?_) (fun hc4 => ?_)
      · replace H := H.1 hc4
        refine jm_iinc jd_Moves_listSources_123 rfl (by decide) (ls2 := [some (jm_R 62), some (jm_I x1), some (jm_I x2), some (jm_I x3), some (jm_I (jm_w32 (x4 + 1)))]) rfl ?_
        refine jm_goto (tgt := 23) jd_Moves_listSources_126 rfl ?_
        exact H
      · replace H := H.2 hc4
        refine jm_aload_n jd_Moves_listSources_48 rfl rfl ?_
        refine jm_gR jd_Moves_listSources_49 jf_Moves_9 (jm_SM_62 hP) rfl ?_
        refine jm_aload_n jd_Moves_listSources_52 rfl rfl ?_
        refine jm_gI jd_Moves_listSources_53 jf_Moves_26 (jm_SM_62 hP) ?_
        refine jm_iload_n jd_Moves_listSources_56 rfl rfl ?_
        obtain ⟨hb5, H⟩ := H
        refine jm_iastore jd_Moves_listSources_57 (jm_SM_63 hP) hb5 ?_
        refine jm_aload_n jd_Moves_listSources_58 rfl rfl ?_
        refine jm_gR jd_Moves_listSources_59 jf_Moves_13 (jm_SM_62 hP) rfl ?_
        refine jm_aload_n jd_Moves_listSources_62 rfl rfl ?_
        refine jm_gI jd_Moves_listSources_63 jf_Moves_26 (jm_SM_62 hP) ?_
        refine jm_topI (y := h2 62 5) rfl ?_
        refine jm_iload jd_Moves_listSources_66 rfl ?_
        obtain ⟨hb6, H⟩ := H
        refine jm_iastore jd_Moves_listSources_68 (jm_SM_64 hP) hb6 ?_
        refine jm_aload_n jd_Moves_listSources_69 rfl rfl ?_
        refine jm_gR jd_Moves_listSources_70 jf_Moves_16 (jm_SM_62 hP) rfl ?_
        refine jm_aload_n jd_Moves_listSources_73 rfl rfl ?_
        refine jm_gI jd_Moves_listSources_74 jf_Moves_26 (jm_SM_62 hP) ?_
        refine jm_topI (y := h2 62 5) rfl ?_
        refine jm_iconst jd_Moves_listSources_77 (jm_o32c rfl) ?_
        refine jm_iload_n jd_Moves_listSources_78 rfl rfl ?_
        refine jm_ishl jd_Moves_listSources_79 ?_
        refine jm_iload_n jd_Moves_listSources_80 rfl rfl ?_
        refine jm_cS (M' := jm_m_Row_hasSecond) (d' := 0) (av := [jm_I x1]) jd_Moves_listSources_81 jk_Row_hasSecond jw_288 rfl (by omega) ⟨rfl, rfl⟩ (by decide) (Nat.le_of_ble_eq_true rfl) (jm_hqI (fun v7 h7 H => ?_)) H
        refine jm_if_eq (tgt := 94) jd_Moves_listSources_84 rfl (fun hc8 => ?_) (fun hc8 => ?_)
        · replace H := H.1 hc8
          refine jm_iconst jd_Moves_listSources_94 (jm_o32c rfl) ?_
          refine jm_ior jd_Moves_listSources_95 ?_
          obtain ⟨hb9, H⟩ := H
          refine jm_iastore jd_Moves_listSources_96 (jm_SM_65 hP) hb9 ?_
          refine jm_aload_n jd_Moves_listSources_97 rfl rfl ?_
          refine jm_gR jd_Moves_listSources_98 jf_Moves_19 (jm_SM_62 hP) rfl ?_
          refine jm_aload_n jd_Moves_listSources_101 rfl rfl ?_
          refine jm_gI jd_Moves_listSources_102 jf_Moves_26 (jm_SM_62 hP) ?_
          refine jm_topI (y := h7 62 5) rfl ?_
          refine jm_iload_n jd_Moves_listSources_105 rfl rfl ?_
          refine jm_iload_n jd_Moves_listSources_106 rfl rfl ?_
          refine jm_iload jd_Moves_listSources_107 rfl ?_
          refine jm_cS (M' := jm_m_Moves_isNewAtFirst) (d' := 0) (av := [jm_I x1, jm_I x3, jm_I x4]) jd_Moves_listSources_109 jk_Moves_isNewAtFirst jw_294 rfl (by omega) ⟨rfl, rfl⟩ (by decide) (Nat.le_of_ble_eq_true rfl) (jm_hqI (fun v10 h10 H => ?_)) H
          obtain ⟨hz11, H⟩ := H
          obtain ⟨hb12, H⟩ := H
          refine jm_bastore jd_Moves_listSources_112 (jm_SM_66 hP) hb12 hz11 ?_
          refine jm_aload_n jd_Moves_listSources_113 rfl rfl ?_
          refine jm_dup jd_Moves_listSources_114 rfl ?_
          refine jm_gI jd_Moves_listSources_115 jf_Moves_26 (jm_SM_62 hP) ?_
          refine jm_topI (y := h10 62 5) rfl ?_
          refine jm_iconst jd_Moves_listSources_118 (jm_o32c rfl) ?_
          refine jm_iadd jd_Moves_listSources_119 ?_
          refine jm_sI jd_Moves_listSources_120 jp_Moves_26 (jm_SM_62 hP) ?_
          refine jm_iinc jd_Moves_listSources_123 rfl (by decide) (ls2 := [some (jm_R 62), some (jm_I x1), some (jm_I x2), some (jm_I x3), some (jm_I (jm_w32 (x4 + 1)))]) rfl ?_
          refine jm_goto (tgt := 23) jd_Moves_listSources_126 rfl ?_
          exact H
        · replace H := H.2 hc8
          refine jm_iconst jd_Moves_listSources_87 (jm_o32c rfl) ?_
          refine jm_iload jd_Moves_listSources_88 rfl ?_
          refine jm_ishl jd_Moves_listSources_90 ?_
          refine jm_goto (tgt := 95) jd_Moves_listSources_91 rfl ?_
          refine jm_ior jd_Moves_listSources_95 ?_
          obtain ⟨hb13, H⟩ := H
          refine jm_iastore jd_Moves_listSources_96 (jm_SM_65 hP) hb13 ?_
          refine jm_aload_n jd_Moves_listSources_97 rfl rfl ?_
          refine jm_gR jd_Moves_listSources_98 jf_Moves_19 (jm_SM_62 hP) rfl ?_
          refine jm_aload_n jd_Moves_listSources_101 rfl rfl ?_
          refine jm_gI jd_Moves_listSources_102 jf_Moves_26 (jm_SM_62 hP) ?_
          refine jm_topI (y := h7 62 5) rfl ?_
          refine jm_iload_n jd_Moves_listSources_105 rfl rfl ?_
          refine jm_iload_n jd_Moves_listSources_106 rfl rfl ?_
          refine jm_iload jd_Moves_listSources_107 rfl ?_
          refine jm_cS (M' := jm_m_Moves_isNewAtFirst) (d' := 0) (av := [jm_I x1, jm_I x3, jm_I x4]) jd_Moves_listSources_109 jk_Moves_isNewAtFirst jw_294 rfl (by omega) ⟨rfl, rfl⟩ (by decide) (Nat.le_of_ble_eq_true rfl) (jm_hqI (fun v14 h14 H => ?_)) H
          obtain ⟨hz15, H⟩ := H
          obtain ⟨hb16, H⟩ := H
          refine jm_bastore jd_Moves_listSources_112 (jm_SM_66 hP) hb16 hz15 ?_
          refine jm_aload_n jd_Moves_listSources_113 rfl rfl ?_
          refine jm_dup jd_Moves_listSources_114 rfl ?_
          refine jm_gI jd_Moves_listSources_115 jf_Moves_26 (jm_SM_62 hP) ?_
          refine jm_topI (y := h14 62 5) rfl ?_
          refine jm_iconst jd_Moves_listSources_118 (jm_o32c rfl) ?_
          refine jm_iadd jd_Moves_listSources_119 ?_
          refine jm_sI jd_Moves_listSources_120 jp_Moves_26 (jm_SM_62 hP) ?_
          refine jm_iinc jd_Moves_listSources_123 rfl (by decide) (ls2 := [some (jm_R 62), some (jm_I x1), some (jm_I x2), some (jm_I x3), some (jm_I (jm_w32 (x4 + 1)))]) rfl ?_
          refine jm_goto (tgt := 23) jd_Moves_listSources_126 rfl ?_
          exact H
