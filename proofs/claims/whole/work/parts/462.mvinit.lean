/-! Moves' rows as they are made -/
def nx_ (o x y : Nat) : Nat := (mv_T.filter (fun p => decide (p.1 < o ∨ (p.1 = o ∧ (p.2.1 < x ∨ (p.2.1 = x ∧ p.2.2 < y)))))).length
theorem nx_1 : ∀ (o : Fin 7) (x y : Fin 3), (((o : Nat) = 0 ∧ (x : Nat) ≤ (y : Nat)) ∨ ((o : Nat) = 1 ∧ (x : Nat) ≠ (y : Nat)) ∨ (((o : Nat) = 2 ∨ (o : Nat) = 3 ∨ (o : Nat) = 4) ∧ (x : Nat) < (y : Nat)) ∨ (o : Nat) = 6) → ((o : Nat) < 5 ∨ (y : Nat) = 0) → mo_ (nx_ o x y) = (o : Nat) ∧ mx_ (nx_ o x y) = (x : Nat) ∧ my_ (nx_ o x y) = (y : Nat) ∧ nx_ o x y < 24 ∧ nx_ o x ((y : Nat) + 1) = nx_ o x y + 1 := by decide +kernel
theorem nx_2 : ∀ (o : Fin 7) (x y : Fin 3), ¬ (((o : Nat) = 0 ∧ (x : Nat) ≤ (y : Nat)) ∨ ((o : Nat) = 1 ∧ (x : Nat) ≠ (y : Nat)) ∨ (((o : Nat) = 2 ∨ (o : Nat) = 3 ∨ (o : Nat) = 4) ∧ (x : Nat) < (y : Nat)) ∨ (o : Nat) = 6) → ((o : Nat) < 5 ∨ (y : Nat) = 0) → nx_ o x ((y : Nat) + 1) = nx_ o x y := by decide +kernel
theorem nx_3 : ∀ (o : Fin 7) (x : Fin 3), ((o : Nat) < 5 → nx_ o x 3 = nx_ o ((x : Nat) + 1) 0) ∧ (5 ≤ (o : Nat) → nx_ o x 1 = nx_ o ((x : Nat) + 1) 0) := by decide +kernel
theorem nx_4 : ∀ o : Fin 7, nx_ o 0 0 = bg_ o ∧ nx_ o 3 0 = bg_ ((o : Nat) + 1) := by decide +kernel
theorem nx_5 : ∀ m : Fin 24, (mo_ m < 5 → jv_or (jv_shl 1 (mx_ m : Nat)) (jv_shl 1 (my_ m : Nat)) = (mr_ m : Nat)) ∧ (¬ mo_ m < 5 → jv_or (jv_shl 1 (mx_ m : Nat)) 0 = (mr_ m : Nat)) := by decide +kernel
def mvp_ (h : jm_H) (k : Nat) : Prop := h 62 5 = (k : Nat) ∧ ∀ m, m < k → h 63 m = (mx_ m : Nat) ∧ h 64 m = (my_ m : Nat) ∧ h 65 m = (mr_ m : Nat) ∧ h 66 m = (ma_ m : Nat)
def mvf_ (h h2 : jm_H) : Prop := ∀ a v, ¬ ((a = 62 ∧ v = 5) ∨ (63 ≤ a ∧ a ≤ 66)) → h2 a v = h a v
theorem mvf_.tr {h h1 h2 : jm_H} (p : mvf_ h h1) (q : mvf_ h1 h2) : mvf_ h h2 := fun a b z => (q a b z).trans (p a b z)
section MI
variable {E : jm_Env} {P : List jm_C} {h : jm_H}
theorem rs_isNew (hP : P.length = 62) {o x y : Nat} {K : Int → jm_H → Prop} (ho : o < 7) (k1 : iN_ o x y → K 1 h) (k0 : ¬ iN_ o x y → K 0 h) : jm_CI E (jm_SM P) jm_m_Moves_isNew 0 [jm_I o, jm_I x, jm_I y] h K := by
  unfold iN_ at k1 k0
  refine js_Moves_isNew hP ⟨fun q => ⟨fun z => k0 (by omega), fun z => k1 (by omega)⟩, fun q => ⟨fun z => k0 (by omega), fun z => k1 (by omega)⟩, fun q => ⟨fun z => k0 (by omega), fun z => k1 (by omega)⟩, fun q => ⟨fun z => k0 (by omega), fun z => k1 (by omega)⟩, fun q => ⟨fun z => k0 (by omega), fun z => k1 (by omega)⟩, fun q => k0 (by omega), fun q => k1 (by omega)⟩
theorem rs_atFirst (hP : P.length = 62) {m : Nat} {K : Int → jm_H → Prop} (hk : K (ma_ m : Nat) h) : jm_CI E (jm_SM P) jm_m_Moves_isNewAtFirst 0 [jm_I (mo_ m : Nat), jm_I (mx_ m : Nat), jm_I (my_ m : Nat)] h K := by
  have e0 : ((mo_ m = 1 ∧ my_ m = 2) ∨ ((mo_ m = 2 ∨ mo_ m = 3 ∨ mo_ m = 4) ∧ ¬ (mx_ m = 0 ∧ my_ m = 1))) → K 0 h := fun z => by
    unfold ma_ at hk
    rw [if_pos z] at hk
    exact hk
  have e1 : ¬ ((mo_ m = 1 ∧ my_ m = 2) ∨ ((mo_ m = 2 ∨ mo_ m = 3 ∨ mo_ m = 4) ∧ ¬ (mx_ m = 0 ∧ my_ m = 1))) → K 1 h := fun z => by
    unfold ma_ at hk
    rw [if_neg z] at hk
    exact hk
  refine js_Moves_isNewAtFirst hP ⟨fun q => ⟨fun z => e0 (by omega), fun z => e1 (by omega)⟩, fun q => ⟨fun z => e0 (by omega), fun z => ⟨fun w => e0 (by omega), fun w => e1 (by omega)⟩⟩, fun q => ⟨fun z => e0 (by omega), fun z => ⟨fun w => e0 (by omega), fun w => e1 (by omega)⟩⟩, fun q => ⟨fun z => e0 (by omega), fun z => ⟨fun w => e0 (by omega), fun w => e1 (by omega)⟩⟩, fun q => e1 (by omega)⟩
theorem rs_second (hP : P.length = 62) {x : Int} {K : Int → jm_H → Prop} (k1 : x < 5 → K 1 h) (k0 : ¬ x < 5 → K 0 h) : jm_CI E (jm_SM P) jm_m_Row_hasSecond 0 [jm_I x] h K :=
  js_Row_hasSecond hP ⟨fun q => k0 (by omega), fun q => k1 (by omega)⟩
theorem rs_ls23 (hP : P.length = 62) {o x : Nat} {K : jm_H → Prop} (ho : o < 7) (hx : x < 3) (hk : ∀ h2 : jm_H, mvp_ h2 (nx_ o (x + 1) 0) → mvf_ h h2 → jm_BV E (jm_SM P) jm_m_Moves_listSources 1 15 [some (jm_R 62), some (jm_I o), some (jm_I ((if o < 5 then 3 else 1 : Nat) : Int)), some (jm_I (jm_w32 ((x : Int) + 1))), none] [] h2 K) : ∀ (g y : Nat) (x4 : Int) (h1 : jm_H), g + y = (if o < 5 then 3 else 1) → x4 = y → mvp_ h1 (nx_ o x y) → mvf_ h h1 → jm_BV E (jm_SM P) jm_m_Moves_listSources 1 23 [some (jm_R 62), some (jm_I o), some (jm_I ((if o < 5 then 3 else 1 : Nat) : Int)), some (jm_I x), some (jm_I x4)] [] h1 K
  | 0, y, x4, h1, hg, e4, hm, hf => by
    subst e4
    have e : nx_ o x y = nx_ o (x + 1) 0 := by
      have := nx_3 ⟨o, ho⟩ ⟨x, hx⟩
      simp only at this
      by_cases q : o < 5
      · rw [if_pos q] at hg
        rw [show y = 3 by omega]
        exact this.1 q
      · rw [if_neg q] at hg
        rw [show y = 1 by omega]
        exact this.2 (by omega)
    rw [e] at hm
    refine js_Moves_listSources_23 hP ⟨fun _ => hk h1 hm hf, fun z => by omega⟩
  | g + 1, y, x4, h1, hg, e4, hm, hf => by
    subst e4
    have hy : y < 3 ∧ (o < 5 ∨ y = 0) := by
      by_cases q : o < 5
      · rw [if_pos q] at hg; omega
      · rw [if_neg q] at hg; omega
    refine js_Moves_listSources_23 hP ⟨fun z => by omega, fun _ => ?_⟩
    refine rs_isNew hP ho (fun hn => ⟨fun z => by omega, fun _ => ?_⟩) (fun hn => ⟨fun _ => ?_, fun z => absurd rfl z⟩)
    · obtain ⟨n1, n2, n3, n4, n5⟩ := nx_1 ⟨o, ho⟩ ⟨x, hx⟩ ⟨y, hy.1⟩ hn hy.2
      simp only at n1 n2 n3 n4 n5
      obtain ⟨r1, r2⟩ := nx_5 ⟨nx_ o x y, n4⟩
      simp only at r1 r2
      rw [hm.1, jm_tn]
      have fin : ∀ v : Int, v = (mr_ (nx_ o x y) : Nat) → jm_CI E (jm_SM P) jm_m_Moves_isNewAtFirst 0 [jm_I (o : Nat), jm_I (x : Nat), jm_I (y : Nat)] (jm_up (jm_up (jm_up h1 63 (nx_ o x y) (x : Int)) 64 (nx_ o x y) (y : Int)) 65 (nx_ o x y) v) (fun v10 h10 => (v10 = 0 ∨ v10 = 1) ∧ ((0 ≤ jm_up (jm_up h1 63 (nx_ o x y) (x : Int)) 64 (nx_ o x y) (y : Int) 62 5 ∧ jm_up (jm_up h1 63 (nx_ o x y) (x : Int)) 64 (nx_ o x y) (y : Int) 62 5 < 24) ∧ (jm_BV E (jm_SM P) jm_m_Moves_listSources 1 23 [some (jm_R 62), some (jm_I (o : Nat)), some (jm_I ((if o < 5 then 3 else 1 : Nat) : Int)), some (jm_I (x : Nat)), some (jm_I (jm_w32 ((y : Int) + 1)))] [] (jm_up (jm_up h10 66 (Int.toNat (jm_up (jm_up h1 63 (nx_ o x y) (x : Int)) 64 (nx_ o x y) (y : Int) 62 5)) v10) 62 5 (jm_w32 ((h10 62 5) + 1))) K))) := fun v hv => by
        have ea : [jm_I (o : Nat), jm_I (x : Nat), jm_I (y : Nat)] = [jm_I (mo_ (nx_ o x y) : Nat), jm_I (mx_ (nx_ o x y) : Nat), jm_I (my_ (nx_ o x y) : Nat)] := by rw [n1, n2, n3]
        rw [ea]
        have ma01 : (ma_ (nx_ o x y) : Int) = 0 ∨ (ma_ (nx_ o x y) : Int) = 1 := by
          unfold ma_
          split
          · exact Or.inl rfl
          · exact Or.inr rfl
        refine rs_atFirst hP ⟨ma01, ?_⟩
        rw [up_o (by omega), up_o (by omega), hm.1, up_o (by omega), up_o (by omega), up_o (by omega), hm.1, jm_tn, jm_w (x := ((nx_ o x y : Nat) : Int) + 1) (by omega) (by omega), jm_w (x := (y : Int) + 1) (by omega) (by omega)]
        refine ⟨by omega, rs_ls23 hP ho hx hk g (y + 1) _ _ (by omega) (by omega) ⟨?_, fun m hm2 => ?_⟩ (hf.tr fun a v z => ?_)⟩
        · rw [up_s, n5]
          rfl
        · rw [n5] at hm2
          by_cases q : m = nx_ o x y
          · subst q
            rw [up_o (by omega), up_o (by omega), up_o (by omega), up_o (by omega), up_s, up_o (by omega), up_o (by omega), up_o (by omega), up_s, up_o (by omega), up_o (by omega), up_s, up_o (by omega), up_s]
            exact ⟨by rw [n2], by rw [n3], hv, rfl⟩
          · obtain ⟨t1, t2, t3, t4⟩ := hm.2 m (by omega)
            refine ⟨?_, ?_, ?_, ?_⟩ <;> rw [up_o (by omega), up_o (by omega), up_o (by omega), up_o (by omega), up_o (by omega)] <;> assumption
        · rw [up_o (by omega), up_o (by omega), up_o (by omega), up_o (by omega), up_o (by omega)]
      refine ⟨fun z => by omega, fun _ => ⟨by omega, by omega, ?_⟩⟩
      refine rs_second hP (fun q => ⟨fun z => by omega, fun _ => ⟨by omega, ?_⟩⟩) (fun q => ⟨fun _ => ⟨by omega, ?_⟩, fun z => absurd rfl z⟩)
      · refine fin _ ?_
        rw [← r1 (by omega), n2, n3]
      · refine fin _ ?_
        rw [← r2 (by omega), n2]
    · have := nx_2 ⟨o, ho⟩ ⟨x, hx⟩ ⟨y, hy.1⟩ hn hy.2
      simp only at this
      rw [jm_w (by omega) (by omega)]
      exact rs_ls23 hP ho hx hk g (y + 1) _ h1 (by omega) (by omega) (by rw [this]; exact hm) hf
theorem rs_ls15 (hP : P.length = 62) {o : Nat} {K : jm_H → Prop} (ho : o < 7) (hk : ∀ h2 : jm_H, mvp_ h2 (bg_ (o + 1)) → mvf_ h h2 → K h2) : ∀ (g x : Nat) (x3 : Int) (h1 : jm_H), g + x = 3 → x3 = x → mvp_ h1 (nx_ o x 0) → mvf_ h h1 → jm_BV E (jm_SM P) jm_m_Moves_listSources 1 15 [some (jm_R 62), some (jm_I o), some (jm_I ((if o < 5 then 3 else 1 : Nat) : Int)), some (jm_I x3), none] [] h1 K
  | 0, x, x3, h1, hg, e3, hm, hf => by
    subst e3
    have hx : x = 3 := by omega
    subst hx
    have := nx_4 ⟨o, ho⟩
    simp only at this
    rw [this.2] at hm
    exact js_Moves_listSources_15 hP ⟨fun _ => hk h1 hm hf, fun z => by omega⟩
  | g + 1, x, x3, h1, hg, e3, hm, hf => by
    subst e3
    refine js_Moves_listSources_15 hP ⟨fun z => by omega, fun _ => ?_⟩
    refine rs_ls23 (h := h) hP ho (by omega) (fun h2 a1 a2 => ?_) (if o < 5 then 3 else 1) 0 _ h1 (by omega) rfl hm hf
    rw [jm_w (by omega) (by omega)]
    exact rs_ls15 hP ho hk g (x + 1) _ h2 (by omega) (by omega) a1 a2
theorem rs_list (hP : P.length = 62) {o : Nat} {K : jm_H → Prop} (ho : o < 7) (hm : mvp_ h (bg_ o)) (hk : ∀ h2 : jm_H, mvp_ h2 (bg_ (o + 1)) → mvf_ h h2 → K h2) : jm_CV E (jm_SM P) jm_m_Moves_listSources 1 [jm_R 62, jm_I o] h K := by
  have e := nx_4 ⟨o, ho⟩
  simp only at e
  have go := rs_ls15 (E := E) hP ho hk 3 0 0 h rfl rfl (by rw [e.1]; exact hm) (fun _ _ _ => rfl)
  refine js_Moves_listSources hP (rs_second hP (fun q => ⟨fun z => by omega, fun _ => ?_⟩) (fun q => ⟨fun _ => ?_, fun z => absurd rfl z⟩))
  · rw [if_pos (show o < 5 by omega)] at go
    exact go
  · rw [if_neg (show ¬ o < 5 by omega)] at go
    exact go
/-- Moves' constructor: its loop -/
theorem rs_mv46 (hP : P.length = 62) {Q : jm_Q} (hk : ∀ h2 : jm_H, (∀ a v, a < 62 → h2 a v = h a v) → mv_C h2 → Q none (jm_SM P) h2) : ∀ (g o : Nat) (x1 : Int) (h1 : jm_H), g + o = 7 → x1 = o → mvp_ h1 (bg_ o) → (∀ o2, o2 < o → h1 67 o2 = (bg_ o2 : Nat)) → (∀ a v, a < 62 → h1 a v = h a v) → jm_G E jm_m_Moves_init 2 5 104 46 [some (jm_R 62), some (jm_I x1)] [] (jm_SM P) h1 Q
  | 0, o, x1, h1, hg, e1, hm, hb, hf => by
    subst e1
    have ho : o = 7 := by omega
    subst ho
    refine jm_iload_n jd_Moves_init_46 rfl rfl ?_
    refine jm_bipush jd_Moves_init_47 jb_7 ?_
    refine jm_icmp_ge (tgt := 73) jd_Moves_init_49 rfl (fun hc => ?_) (fun hc => absurd (Int.le_refl _) hc)
    refine jm_aload_n jd_Moves_init_73 rfl rfl ?_
    refine jm_gR jd_Moves_init_74 jf_Moves_23 (jm_SM_62 hP) rfl ?_
    refine jm_bipush jd_Moves_init_77 jb_7 ?_
    refine jm_aload_n jd_Moves_init_79 rfl rfl ?_
    refine jm_gI jd_Moves_init_80 jf_Moves_26 (jm_SM_62 hP) ?_
    refine jm_iastore jd_Moves_init_83 (jm_SM_67 hP) (by decide) ?_
    refine jm_vreturn jd_Moves_init_84 rfl (by decide) (hk _ (fun a v z => ?_) ⟨fun m hm2 => ?_, fun o2 ho2 => ?_⟩)
    · rw [up_o (by omega)]
      exact hf a v z
    · rw [up_o (by omega), up_o (by omega), up_o (by omega), up_o (by omega)]
      exact hm.2 m hm2
    · by_cases e : o2 = 7
      · subst e
        show jm_up h1 67 7 (h1 62 5) 67 7 = _
        rw [up_s, hm.1]
      · rw [up_o (by show ¬ (67 = 67 ∧ o2 = 7); omega)]
        exact hb o2 (by omega)
  | g + 1, o, x1, h1, hg, e1, hm, hb, hf => by
    subst e1
    refine jm_iload_n jd_Moves_init_46 rfl rfl ?_
    refine jm_bipush jd_Moves_init_47 jb_7 ?_
    refine jm_icmp_ge (tgt := 73) jd_Moves_init_49 rfl (fun hc => by omega) (fun _ => ?_)
    refine jm_aload_n jd_Moves_init_52 rfl rfl ?_
    refine jm_gR jd_Moves_init_53 jf_Moves_23 (jm_SM_62 hP) rfl ?_
    refine jm_iload_n jd_Moves_init_56 rfl rfl ?_
    refine jm_aload_n jd_Moves_init_57 rfl rfl ?_
    refine jm_gI jd_Moves_init_58 jf_Moves_26 (jm_SM_62 hP) ?_
    refine jm_iastore jd_Moves_init_61 (jm_SM_67 hP) (by omega) ?_
    refine jm_aload_n jd_Moves_init_62 rfl rfl ?_
    refine jm_iload_n jd_Moves_init_63 rfl rfl ?_
    rw [jm_tn]
    refine jm_cV (M' := jm_m_Moves_listSources) (d' := 1) (av := [jm_I o]) jd_Moves_init_64 jk_Moves_listSources jw_284 rfl (by omega) ⟨rfl, rfl⟩ (by decide) (Nat.le_of_ble_eq_true rfl) (jm_SM_62 hP) rfl rfl (jm_hqV (fun h3 H => ?_)) (rs_list (K := fun h3 => jm_G E jm_m_Moves_init 2 5 104 67 [some (jm_R 62), some (jm_I o)] [] (jm_SM P) h3 Q) hP (by omega) ⟨?_, fun m hm2 => ?_⟩ (fun h3 a1 a2 => ?_))
    · exact H
    · rw [up_o (by omega)]
      exact hm.1
    · rw [up_o (by omega), up_o (by omega), up_o (by omega), up_o (by omega)]
      exact hm.2 m hm2
    · refine jm_iinc jd_Moves_init_67 rfl (by decide) (ls2 := [some (jm_R 62), some (jm_I (jm_w32 ((o : Int) + 1)))]) rfl ?_
      refine jm_goto (tgt := 46) jd_Moves_init_70 rfl ?_
      rw [jm_w (by omega) (by omega)]
      refine rs_mv46 hP hk g (o + 1) _ h3 (by omega) (by omega) a1 (fun o2 ho2 => ?_) (fun a v z => ?_)
      · rw [a2 _ _ (by omega)]
        by_cases e : o2 = o
        · subst e
          rw [up_s, hm.1]
        · rw [up_o (by omega)]
          exact hb o2 (by omega)
      · rw [a2 _ _ (by omega), up_o (by omega)]
        exact hf a v z
end MI
