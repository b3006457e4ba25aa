/-! the reference's row: the same words -/
def rw_M (h : jm_H) (n : Nat) (r : Nat → Nat → Int) : Prop := h 78 32 = n ∧ n ≤ 12 ∧ ∀ i, i < n → h 99 i = r 0 i ∧ h 100 i = r 1 i ∧ h 101 i = r 2 i ∧ h 102 i = r 3 i ∧ h 103 i = r 4 i ∧ h 104 i = r 5 i
theorem rw_M.off {h h' : jm_H} {n : Nat} {r : Nat → Nat → Int} (hr : rw_M h n r) (e : ∀ a b, (a = 78 ∧ b = 32) ∨ (99 ≤ a ∧ a ≤ 104) → h' a b = h a b) : rw_M h' n r := by
  obtain ⟨h1, h2, h3⟩ := hr
  refine ⟨by rw [e 78 32 (Or.inl ⟨rfl, rfl⟩)]; exact h1, h2, fun i hi => ?_⟩
  obtain ⟨e0, e1, e2, e3, e4, e5⟩ := h3 i hi
  exact ⟨by rw [e 99 i (by omega)]; exact e0, by rw [e 100 i (by omega)]; exact e1, by rw [e 101 i (by omega)]; exact e2, by rw [e 102 i (by omega)]; exact e3, by rw [e 103 i (by omega)]; exact e4, by rw [e 104 i (by omega)]; exact e5⟩
section RM
variable {E : jm_Env} {h : jm_H} {n : Nat} {r : Nat → Nat → Int} {kp : Int}
theorem rm_uses {i : Nat} {g : Int} {K : Int → jm_H → Prop} (hr : rw_M h n r) (hi : i < n) (k1 : rw_us r i g → K 1 h) (k0 : ¬ rw_us r i g → K 0 h) : jm_CI E jm_SH jm_m_Mod_uses 0 [jm_R 78, jm_I i, jm_I g] h K := by
  obtain ⟨h1, h2, h3⟩ := hr
  obtain ⟨e0, e1, e2, e3, -, -⟩ := h3 i hi
  have hb : (0 : Int) ≤ (i : Int) ∧ (i : Int) < 12 := by omega
  refine jb_Mod_uses ⟨hb, ?_⟩
  rw [jm_tn, e0, e2, e3]
  refine ⟨fun q => k1 (Or.inl q), fun q => ⟨hb, fun z => k0 ?_, fun z => ⟨hb, fun y => k0 ?_, fun y => k1 (Or.inr ⟨by omega, y⟩)⟩⟩⟩
  · rintro (y | y)
    · exact q y
    · omega
  · rintro (x | x)
    · exact q x
    · exact y x.2
theorem rm_lives6 {i : Nat} {K : Int → jm_H → Prop} (hr : rw_M h n r) (hkp : h 78 39 = kp) (hi : i < n) : ∀ (m k : Nat) (x2 x3 : Int), k + m = n → x3 = k → K (lf_to r n kp (r 1 i) m k x2) h → jm_BI E jm_SH jm_m_Mod_livesTo 1 6 [some (jm_R 78), some (jm_I i), some (jm_I x2), some (jm_I x3)] [] h K
  | 0, k, x2, x3, hm, hx, hk => by
    have hn := hr.2.1
    subst hx
    refine jb_Mod_livesTo_6 ⟨fun _ => ⟨by omega, ?_⟩, fun q => by rw [hr.1] at q; omega⟩
    unfold lf_to at hk
    rw [jm_tn, (hr.2.2 i hi).2.1, hkp, hr.1]
    refine ⟨fun q => ?_, fun q => ?_⟩
    · rw [if_neg q] at hk; exact hk
    · rw [if_pos q] at hk; exact hk
  | m + 1, k, x2, x3, hm, hx, hk => by
    have hn := hr.2.1
    subst hx
    refine jb_Mod_livesTo_6 ⟨fun q => by rw [hr.1] at q; omega, fun q => ⟨by omega, ?_⟩⟩
    have e1 := (hr.2.2 k (by omega)).2.1
    have e2 := (hr.2.2 i hi).2.1
    unfold lf_to at hk
    rw [jm_tn, e2]
    refine rm_uses hr (by omega) (fun u => ⟨fun z => by omega, fun _ => ⟨by omega, by omega, ?_⟩⟩) (fun u => ⟨fun _ => ⟨by omega, by omega, ?_⟩, fun z => absurd rfl z⟩)
    · have u2 : r 2 k = r 1 i ∨ (r 0 k < 5 ∧ r 3 k = r 1 i) := u
      rw [if_pos u2] at hk
      rw [jm_tn, e1, e2, jm_w (by omega) (by omega)]
      refine ⟨fun z => ?_, fun z => ?_⟩
      · rw [if_neg z] at hk
        exact rm_lives6 hr hkp hi m (k + 1) _ _ (by omega) (by omega) hk
      · rw [if_pos z] at hk
        exact hk
    · have u2 : ¬ (r 2 k = r 1 i ∨ (r 0 k < 5 ∧ r 3 k = r 1 i)) := u
      rw [if_neg u2] at hk
      rw [jm_tn, e1, e2, jm_w (by omega) (by omega)]
      refine ⟨fun z => ?_, fun z => ?_⟩
      · rw [if_neg z] at hk
        exact rm_lives6 hr hkp hi m (k + 1) _ _ (by omega) (by omega) hk
      · rw [if_pos z] at hk
        exact hk
theorem rm_lives {i : Nat} {K : Int → jm_H → Prop} (hr : rw_M h n r) (hkp : h 78 39 = kp) (hi : i < n) (hk : K (lf r n kp i) h) : jm_CI E jm_SH jm_m_Mod_livesTo 1 [jm_R 78, jm_I i] h K := by
  have hn := hr.2.1
  refine jb_Mod_livesTo ?_
  rw [jm_w (by omega) (by omega)]
  exact rm_lives6 hr hkp hi (n - (i + 1)) (i + 1) _ _ (by omega) (by omega) hk
theorem rm_place4 {p : Nat} {K : Int → jm_H → Prop} (hr : rw_M h n r) (hkp : h 78 39 = kp) (hp : p < n) : ∀ (m i : Nat) (x2 x3 : Int), m + i = p + 1 → x2 = lf_pl r n kp p i → x3 = i → K (lf_pl r n kp p (p + 1)) h → jm_BI E jm_SH jm_m_Mod_placeOf 2 4 [some (jm_R 78), some (jm_I p), some (jm_I x2), some (jm_I x3)] [] h K
  | 0, i, x2, x3, hm, h2, h3, hk => by
    subst h3
    refine jb_Mod_placeOf_4 ⟨fun q => ?_, fun q => by omega⟩
    rw [h2, show i = p + 1 by omega]
    exact hk
  | m + 1, i, x2, x3, hm, h2, h3, hk => by
    have hn := hr.2.1
    subst h3
    have ho := lf_or (r := r) (n := n) (kp := kp) (p := p) (i := i) (by omega)
    refine jb_Mod_placeOf_4 ⟨fun q => by omega, fun q => rm_lives hr hkp (by omega) ⟨fun u => ?_, fun u => ?_⟩⟩
    · rw [jm_w (by omega) (by omega)]
      exact rm_place4 hr hkp hp m (i + 1) _ _ (by omega) (by rw [h2]; exact ho.2 (by omega)) (by omega) hk
    · rw [jm_w (by omega) (by omega)]
      exact rm_place4 hr hkp hp m (i + 1) _ _ (by omega) (by rw [h2]; exact ho.1 (by omega)) (by omega) hk
theorem rm_place {p : Nat} {K : Int → jm_H → Prop} (hr : rw_M h n r) (hkp : h 78 39 = kp) (hp : p < n) (hk : K (lf_pl r n kp p (p + 1)) h) : jm_CI E jm_SH jm_m_Mod_placeOf 2 [jm_R 78, jm_I p] h K :=
  jb_Mod_placeOf (rm_place4 hr hkp hp (p + 1) 0 _ _ rfl rfl rfl hk)
theorem rm_count4 {v : Int} {K : Int → jm_H → Prop} : ∀ (m i : Nat) (x1 x2 : Int), m + i = 12 → x1 = lf_cnt v i → x2 = i → K (lf_cnt v 12) h → jm_BI E jm_SH jm_m_Mod_count 0 4 [some (jm_I v), some (jm_I x1), some (jm_I x2)] [] h K
  | 0, i, x1, x2, hm, h1, h2, hk => by
    subst h2
    refine jb_Mod_count_4 ⟨fun q => ?_, fun q => by omega⟩
    rw [h1, show i = 12 by omega]
    exact hk
  | m + 1, i, x1, x2, hm, h1, h2, hk => by
    subst h2
    have hb := lf_cnt_b v i
    have hc := jv_and_1 (jv_shr v i)
    refine jb_Mod_count_4 ⟨fun q => by omega, fun q => ?_⟩
    rw [h1, jm_w (by omega) (by omega), jm_w (by omega) (by omega)]
    exact rm_count4 m (i + 1) _ _ (by omega) rfl (by omega) hk
theorem rm_count {v : Int} {K : Int → jm_H → Prop} (hk : K (lf_cnt v 12) h) : jm_CI E jm_SH jm_m_Mod_count 0 [jm_I v] h K :=
  jb_Mod_count (rm_count4 12 0 _ _ rfl rfl rfl hk)
theorem rm_crowd4 {K : Int → jm_H → Prop} (hr : rw_M h n r) (hkp : h 78 39 = kp) : ∀ (m i : Nat) (x1 x2 : Int), m + i = n → x1 = lf_cr r n kp i → x2 = i → K (lf_cr r n kp n) h → jm_BI E jm_SH jm_m_Mod_crowd 3 4 [some (jm_R 78), some (jm_I x1), some (jm_I x2), none] [] h K
  | 0, i, x1, x2, hm, h1, h2, hk => by
    subst h2
    refine jb_Mod_crowd_4 ⟨fun q => ?_, fun q => by rw [hr.1] at q; omega⟩
    rw [h1, show i = n by omega]
    exact hk
  | m + 1, i, x1, x2, hm, h1, h2, hk => by
    have hn := hr.2.1
    subst h2
    refine jb_Mod_crowd_4 ⟨fun q => by rw [hr.1] at q; omega, fun q => rm_place hr hkp (by omega) (rm_count ⟨fun z => ?_, fun z => ?_⟩)⟩
    · rw [jm_w (by omega) (by omega)]
      refine rm_crowd4 hr hkp m (i + 1) _ _ (by omega) ?_ (by omega) hk
      show _ = max _ _
      rw [← h1, Int.max_eq_left z]
    · rw [jm_w (by omega) (by omega)]
      refine rm_crowd4 hr hkp m (i + 1) _ _ (by omega) ?_ (by omega) hk
      show _ = max _ _
      rw [← h1, Int.max_eq_right (by omega)]
theorem rm_crowd {K : Int → jm_H → Prop} (hr : rw_M h n r) (hkp : h 78 39 = kp) (hk : K (lf_cr r n kp n) h) : jm_CI E jm_SH jm_m_Mod_crowd 3 [jm_R 78] h K :=
  jb_Mod_crowd (rm_crowd4 hr hkp n 0 _ _ rfl rfl rfl hk)
end RM
