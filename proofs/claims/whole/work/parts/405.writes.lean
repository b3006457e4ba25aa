/-! calls that change the row, the weights, what is kept -/
def ad_ok (x1 x2 x3 x4 x5 : Int) : Prop := (0 ≤ x1 ∧ x1 ≤ 6) ∧ (0 ≤ x2 ∧ x2 ≤ 5) ∧ (0 ≤ x3 ∧ x3 ≤ 5) ∧ (0 ≤ x4 ∧ x4 ≤ 5) ∧ (1 ≤ x5 ∧ x5 ≤ 5) ∧ (x1 < 5 ∨ x4 = 0)
/-- the row with one more -/
def ad_r (r : Nat → Nat → Int) (n : Nat) (x1 x2 x3 x4 x5 : Int) : Nat → Nat → Int := fun l i => if i = n then (if l = 0 then x1 else if l = 1 then x2 else if l = 2 then x3 else if l = 3 then x4 else if l = 4 then x5 else 1) else r l i
theorem ad_ok_r {n : Nat} {r : Nat → Nat → Int} {x1 x2 x3 x4 x5 : Int} (ho : rw_ok n r) (ha : ad_ok x1 x2 x3 x4 x5) : rw_ok (n + 1) (ad_r r n x1 x2 x3 x4 x5) := by
  intro i hi
  obtain ⟨a1, a2, a3, a4, a5, -⟩ := ha
  by_cases e : i = n
  · subst e
    simp only [ad_r, if_true]
    exact ⟨a1, a2, a3, a4, a5, by omega⟩
  · have := ho i (by omega)
    simpa [ad_r, e] using this
/-- places of the row: the class's, the reference's -/
def pc_ (a b : Nat) : Prop := (a = 37 ∧ (b = 3 ∨ b = 4)) ∨ (39 ≤ a ∧ a ≤ 44)
def pm_ (a b : Nat) : Prop := (a = 78 ∧ b = 32) ∨ (99 ≤ a ∧ a ≤ 104)
section WR
variable {E : jm_Env} {h : jm_H} {n : Nat} {r : Nat → Nat → Int} {kp : Int}
theorem rc_isReg {x : Int} {K : Int → jm_H → Prop} (k1 : 0 ≤ x ∧ x ≤ 5 → K 1 h) (k0 : ¬ (0 ≤ x ∧ x ≤ 5) → K 0 h) : jm_CI E jm_SH jm_m_Row_isRegister 0 [jm_I x] h K :=
  jb_Row_isRegister ⟨fun q => k0 (by omega), fun q => ⟨fun z => k0 (by omega), fun z => k1 (by omega)⟩⟩
theorem rc_isOp {x : Int} {K : Int → jm_H → Prop} (k1 : 0 ≤ x ∧ x ≤ 6 → K 1 h) (k0 : ¬ (0 ≤ x ∧ x ≤ 6) → K 0 h) : jm_CI E jm_SH jm_m_Row_isOp 0 [jm_I x] h K :=
  jb_Row_isOp ⟨fun q => k0 (by omega), fun q => ⟨fun z => k0 (by omega), fun z => k1 (by omega)⟩⟩
theorem rm_isReg {x : Int} {K : Int → jm_H → Prop} (k1 : 0 ≤ x ∧ x ≤ 5 → K 1 h) (k0 : ¬ (0 ≤ x ∧ x ≤ 5) → K 0 h) : jm_CI E jm_SH jm_m_Mod_isRegister 1 [jm_I x] h K :=
  jb_Mod_isRegister (rm_in (fun q => ⟨Or.inr rfl, k1 q⟩) (fun q => ⟨Or.inl rfl, k0 q⟩))
theorem rc_append {x1 x2 x3 x4 x5 : Int} {K : Int → jm_H → Prop} (hr : rw_C h n r) (k0 : n = 12 → K 0 h) (k1 : n < 12 → ∀ h2 : jm_H, rw_C h2 (n + 1) (ad_r r n x1 x2 x3 x4 x5) → (∀ a b, ¬ pc_ a b → h2 a b = h a b) → h2 37 4 = jm_w32 (h 37 4 + 1) → K 1 h2) : jm_CI E jm_SH jm_m_Row_append 0 [jm_R 37, jm_I x1, jm_I x2, jm_I x3, jm_I x4, jm_I x5] h K := by
  obtain ⟨h1, h2, h3⟩ := hr
  refine jb_Row_append ⟨fun q => ?_, fun q => k0 (by omega)⟩
  rw [h1] at q ⊢
  rw [jm_tn, jm_w (by omega) (by omega)]
  refine ⟨by omega, by omega, by omega, by omega, by omega, by omega, k1 (by omega) _ ⟨?_, by omega, fun i hi => ?_⟩ (fun a b hp => ?_) ?_⟩
  · simp [jm_up]
  · by_cases e : i = n
    · subst e
      simp [jm_up, ad_r]
    · obtain ⟨e0, e1, e2, e3, e4, e5⟩ := h3 i (by omega)
      simp [jm_up, ad_r, e, e0, e1, e2, e3, e4, e5]
  · unfold pc_ at hp
    have n1 : ¬ a = 39 := by omega
    have n2 : ¬ a = 40 := by omega
    have n3 : ¬ a = 41 := by omega
    have n4 : ¬ a = 42 := by omega
    have n5 : ¬ a = 43 := by omega
    have n6 : ¬ a = 44 := by omega
    by_cases e : a = 37
    · have m3 : ¬ b = 3 := by omega
      have m4 : ¬ b = 4 := by omega
      simp [jm_up, e, m3, m4]
    · simp [jm_up, e, n1, n2, n3, n4, n5, n6]
  · simp [jm_up]
theorem tc_add {x1 x2 x3 x4 x5 : Int} {K : Int → jm_H → Prop} (hr : rw_C h n r) (kb : ¬ ad_ok x1 x2 x3 x4 x5 → K (-2) h) (kf : ad_ok x1 x2 x3 x4 x5 → n = 12 → K (-4) h) (kk : ad_ok x1 x2 x3 x4 x5 → n < 12 → ∀ h2 : jm_H, rw_C h2 (n + 1) (ad_r r n x1 x2 x3 x4 x5) → (∀ a b, ¬ pc_ a b → h2 a b = h a b) → h2 37 4 = jm_w32 (h 37 4 + 1) → K n h2) : jm_CI E jm_SH jm_m_Top_add 1 [jm_R 0, jm_I x1, jm_I x2, jm_I x3, jm_I x4, jm_I x5] h K := by
  have hgo : ad_ok x1 x2 x3 x4 x5 → jm_BI E jm_SH jm_m_Top_add 1 59 [some (jm_R 0), some (jm_I x1), some (jm_I x2), some (jm_I x3), some (jm_I x4), some (jm_I x5)] [] h K := fun ha => by
    refine jb_Top_add_59 (rc_append hr (fun q => ⟨fun _ => kf ha q, fun z => absurd rfl z⟩) (fun q h2 a1 a2 a3 => ⟨fun z => by omega, fun _ => ?_⟩))
    rw [a1.1, jm_w (by omega) (by omega), show ((n + 1 : Nat) : Int) - 1 = n by omega]
    exact kk ha q h2 a1 a2 a3
  refine jb_Top_add (rc_isOp (fun q1 => ⟨fun z => by omega, fun _ => ?_⟩) (fun q1 => ⟨fun _ => kb (fun z => q1 z.1), fun z => absurd rfl z⟩))
  refine rc_isReg (fun q2 => ⟨fun z => by omega, fun _ => ?_⟩) (fun q2 => ⟨fun _ => kb (fun z => q2 z.2.1), fun z => absurd rfl z⟩)
  refine rc_isReg (fun q3 => ⟨fun z => by omega, fun _ => ?_⟩) (fun q3 => ⟨fun _ => kb (fun z => q3 z.2.2.1), fun z => absurd rfl z⟩)
  refine rc_isReg (fun q4 => ⟨fun _ => ⟨fun u => kb (fun z => ?_), fun u => ⟨fun v => kb (fun z => ?_), fun v => ?_⟩⟩, fun z => by omega⟩) (fun q4 => ⟨fun z => absurd rfl z, fun _ => kb (fun z => q4 z.2.2.2.1)⟩)
  · have := z.2.2.2.2.1; omega
  · have := z.2.2.2.2.1; omega
  · refine rc_hasSecond (fun q5 => ⟨fun _ => hgo ⟨q1, q2, q3, q4, by omega, Or.inl q5⟩, fun z => by omega⟩) (fun q5 => ⟨fun z => absurd rfl z, fun _ => ⟨fun q6 => hgo ⟨q1, q2, q3, q4, by omega, Or.inr q6⟩, fun q6 => kb (fun z => ?_)⟩⟩)
    rcases z.2.2.2.2.2 with w | w
    · exact q5 w
    · exact q6 w
theorem mc_add {x1 x2 x3 x4 x5 : Int} {K : Int → jm_H → Prop} (hr : rw_M h n r) (kb : ¬ ad_ok x1 x2 x3 x4 x5 → K (-2) h) (kf : ad_ok x1 x2 x3 x4 x5 → n = 12 → K (-4) h) (kk : ad_ok x1 x2 x3 x4 x5 → n < 12 → ∀ h2 : jm_H, rw_M h2 (n + 1) (ad_r r n x1 x2 x3 x4 x5) → (∀ a b, ¬ pm_ a b → h2 a b = h a b) → K n h2) : jm_CI E jm_SH jm_m_Mod_add 2 [jm_R 78, jm_I x1, jm_I x2, jm_I x3, jm_I x4, jm_I x5] h K := by
  obtain ⟨h1, h2, h3⟩ := hr
  have hgo : ad_ok x1 x2 x3 x4 x5 → jm_BI E jm_SH jm_m_Mod_add 2 60 [some (jm_R 78), some (jm_I x1), some (jm_I x2), some (jm_I x3), some (jm_I x4), some (jm_I x5)] [] h K := fun ha => by
    refine jb_Mod_add_60 ⟨fun q => ?_, fun q => kf ha (by omega)⟩
    rw [h1] at q ⊢
    rw [jm_tn, jm_w (x := (n : Int) + 1) (by omega) (by omega), jm_w (by omega) (by omega), show (n : Int) + 1 - 1 = n by omega]
    refine ⟨by omega, by omega, by omega, by omega, by omega, by omega, kk ha (by omega) _ ⟨?_, by omega, fun i hi => ?_⟩ (fun a b hp => ?_)⟩
    · simp [jm_up]
    · by_cases e : i = n
      · subst e
        simp [jm_up, ad_r]
      · obtain ⟨e0, e1, e2, e3, e4, e5⟩ := h3 i (by omega)
        simp [jm_up, ad_r, e, e0, e1, e2, e3, e4, e5]
    · unfold pm_ at hp
      have n1 : ¬ a = 99 := by omega
      have n2 : ¬ a = 100 := by omega
      have n3 : ¬ a = 101 := by omega
      have n4 : ¬ a = 102 := by omega
      have n5 : ¬ a = 103 := by omega
      have n6 : ¬ a = 104 := by omega
      by_cases e : a = 78
      · have m3 : ¬ b = 32 := by omega
        simp [jm_up, e, m3]
      · simp [jm_up, e, n1, n2, n3, n4, n5, n6]
  refine jb_Mod_add (rm_in (fun q1 => ⟨fun z => by omega, fun _ => ?_⟩) (fun q1 => ⟨fun _ => kb (fun z => q1 z.1), fun z => absurd rfl z⟩))
  refine rm_isReg (fun q2 => ⟨fun z => by omega, fun _ => ?_⟩) (fun q2 => ⟨fun _ => kb (fun z => q2 z.2.1), fun z => absurd rfl z⟩)
  refine rm_isReg (fun q3 => ⟨fun z => by omega, fun _ => ?_⟩) (fun q3 => ⟨fun _ => kb (fun z => q3 z.2.2.1), fun z => absurd rfl z⟩)
  refine rm_isReg (fun q4 => ⟨fun z => by omega, fun _ => ?_⟩) (fun q4 => ⟨fun _ => kb (fun z => q4 z.2.2.2.1), fun z => absurd rfl z⟩)
  refine rm_in (fun q5 => ⟨fun z => by omega, fun _ => ?_⟩) (fun q5 => ⟨fun _ => kb (fun z => q5 z.2.2.2.2.1), fun z => absurd rfl z⟩)
  refine ⟨fun q6 => hgo ⟨q1, q2, q3, q4, q5, Or.inl (by omega)⟩, fun q6 => ⟨fun q7 => hgo ⟨q1, q2, q3, q4, q5, Or.inr q7⟩, fun q7 => kb (fun z => ?_)⟩⟩
  rcases z.2.2.2.2.2 with w | w
  · omega
  · exact q7 w
theorem tc_drop {K : Int → jm_H → Prop} (hr : rw_C h n r) (kk : ∀ h2 : jm_H, rw_C h2 0 r → (∀ a b, ¬ pc_ a b → h2 a b = h a b) → h2 37 4 = jm_w32 (h 37 4 + 1) → K n h2) : jm_CI E jm_SH jm_m_Top_drop 1 [jm_R 0] h K := by
  refine jb_Top_drop (jb_Row_empty ?_)
  rw [hr.1]
  refine kk _ ⟨by simp [jm_up], by omega, fun i hi => by omega⟩ (fun a b hp => ?_) (by simp [jm_up])
  unfold pc_ at hp
  by_cases e : a = 37
  · have m3 : ¬ b = 3 := by omega
    have m4 : ¬ b = 4 := by omega
    simp [jm_up, e, m3, m4]
  · simp [jm_up, e]
theorem mc_drop {K : Int → jm_H → Prop} (hr : rw_M h n r) (kk : ∀ h2 : jm_H, rw_M h2 0 r → (∀ a b, ¬ pm_ a b → h2 a b = h a b) → K n h2) : jm_CI E jm_SH jm_m_Mod_drop 0 [jm_R 78] h K := by
  refine jb_Mod_drop ?_
  rw [hr.1]
  refine kk _ ⟨by simp [jm_up], by omega, fun i hi => by omega⟩ (fun a b hp => ?_)
  unfold pm_ at hp
  by_cases e : a = 78
  · have m3 : ¬ b = 32 := by omega
    simp [jm_up, e, m3]
  · simp [jm_up, e]
theorem tc_keep {x : Int} {K : Int → jm_H → Prop} (hkp : h 56 3 = kp) (k0 : ¬ (0 ≤ x ∧ x ≤ 63) → K (-2) h) (k1 : 0 ≤ x ∧ x ≤ 63 → K kp (jm_up h 56 3 x)) : jm_CI E jm_SH jm_m_Top_keep 0 [jm_R 0, jm_I x] h K := by
  subst hkp
  exact jb_Top_keep ⟨fun q => k0 (by omega), fun q => ⟨fun z => k1 (by omega), fun z => k0 (by omega)⟩⟩
theorem mc_keep {x : Int} {K : Int → jm_H → Prop} (hkp : h 78 39 = kp) (k0 : ¬ (0 ≤ x ∧ x ≤ 63) → K (-2) h) (k1 : 0 ≤ x ∧ x ≤ 63 → K kp (jm_up h 78 39 x)) : jm_CI E jm_SH jm_m_Mod_keep 1 [jm_R 78, jm_I x] h K := by
  subst hkp
  exact jb_Mod_keep (rm_in (fun q => ⟨fun _ => k1 q, fun z => by omega⟩) (fun q => ⟨fun z => absurd rfl z, fun _ => k0 q⟩))
/-- the row with another weight -/
def wg_r (r : Nat → Nat → Int) (x : Nat) (v : Int) : Nat → Nat → Int := fun l i => if l = 5 ∧ i = x then v else r l i
theorem wg_ok {x : Nat} {v : Int} (ho : rw_ok n r) (hv : 1 ≤ v ∧ v ≤ 100) : rw_ok n (wg_r r x v) := by
  intro i hi
  have := ho i hi
  unfold wg_r
  refine ⟨by simpa using this.1, by simpa using this.2.1, by simpa using this.2.2.1, by simpa using this.2.2.2.1, by simpa using this.2.2.2.2.1, ?_⟩
  split
  · exact hv
  · exact this.2.2.2.2.2
theorem tc_weigh {x v : Int} {K : Int → jm_H → Prop} (hr : rw_C h n r) (k0 : ¬ (0 ≤ x ∧ x < n) → K (-1) h) (k1 : 0 ≤ x ∧ x < n → ¬ (1 ≤ v ∧ v ≤ 100) → K (-2) h) (kk : 0 ≤ x ∧ x < n → 1 ≤ v ∧ v ≤ 100 → ∀ h2 : jm_H, rw_C h2 n (wg_r r x.toNat v) → (∀ a b, a ≠ 44 → h2 a b = h a b) → K (r 5 x.toNat) h2) : jm_CI E jm_SH jm_m_Top_weigh 1 [jm_R 0, jm_I x, jm_I v] h K := by
  have hn := hr.2.1
  refine jb_Top_weigh (rc_has hr (fun q => ⟨fun _ => ⟨fun z => k1 q (by omega), fun z => ⟨fun w => ⟨by omega, by omega, ?_⟩, fun w => k1 q (by omega)⟩⟩, fun z => by omega⟩) (fun q => ⟨fun z => absurd rfl z, fun _ => k0 q⟩))
  rw [(hr.2.2 x.toNat (by omega)).2.2.2.2.2]
  refine kk q (by omega) _ ⟨by simp [jm_up, hr.1], hn, fun i hi => ?_⟩ (fun a b hp => by simp [jm_up, hp])
  obtain ⟨e0, e1, e2, e3, e4, e5⟩ := hr.2.2 i hi
  by_cases e : i = x.toNat
  · simp [jm_up, wg_r, e0, e1, e2, e3, e4, e]
    subst e
    simp [e0, e1, e2, e3, e4]
  · simp [jm_up, wg_r, e0, e1, e2, e3, e4, e5, e]
theorem mc_weigh {x v : Int} {K : Int → jm_H → Prop} (hr : rw_M h n r) (k0 : ¬ (0 ≤ x ∧ x < n) → K (-1) h) (k1 : 0 ≤ x ∧ x < n → ¬ (1 ≤ v ∧ v ≤ 100) → K (-2) h) (kk : 0 ≤ x ∧ x < n → 1 ≤ v ∧ v ≤ 100 → ∀ h2 : jm_H, rw_M h2 n (wg_r r x.toNat v) → (∀ a b, a ≠ 104 → h2 a b = h a b) → K (r 5 x.toNat) h2) : jm_CI E jm_SH jm_m_Mod_weigh 2 [jm_R 78, jm_I x, jm_I v] h K := by
  have hn := hr.2.1
  refine jb_Mod_weigh (rm_isIns hr (fun q => ⟨fun _ => ?_, fun z => by omega⟩) (fun q => ⟨fun z => absurd rfl z, fun _ => k0 q⟩))
  refine rm_in (fun w => ⟨fun _ => ⟨by omega, by omega, ?_⟩, fun z => by omega⟩) (fun w => ⟨fun z => absurd rfl z, fun _ => k1 q w⟩)
  rw [(hr.2.2 x.toNat (by omega)).2.2.2.2.2]
  refine kk q w _ ⟨by simp [jm_up, hr.1], hn, fun i hi => ?_⟩ (fun a b hp => by simp [jm_up, hp])
  obtain ⟨e0, e1, e2, e3, e4, e5⟩ := hr.2.2 i hi
  by_cases e : i = x.toNat
  · simp [jm_up, wg_r, e0, e1, e2, e3, e4, e]
    subst e
    simp [e0, e1, e2, e3, e4]
  · simp [jm_up, wg_r, e0, e1, e2, e3, e4, e5, e]
end WR
