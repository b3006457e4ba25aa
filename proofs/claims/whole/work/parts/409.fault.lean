/-! the class's fault -/
def pd_C (h : jm_H) (n : Nat) (f : Nat → Int) : Prop := h 1 2 = n ∧ n ≤ 60 ∧ ∀ i, i < n → h 2 i = f i
theorem pd_C.off {h h2 : jm_H} {n : Nat} {f : Nat → Int} (hp : pd_C h n f) (e : ∀ a b, a ≠ 3 → h2 a b = h a b) : pd_C h2 n f :=
  ⟨by rw [e 1 2 (by omega)]; exact hp.1, hp.2.1, fun i hi => by rw [e 2 i (by omega)]; exact hp.2.2 i hi⟩
section FF
variable {E : jm_Env} {h h1 : jm_H} {n : Nat} {f : Nat → Int} {p : Int}
theorem rc_ff78 {K : Int → jm_H → Prop} {s : List (Nat × Nat)} {i q : Nat} {s0 : Int} (hi : i < 60) (hT : cl_T h1 s) (hl : s.length ≤ 12) (hq : q ≤ 2) (k0 : s0 = 0 → K i h1)
    (kl : ¬ s0 = 0 → q = 0 → ∀ h2 : jm_H, (∀ a b, a ≠ 3 → h2 a b = h1 a b) → (∀ s2, wk_cl s = some s2 → cl_T h2 s2 ∧ s2.length ≤ 12) → jm_BI E jm_SH jm_m_Pad_firstFault 2 11 [some (jm_R 1), some (jm_I p), some (jm_I (wk_d (wk_cl s))), some (jm_I ((i + 1 : Nat) : Int)), none, none, none] [] h2 K)
    (kp : ¬ s0 = 0 → 0 < q → s.length < 12 ∧ ∀ h2 : jm_H, (∀ a b, a ≠ 3 → h2 a b = h1 a b) → cl_T h2 ((i, q) :: s) → jm_BI E jm_SH jm_m_Pad_firstFault 2 11 [some (jm_R 1), some (jm_I p), some (jm_I ((s.length + 1 : Nat) : Int)), some (jm_I ((i + 1 : Nat) : Int)), none, none, none] [] h2 K) :
    jm_BI E jm_SH jm_m_Pad_firstFault 2 78 [some (jm_R 1), some (jm_I p), some (jm_I s.length), some (jm_I i), some (jm_I q), none, none] [jm_I s0] h1 K := by
  -- the row behind the part that has begun
  have hI : ∀ x : Int, x = jm_w32 (h1 3 s.length - 1) → cl_I (jm_up h1 3 s.length x) s := by
    intro x hx
    match s, hT, hl, hx with
    | [], hT, hl, hx =>
      have h0 : h1 3 0 = 1 := hT
      show jm_up h1 3 0 x 3 0 = 0
      rw [hx]
      show jm_up h1 3 0 (jm_w32 (h1 3 0 - 1)) 3 0 = 0
      rw [h0]
      simp [jm_up]
      rfl
    | (a, L) :: s, hT, hl, hx =>
      obtain ⟨c1, c2, c3⟩ := hT
      have hx2 : x = (L : Int) - 1 := by
        rw [hx]
        show jm_w32 (h1 3 (s.length + 1) - 1) = _
        rw [c1, jm_w (by omega) (by omega)]
      refine ⟨?_, c2, c3.off fun b hb => ?_⟩
      · show jm_up h1 3 (s.length + 1) x 3 (s.length + 1) = _
        simp [jm_up, hx2]
      · show jm_up h1 3 (s.length + 1) x 3 b = _
        simp [jm_up, show ¬ b = s.length + 1 by omega]
  refine jb_Pad_firstFault_78 ⟨fun z => by omega, fun z => ⟨fun hs => ⟨by omega, by omega, fun hq0 => ?_, fun hq0 => ?_⟩, fun hs => k0 hs⟩⟩
  · rw [jm_tn, jm_w (x := (i : Int) + 1) (by omega) (by omega), show (i : Int) + 1 = ((i + 1 : Nat) : Int) by omega]
    have hI2 := hI _ rfl
    refine rc_dOpen hl hI2 (kl hs (by omega) _ (fun a b ha => by simp [jm_up, ha]) (fun s2 e => ?_))
    have := wk_cl_T hI2 e
    exact ⟨this.1, by omega⟩
  · obtain ⟨hl2, kk⟩ := kp hs (by omega)
    rw [jm_tn, jm_w (x := (s.length : Int) + 1) (by omega) (by omega), jm_w (x := (i : Int) + 1) (by omega) (by omega), show (i : Int) + 1 = ((i + 1 : Nat) : Int) by omega, show (s.length : Int) + 1 = ((s.length + 1 : Nat) : Int) by omega, jm_tn]
    refine ⟨by omega, ?_⟩
    have hI2 := hI _ rfl
    generalize jm_w32 (h1 3 s.length - 1) = y at hI2 ⊢
    have hI3 : cl_I (jm_up (jm_up h1 3 s.length y) 3 (s.length + 1) (q : Int)) ((i, q + 1) :: s) := by
      refine ⟨?_, by omega, hI2.off fun b hb => ?_⟩
      · simp [jm_up]
      · simp [jm_up, show ¬ b = s.length + 1 by omega]
    have e1 : wk_cl ((i, q + 1) :: s) = some ((i, q) :: s) := by
      show (if _ then _ else _) = _
      rw [if_pos (by omega)]
      rfl
    have := rc_dOpen (E := E) (h := jm_up (jm_up h1 3 s.length y) 3 (s.length + 1) (q : Int)) (s := (i, q + 1) :: s) (K := fun v6 h6 => jm_BI E jm_SH jm_m_Pad_firstFault 2 11 [some (jm_R 1), some (jm_I p), some (jm_I v6), some (jm_I ((i + 1 : Nat) : Int)), none, none, none] [] h6 K) (by simp; omega) hI3 (by
      rw [e1]
      have e2 : wk_d (some ((i, q) :: s)) = ((s.length + 1 : Nat) : Int) := by simp [wk_d]
      rw [e2]
      refine kk _ (fun a b ha => by simp [jm_up, ha]) ?_
      have := (wk_cl_T hI3 e1).1
      exact this)
    have e3 : ((((i, q + 1) :: s).length : Nat) : Int) = ((s.length + 1 : Nat) : Int) := by simp
    rw [e3] at this
    exact this
theorem rc_ff11 {K : Int → jm_H → Prop} : ∀ (m i : Nat) (x2 x3 : Int) (h1 : jm_H) (s : Option (List (Nat × Nat))), m + i = n → x3 = i → x2 = wk_d s → pd_C h1 n f → (∀ s2, s = some s2 → cl_T h1 s2 ∧ s2.length ≤ 12) → (∀ a b, a ≠ 3 → h1 a b = h a b) → (∀ h2 : jm_H, (∀ a b, a ≠ 3 → h2 a b = h a b) → K (wk_ p f m i s) h2) → jm_BI E jm_SH jm_m_Pad_firstFault 2 11 [some (jm_R 1), some (jm_I p), some (jm_I x2), some (jm_I x3), none, none, none] [] h1 K
  | 0, i, x2, x3, h1, s, hm, e3, e2, hp, hs, hf, hk => by
    subst e3
    subst e2
    have hin : i = n := by omega
    refine jb_Pad_firstFault_11 ⟨fun q => ⟨fun z => ?_, fun z => ?_⟩, fun q => by rw [hp.1] at q; omega⟩
    · match s, hs, hk, z with
      | none, hs, hk, z => exact absurd z (by decide)
      | some s, hs, hk, z =>
        rw [hp.1, ← hin]
        exact hk h1 hf
    · match s, hs, hk, z with
      | none, hs, hk, z => exact hk h1 hf
      | some s, hs, hk, z => exact absurd (show (0 : Int) ≤ (s.length : Int) by omega) z
  | m + 1, i, x2, x3, h1, s, hm, e3, e2, hp, hs, hf, hk => by
    subst e3
    subst e2
    have hn := hp.2.1
    have ef := hp.2.2 i (by omega)
    have hpt := pt_b (f i)
    -- behind the choice of 'stands'
    have go : ∀ (s0 : Int), (0 < pt_ (f i) → (s0 = 0 ↔ 12 ≤ wk_d s)) → (pt_ (f i) = 0 → (s0 = 0 ↔ ¬ lf_l p (f i))) → jm_BI E jm_SH jm_m_Pad_firstFault 2 78 [some (jm_R 1), some (jm_I p), some (jm_I (wk_d s)), some (jm_I i), some (jm_I (pt_ (f i))), none, none] [jm_I s0] h1 K := by
      intro s0 g1 g2
      match s, hs, hk, g1 with
      | none, hs, hk, g1 =>
        exact jb_Pad_firstFault_78 ⟨fun z => hk h1 hf, fun z => absurd (by decide) z⟩
      | some s, hs, hk, g1 =>
        obtain ⟨hT, hl⟩ := hs s rfl
        have g3 : 0 < pt_ (f i) → (s0 = 0 ↔ (12 : Int) ≤ (s.length : Int)) := g1
        have ek : wk_ p f (m + 1) i (some s) = if 0 < pt_ (f i) then (if s.length < 12 then wk_ p f m (i + 1) (some ((i, pt_ (f i)) :: s)) else i) else if lf_l p (f i) then wk_ p f m (i + 1) (wk_cl s) else i := rfl
        rw [ek] at hk
        refine rc_ff78 (by omega) hT hl hpt (fun z => ?_) (fun z q0 h2 e c => ?_) (fun z q0 => ⟨?_, fun h2 e c => ?_⟩)
        · by_cases q : 0 < pt_ (f i)
          · have := (g3 q).mp z
            rw [if_pos q, if_neg (by omega)] at hk
            exact hk h1 hf
          · have := (g2 (by omega)).mp z
            rw [if_neg q, if_neg this] at hk
            exact hk h1 hf
        · have q1 : lf_l p (f i) := Classical.byContradiction fun w => z ((g2 q0).mpr w)
          rw [if_neg (by omega), if_pos q1] at hk
          exact rc_ff11 m (i + 1) _ _ h2 (wk_cl s) (by omega) rfl rfl (hp.off e) c (fun a b ha => (e a b ha).trans (hf a b ha)) hk
        · have : ¬ (12 : Int) ≤ (s.length : Int) := fun w => z ((g3 q0).mpr w)
          omega
        · have q2 : ¬ (12 : Int) ≤ (s.length : Int) := fun w => z ((g3 q0).mpr w)
          rw [if_pos q0, if_pos (by omega)] at hk
          refine rc_ff11 m (i + 1) _ _ h2 (some ((i, pt_ (f i)) :: s)) (by omega) rfl (by simp [wk_d]) (hp.off e) (fun s2 e2 => ?_) (fun a b ha => (e a b ha).trans (hf a b ha)) hk
          cases e2
          exact ⟨c, by simp; omega⟩
    refine jb_Pad_firstFault_11 ⟨fun q => by rw [hp.1] at q; omega, fun q => ⟨by omega, ?_⟩⟩
    rw [jm_tn, ef]
    refine rc_partsOf ⟨fun hp0 => ⟨by omega, ?_⟩, fun hp0 => ⟨by omega, ?_⟩⟩
    · subst hp0
      rw [ef]
      refine rc_treeLeaf (fun u => ⟨fun z => go 1 (fun w => by omega) (fun w => ⟨fun y => by omega, fun y => absurd u y⟩), fun z => ⟨fun y => go 0 (fun w => ⟨fun _ => y, fun _ => rfl⟩) (fun w => by omega), fun y => go 1 (fun w => ⟨fun v => by omega, fun v => absurd v y⟩) (fun w => by omega)⟩⟩) (fun u => ⟨fun z => go 0 (fun w => by omega) (fun w => ⟨fun _ => u, fun _ => rfl⟩), fun z => ⟨fun y => go 0 (fun w => ⟨fun _ => y, fun _ => rfl⟩) (fun w => by omega), fun y => go 1 (fun w => ⟨fun v => by omega, fun v => absurd v y⟩) (fun w => by omega)⟩⟩)
    · rw [ef]
      refine rc_patLeaf hp0 (fun u => ⟨fun z => go 1 (fun w => by omega) (fun w => ⟨fun y => by omega, fun y => absurd u y⟩), fun z => ⟨fun y => go 0 (fun w => ⟨fun _ => y, fun _ => rfl⟩) (fun w => by omega), fun y => go 1 (fun w => ⟨fun v => by omega, fun v => absurd v y⟩) (fun w => by omega)⟩⟩) (fun u => ⟨fun z => go 0 (fun w => by omega) (fun w => ⟨fun _ => u, fun _ => rfl⟩), fun z => ⟨fun y => go 0 (fun w => ⟨fun _ => y, fun _ => rfl⟩) (fun w => by omega), fun y => go 1 (fun w => ⟨fun v => by omega, fun v => absurd v y⟩) (fun w => by omega)⟩⟩)
theorem rc_firstFault {K : Int → jm_H → Prop} (hp : pd_C h n f) (hk : ∀ h2 : jm_H, (∀ a b, a ≠ 3 → h2 a b = h a b) → K (wk_ p f n 0 (some [])) h2) : jm_CI E jm_SH jm_m_Pad_firstFault 2 [jm_R 1, jm_I p] h K := by
  have e : ∀ a b, a ≠ 3 → jm_up h 3 0 1 a b = h a b := fun a b ha => by simp [jm_up, ha]
  refine jb_Pad_firstFault (rc_ff11 n 0 _ _ _ (some []) rfl rfl rfl (hp.off e) (fun s2 e2 => ?_) e hk)
  cases e2
  exact ⟨by show jm_up h 3 0 1 3 0 = 1; simp [jm_up], by simp⟩
end FF
