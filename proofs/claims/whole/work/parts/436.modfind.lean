/-! THE BEST ORDER: the reference tries them -/
section MF
variable {E : jm_Env} {n : Nat} {r : Nat → Nat → Int}
/-- back by one place -/
def pb_k (E : jm_Env) (K : jm_H → Prop) (o : Nat → Nat) (p : Nat) (h : jm_H) : Prop := (1 ≤ p → jm_BV E jm_SH jm_m_Mod_findBest 3 17 [some (jm_R 78), some (jm_I ((p : Int) - 1)), some (jm_I ((o (p - 1) : Nat) + 1)), none, none, none] [] h K) ∧ (p = 0 → K h)
theorem rm_fb41 {h : jm_H} {K : jm_H → Prop} {o : Nat → Nat} (hn : n ≤ 12) (hon : ∀ q, q < n → o q < n) (hk : ∀ h2 : jm_H, (∀ u v, ¬ (u = 107) → h2 u v = h u v) → (∀ q, q < n → h2 107 q = (o q : Nat)) → pb_k E K o n h2) : ∀ (m k : Nat) (x3 : Int) (h1 : jm_H), m + k = n → x3 = k → h1 78 32 = n → (∀ q, q < n → h1 105 q = (o q : Nat)) → (∀ u v, ¬ (u = 107) → h1 u v = h u v) → (∀ q, q < k → h1 107 q = (o q : Nat)) → jm_BV E jm_SH jm_m_Mod_findBest 3 41 [some (jm_R 78), some (jm_I n), none, some (jm_I x3), none, none] [] h1 K
  | 0, k, x3, h1, hm, hx, hc, ho, hf, hd => by
    subst hx
    have hkn : k = n := by omega
    subst hkn
    obtain ⟨p1, p0⟩ := hk h1 hf hd
    refine jb_Mod_findBest_41 ⟨fun _ => ?_, fun z => by rw [hc] at z; omega⟩
    rw [jm_w (x := (k : Int) + (-1)) (by omega) (by omega)]
    refine ⟨fun z => ⟨by omega, ?_⟩, fun z => ?_⟩
    · have hb := hon (k - 1) (by omega)
      rw [show (k : Int) + (-1) = ((k - 1 : Nat) : Int) by omega, jm_tn, ho (k - 1) (by omega), jm_w (by omega) (by omega), show ((k - 1 : Nat) : Int) = (k : Int) - 1 by omega]
      exact p1 (by omega)
    · have : k = 0 := by omega
      subst this
      exact jb_Mod_findBest_17 ⟨fun _ => p0 rfl, fun w => absurd (by decide) w⟩
  | m + 1, k, x3, h1, hm, hx, hc, ho, hf, hd => by
    subst hx
    refine jb_Mod_findBest_41 ⟨fun z => by rw [hc] at z; omega, fun _ => ⟨by omega, by omega, ?_⟩⟩
    rw [jm_tn, ho k (by omega), jm_w (by omega) (by omega)]
    refine rm_fb41 hn hon hk m (k + 1) _ _ (by omega) (by omega) (by rw [up_o (by omega)]; exact hc) (fun q hq => by rw [up_o (by omega)]; exact ho q hq) (fun u v z => by rw [up_o (by omega)]; exact hf u v z) (fun q hq => ?_)
    by_cases e : q = k
    · subst e; rw [up_s]
    · rw [up_o (by omega)]; exact hd q (by omega)
theorem rm_fb (ho : rw_ok n r) (hn : n ≤ 10) : ∀ (e p : Nat) (o : Nat → Nat) (x1 : Int) (h : jm_H) (K : jm_H → Prop), e + p = n → x1 = p → rw_M h n r → pm_o h r o p → vo_ r n o p → (p = n → oe_ r o n < h 78 36) → (∀ h2 : jm_H, pm_o h2 r o p → mf_ h h2 → oR_ r n (cA_ r n o p) (h 107, h 78 36) (h2 107, h2 78 36) → pb_k E K o p h2) → jm_BV E jm_SH jm_m_Mod_findBest 3 17 [some (jm_R 78), some (jm_I x1), some (jm_I 0), none, none, none] [] h K
  | 0, p, o, x1, h, K, he, e1, hr, hm, hv, hlt, hk => by
    subst e1
    have hpn : p = n := by omega
    subst hpn
    refine jb_Mod_findBest_17 ⟨fun z => by omega, fun _ => ⟨fun z => absurd hr.1.symm z, fun _ => ⟨by omega, ?_⟩⟩⟩
    rw [jm_tn, hm.2 p (Nat.le_refl _)]
    refine rm_fb41 (h := jm_up h 78 36 (oe_ r o p)) (by omega) (fun q hq => (hv q hq).1) (fun h2 c1 c2 => hk h2 ⟨fun q hq => ?_, fun q hq => ?_⟩ (fun u v z => ?_) (Or.inr ⟨o, ⟨hv, fun _ _ => rfl⟩, c2, ?_, ?_, fun o2 z => ?_⟩)) p 0 _ _ (by omega) rfl (by rw [up_o (by omega)]; exact hr.1) (fun q hq => by rw [up_o (by omega)]; exact (hm.1 q hq).1) (fun _ _ _ => rfl) (fun q hq => by omega)
    · rw [c1 _ _ (by omega), c1 _ _ (by omega), up_o (by omega), up_o (by omega)]
      exact hm.1 q hq
    · rw [c1 _ _ (by omega), up_o (by omega)]
      exact hm.2 q hq
    · rw [c1 _ _ (by omega), up_o (by omega)]
    · rw [c1 _ _ (by omega), up_s]
    · rw [c1 _ _ (by omega), up_s]
      exact hlt rfl
    · rw [c1 _ _ (by omega), up_s, oe_congr z.2]
      refine ⟨Int.le_refl _, fun l => ?_⟩
      obtain ⟨q, q1, q2, q3⟩ := l
      have := z.2 q q1
      omega
  | e + 1, p, o, x1, h, K, he, e1, hr, hm, hv, hlt, hk => by
    subst e1
    have hpn : p < n := by omega
    have loop : ∀ (m i : Nat) (x3 : Int) (h1 : jm_H), m + i = n → x3 = i → rw_M h1 n r → pm_o h1 r o p → (∀ h2 : jm_H, pm_o h2 r o p → mf_ h1 h2 → oR_ r n (cG_ r n o p i) (h1 107, h1 78 36) (h2 107, h2 78 36) → pb_k E K o p h2) → jm_BV E jm_SH jm_m_Mod_findBest 3 92 [some (jm_R 78), some (jm_I p), none, some (jm_I x3), none, none] [] h1 K := by
      intro m
      induction m with
      | zero =>
        intro i x3 h1 hmi e3 hr1 hm1 hk1
        subst e3
        have hin : i = n := by omega
        subst hin
        obtain ⟨p1, p0⟩ := hk1 h1 hm1 mf_.rf (oR_no fun o2 h2 => by
          have := (h2.1.1 p hpn).1
          have := h2.2
          omega)
        refine jb_Mod_findBest_92 ⟨fun _ => jb_Mod_findBest_115 ⟨fun z => absurd hr1.1.symm z, fun _ => ?_⟩, fun z => by rw [hr1.1] at z; omega⟩
        rw [jm_w (x := (p : Int) + (-1)) (by omega) (by omega)]
        refine ⟨fun z => ⟨by omega, ?_⟩, fun z => ?_⟩
        · have hb := (hv (p - 1) (by omega)).1
          rw [show (p : Int) + (-1) = ((p - 1 : Nat) : Int) by omega, jm_tn, (hm1.1 (p - 1) (by omega)).1, jm_w (by omega) (by omega), show ((p - 1 : Nat) : Int) = (p : Int) - 1 by omega]
          exact p1 (by omega)
        · have hp0 : p = 0 := by omega
          exact jb_Mod_findBest_17 ⟨fun _ => p0 hp0, fun w => by omega⟩
      | succ m ih =>
        intro i x3 h1 hmi e3 hr1 hm1 hk1
        subst e3
        have hin : i < n := by omega
        have hod : ∀ q, q < p → h1 105 q = (o q : Nat) := fun q hq => (hm1.1 q hq).1
        refine jb_Mod_findBest_92 ⟨fun z => by rw [hr1.1] at z; omega, fun _ => ?_⟩
        refine rm_may hr1 hod (by omega) hin (fun hms => ⟨fun _ => ?_, fun z => by omega⟩) (fun hms => ⟨fun z => absurd rfl z, fun _ => ?_⟩)
        · have hv2 := vo_fu hv hin hms
          have hfo : ∀ q, q < p → fu_ o p i q = o q := fun q hq => fu_o (by omega)
          have hoc : ∀ q, q < p → oc_ r (fu_ o p i) p q = oc_ r o p q := oc_congr p hfo
          have hcp : oc_ r (fu_ o p i) (p + 1) p = od_at r (fu_ o p i) (oc_ r (fu_ o p i) p) p := by
            show (if p = p then _ else _) = _
            rw [if_pos rfl]
          have hcb := oc_b ho (p + 1) (fun q hq => (hv2 q hq).1) p (by omega)
          have hwb := (ho i hin).2.2.2.2.1
          have heb := oe_b ho (fun q hq => (hv q hq).1) (show p ≤ 12 by omega)
          have heo : oe_ r (fu_ o p i) p = oe_ r o p := oe_congr hfo
          refine jb_Mod_findBest_115 ⟨fun _ => ⟨by omega, ?_⟩, fun z => by rw [hr1.1] at z; omega⟩
          rw [jm_tn]
          have q1 : mf_ h1 (jm_up h1 105 p (i : Int)) := fun u v z => up_o (by omega)
          have hr2 := hr1.sq q1.sq
          refine rm_start (o := fu_ o p i) (c := oc_ r (fu_ o p i) p) (b := 72) hr2 ho (by omega) (fun q hq => (hv2 q (by omega)).1) ⟨by rw [up_s, fu_s], fun q hq => ?_⟩ (fun q hq => ?_) (by omega) ?_
          · rw [up_o (by omega), up_o (by omega), hoc q hq, hfo q hq]
            exact hm1.1 q hq
          · have := oc_b ho p (fun q hq => (hv2 q (by omega)).1) q hq
            omega
          · have e103 : jm_up h1 105 p (i : Int) 103 (Int.toNat (i : Int)) = r 4 i := (hr2.2.2 i hin).2.2.2.2.1
            have e108 : jm_up h1 105 p (i : Int) 108 p = oe_ r o p := by rw [up_o (by omega)]; exact hm1.2 p (Nat.le_refl _)
            rw [← hcp, up_s, e103, e108, jm_w (x := (p : Int) + 1) (by omega) (by omega), jm_w (x := oc_ r (fu_ o p i) (p + 1) p + r 4 i) (by omega) (by omega), show (p : Int) + 1 = ((p + 1 : Nat) : Int) by omega, jm_tn]
            -- whichever is greater
            have go : ∀ x : Int, x = oe_ r (fu_ o p i) (p + 1) → jm_CI E jm_SH jm_m_Mod_leastEnd 0 [jm_R 78, jm_I ((p + 1 : Nat) : Int)] (jm_up (jm_up (jm_up h1 105 p (i : Int)) 106 p (oc_ r (fu_ o p i) (p + 1) p)) 108 (p + 1) x) (fun v11 h11 => ((h11 78 36 ≤ v11) → jm_BV E jm_SH jm_m_Mod_findBest 3 228 [some (jm_R 78), some (jm_I p), none, some (jm_I i), none, none] [jm_I 0] h11 K) ∧ ((¬ h11 78 36 ≤ v11) → jm_BV E jm_SH jm_m_Mod_findBest 3 228 [some (jm_R 78), some (jm_I p), none, some (jm_I i), none, none] [jm_I 1] h11 K)) := fun x hx => by
              subst hx
              have f9 : mf_ h1 (jm_up (jm_up (jm_up h1 105 p (i : Int)) 106 p (oc_ r (fu_ o p i) (p + 1) p)) 108 (p + 1) (oe_ r (fu_ o p i) (p + 1))) := fun u v z => by rw [up_o (by omega), up_o (by omega), up_o (by omega)]
              have g107 : jm_up (jm_up (jm_up h1 105 p (i : Int)) 106 p (oc_ r (fu_ o p i) (p + 1) p)) 108 (p + 1) (oe_ r (fu_ o p i) (p + 1)) 107 = h1 107 := funext fun q => by rw [up_o (by omega), up_o (by omega), up_o (by omega)]
              have g36 : jm_up (jm_up (jm_up h1 105 p (i : Int)) 106 p (oc_ r (fu_ o p i) (p + 1) p)) 108 (p + 1) (oe_ r (fu_ o p i) (p + 1)) 78 36 = h1 78 36 := by rw [up_o (by omega), up_o (by omega), up_o (by omega)]
              have m9 : pm_o (jm_up (jm_up (jm_up h1 105 p (i : Int)) 106 p (oc_ r (fu_ o p i) (p + 1) p)) 108 (p + 1) (oe_ r (fu_ o p i) (p + 1))) r (fu_ o p i) (p + 1) := by
                refine ⟨fun q hq => ?_, fun q hq => ?_⟩
                · by_cases eq : q = p
                  · subst eq
                    rw [fu_s, up_o (by omega), up_o (by omega), up_s, up_o (by omega), up_s]
                    exact ⟨rfl, rfl⟩
                  · have hq2 : q < p := by omega
                    rw [hfo q hq2, oc_step hq2 (by omega), hoc q hq2, up_o (by omega), up_o (by omega), up_o (by omega), up_o (by omega), up_o (by omega), up_o (by omega)]
                    exact hm1.1 q hq2
                · by_cases eq : q = p + 1
                  · subst eq
                    rw [up_s]
                  · rw [up_o (by omega), up_o (by omega), up_o (by omega), hm1.2 q (by omega)]
                    exact (oe_congr fun q2 hq2 => hfo q2 (by omega)).symm
              have hpb : ∀ h2 : jm_H, pm_o h2 r (fu_ o p i) (p + 1) → pm_o h2 r o p := fun h2 hh => by
                refine ⟨fun q hq => ?_, fun q hq => ?_⟩
                · have := hh.1 q (by omega)
                  rw [hfo q hq, oc_step hq (by omega), hoc q hq] at this
                  exact this
                · rw [hh.2 q (by omega)]
                  exact oe_congr fun q2 hq2 => hfo q2 (by omega)
              refine rm_least ho (hr1.sq f9.sq) m9 hv2 (by omega) (fun v v1 v2 v3 => ⟨fun c => ?_, fun c => ?_⟩)
              · refine jb_Mod_findBest_228 ⟨fun _ => ⟨fun _ => ?_, fun z => absurd rfl z⟩, fun z => absurd rfl z⟩
                rw [jm_w (by omega) (by omega)]
                refine jb_Mod_findBest_17 ⟨fun z => by omega, fun _ => ⟨fun _ => ?_, fun z => by rw [(hr1.sq f9.sq).1] at z; omega⟩⟩
                refine ih (i + 1) _ _ (by omega) (by omega) (hr1.sq f9.sq) (hpb _ m9) (fun h2 b1 b2 b3 => hk1 h2 b1 (f9.tr b2) ?_)
                rw [g107, g36] at b3
                rw [g36] at c
                have c1 : oR_ r n (cA_ r n (fu_ o p i) (p + 1)) (h1 107, h1 78 36) (h1 107, h1 78 36) := oR_no fun o2 z => by
                  have := v2 o2 z
                  simp only
                  omega
                exact c1.tr b3 (fun o2 o3 z1 z2 => cG_lx hpn z1 z2) (fun o2 => cG_split)
              · refine jb_Mod_findBest_228 ⟨fun z => by omega, fun _ => ⟨fun z => by omega, fun _ => ?_⟩⟩
                rw [jm_w (by omega) (by omega)]
                refine rm_fb ho hn e (p + 1) (fu_ o p i) _ _ _ (by omega) (by omega) (hr1.sq f9.sq) m9 hv2 (fun hpe => by rw [← v3 hpe]; omega) (fun h12 d1 d2 d3 => ⟨fun _ => ?_, fun z => by omega⟩)
                rw [show p + 1 - 1 = p by omega, fu_s, show ((p + 1 : Nat) : Int) - 1 = (p : Int) by omega]
                have hr12 := (hr1.sq f9.sq).sq d2.sq
                refine jb_Mod_findBest_17 ⟨fun z => by omega, fun _ => ⟨fun _ => ?_, fun z => by rw [hr12.1] at z; omega⟩⟩
                refine ih (i + 1) _ _ (by omega) (by omega) hr12 (hpb _ d1) (fun h2 b1 b2 b3 => hk1 h2 b1 ((f9.tr d2).tr b2) ?_)
                rw [g107, g36] at d3
                exact d3.tr b3 (fun o2 o3 z1 z2 => cG_lx hpn z1 z2) (fun o2 => cG_split)
            have hst : oe_ r (fu_ o p i) (p + 1) = max (oe_ r o p) (oc_ r (fu_ o p i) (p + 1) p + r 4 i) := by
              rw [oe_step, heo, fu_s]
            refine ⟨by omega, by omega, by omega, by omega, fun z => ⟨by omega, by omega, go _ ?_⟩, fun z => ⟨by omega, go _ ?_⟩⟩
            · rw [hst]; omega
            · rw [hst]; omega
        · rw [jm_w (by omega) (by omega)]
          refine ih (i + 1) _ h1 (by omega) (by omega) hr1 hm1 (fun h2 b1 b2 b3 => hk1 h2 b1 b2 ?_)
          have c1 : oR_ r n (cA_ r n (fu_ o p i) (p + 1)) (h1 107, h1 78 36) (h1 107, h1 78 36) := oR_no fun o2 z => absurd z (ms_no hpn hms)
          exact c1.tr b3 (fun o2 o3 z1 z2 => cG_lx hpn z1 z2) (fun o2 => cG_split)
    refine jb_Mod_findBest_17 ⟨fun z => by omega, fun _ => ⟨fun _ => ?_, fun z => by rw [hr.1] at z; omega⟩⟩
    refine loop n 0 _ h (by omega) rfl hr hm (fun h2 b1 b2 b3 => hk h2 b1 b2 ?_)
    have : ∀ o2, cG_ r n o p 0 o2 ↔ cA_ r n o p o2 := fun o2 => ⟨fun z => z.1, fun z => ⟨z, Nat.zero_le _⟩⟩
    have ec : cG_ r n o p 0 = cA_ r n o p := funext fun o2 => propext (this o2)
    rw [ec] at b3
    exact b3
theorem rm_findBest {h : jm_H} {K : jm_H → Prop} (hr : rw_M h n r) (ho : rw_ok n r) (hn : n ≤ 10) (hk : ∀ (h2 : jm_H) (o : Nat → Nat), bo_ r n o → (∀ q, q < n → h2 107 q = (o q : Nat)) → h2 78 36 = oe_ r o n → mf_ h h2 → K h2) : jm_CV E jm_SH jm_m_Mod_findBest 3 [jm_R 78] h K := by
  have f1 : mf_ h (jm_up (jm_up h 78 36 1000000) 108 0 0) := fun u v z => by rw [up_o (by omega), up_o (by omega)]
  have e36 : jm_up (jm_up h 78 36 1000000) 108 0 0 78 36 = 1000000 := by rw [up_o (by omega), up_s]
  refine jb_Mod_findBest (rm_fb ho hn n 0 (fun q => q) _ _ _ (by omega) rfl (hr.sq f1.sq) ⟨fun q hq => by omega, fun q hq => ?_⟩ (fun q hq => by omega) (fun e => ?_) (fun h2 c1 c2 c3 => ⟨fun z => by omega, fun _ => ?_⟩))
  · have : q = 0 := by omega
    subst this
    rw [up_s]
    rfl
  · subst e
    rw [e36]
    show (0 : Int) < 1000000
    omega
  · rw [e36] at c3
    obtain ⟨o2, d1, d2, d3⟩ := oR_bo ho (by omega) c3
    exact hk h2 o2 d1 d2 d3 (f1.tr c2)
theorem mc_best {h : jm_H} {x v : Int} {K : Int → jm_H → Prop} (hr : rw_M h n r) (ho : rw_ok n r) (hv : sp_best n r x v) (hk : ∀ h2 : jm_H, sq_ h h2 → K v h2) : jm_CI E jm_SH jm_m_Mod_best 4 [jm_R 78, jm_I x] h K := by
  refine jb_Mod_best ?_
  rw [hr.1]
  refine ⟨fun q => ?_, fun q => by rw [← hv.1 (by omega)]; exact hk h sq_.rf⟩
  refine rm_findBest hr ho (by omega) (fun h2 o c1 c2 c3 c4 => ?_)
  obtain ⟨v1, v2, v3⟩ := hv.2 (by omega) o c1
  have kk := hk h2 c4.sq
  rw [(hr.sq c4.sq).1, jm_w (by omega) (by omega)]
  refine ⟨fun z => rm_in (fun y => ⟨fun w => by omega, fun _ => ⟨by omega, ?_⟩⟩) (fun y => ⟨fun _ => ?_, fun w => absurd rfl w⟩), fun z => ?_⟩
  · rw [c2 _ (by omega), ← v2 (by omega)]; exact kk
  · rw [← v3 z (by omega)]; exact kk
  · rw [c3, ← v1 z]; exact kk
theorem rm_sort22 {h : jm_H} {K : Int → jm_H → Prop} {o : Nat → Nat} {v : Int} (hn : n ≤ 10) (hon : ∀ q, q < n → o q < n) (hk : ∀ h2 : jm_H, rw_M h2 n (so_r r o) → (∀ a b, ¬ pm_ a b → h2 a b = h a b) → K v h2) : ∀ (m i : Nat) (x1 : Int) (h1 : jm_H), m + i = n → x1 = i → h1 78 32 = n → h1 78 36 = v → (∀ q, q < n → h1 107 q = (o q : Nat)) → (∀ j l, j < n → l < 6 → h1 109 (6 * j + l) = r l j) → (∀ l j, l < 6 → j < i → h1 (99 + l) j = so_r r o l j) → (∀ a b, ¬ pm_ a b → h1 a b = h a b) → jm_BI E jm_SH jm_m_Mod_sort 4 22 [some (jm_R 78), some (jm_I x1)] [] h1 K
  | 0, i, x1, h1, hm, hx, hc, hv, h107, h109, hd, hf => by
    subst hx
    have hin : i = n := by omega
    subst hin
    refine jb_Mod_sort_22 ⟨fun _ => ?_, fun z => by rw [hc] at z; omega⟩
    rw [hv]
    exact hk h1 (rw_M.mk hc (by omega) hd) hf
  | m + 1, i, x1, h1, hm, hx, hc, hv, h107, h109, hd, hf => by
    subst hx
    have hb := hon i (by omega)
    refine jb_Mod_sort_22 ⟨fun z => by rw [hc] at z; omega, fun _ => ⟨by omega, ?_⟩⟩
    rw [jm_tn, h107 i (by omega)]
    refine rm_lay (by omega) (by omega) (fun h2 c1 c2 => ?_)
    rw [jm_w (by omega) (by omega)]
    refine rm_sort22 hn hon hk m (i + 1) _ h2 (by omega) (by omega) (by rw [c1 _ _ (by omega)]; exact hc) (by rw [c1 _ _ (by omega)]; exact hv) (fun q hq => by rw [c1 _ _ (by omega)]; exact h107 q hq) (fun j l z1 z2 => by rw [c1 _ _ (by omega)]; exact h109 j l z1 z2) (fun l j z1 z2 => ?_) (fun a b z => by rw [c1 a b (fun w => z (by unfold pm_; omega))]; exact hf a b z)
    by_cases e : j = i
    · subst e
      rw [c2 l z1, h109 _ l hb z1]
      rfl
    · rw [c1 _ j (by omega)]
      exact hd l j z1 (by omega)
theorem mc_sort {h : jm_H} {K : Int → jm_H → Prop} (hr : rw_M h n r) (ho : rw_ok n r) (k0 : 10 < n → K (-3) h) (kk : n ≤ 10 → ∀ (h2 : jm_H) (o : Nat → Nat), bo_ r n o → rw_M h2 n (so_r r o) → (∀ a b, ¬ pm_ a b → ¬ sc_ a b → h2 a b = h a b) → K (oe_ r o n) h2) : jm_CI E jm_SH jm_m_Mod_sort 4 [jm_R 78] h K := by
  refine jb_Mod_sort ?_
  rw [hr.1]
  refine ⟨fun q => ?_, fun q => k0 (by omega)⟩
  refine rm_findBest hr ho (by omega) (fun h2 o c1 c2 c3 c4 => ?_)
  have hr2 := hr.sq c4.sq
  refine rm_aside hr2 (fun h3 d1 d2 => ?_)
  refine rm_sort22 (h := h3) (by omega) (fun q hq => (c1.1 q hq).1) (fun h4 e1 e2 => kk (by omega) h4 o c1 e1 (fun a b z1 z2 => ?_)) n 0 _ h3 (by omega) rfl (by rw [d1 _ _ (by omega)]; exact hr2.1) (by rw [d1 _ _ (by omega)]; exact c3) (fun q hq => by rw [d1 _ _ (by omega)]; exact c2 q hq) d2 (fun l j z1 z2 => by omega) (fun _ _ _ => rfl)
  rw [e2 a b z1, d1 a b (fun w => z2 (by unfold sc_; omega)), c4.sq a b z2]
end MF
