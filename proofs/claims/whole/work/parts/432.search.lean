/-! THE BEST ORDER: the class tries them -/
theorem rv2_rdy {n : Nat} {r : Nat → Nat → Int} {o : Nat → Nat} {p D : Nat} {st : Nat → Int} (h : vo_ r n o (p + 1)) (hd : ∀ q, q < p → D.testBit (o q) = true) : rv2_ r D st (rw_s1 r (o p)) = rdy_ r st (rw_s1 r (o p)) ∧ rv2_ r D st (rw_s2 r (o p)) = rdy_ r st (rw_s2 r (o p)) := by
  have key : ∀ g, rw_us r (o p) g → rv2_ r D st (rw_last (r 1) g (o p)) = rdy_ r st (rw_last (r 1) g (o p)) := fun g hu => by
    unfold rv2_ rdy_
    rcases vo_set h hu with ⟨a, -⟩ | ⟨q0, a, b, -⟩
    · rw [a]; rfl
    · rw [b, if_neg (show ¬ ((o q0 : Nat) : Int) < 0 by omega), if_neg (show ¬ ((o q0 : Nat) : Int) < 0 by omega), jm_tn, if_pos (hd q0 a)]
  refine ⟨key _ (Or.inl rfl), ?_⟩
  unfold rw_s2
  by_cases q : r 0 (o p) < 5
  · rw [if_pos q]
    exact key _ (Or.inr ⟨q, rfl⟩)
  · rw [if_neg q]
    rfl
section EY
variable {E : jm_Env} {n : Nat} {r : Nat → Nat → Int} {t : Nat → Int} {b : Nat → Nat}
theorem rc_ext (ho : rw_ok n r) : ∀ (e p D d : Nat) (o : Nat → Nat) (x1 x2 x3 : Int) (h : jm_H) (K : jm_H → Prop), e + p = n → e + 3 ≤ d → x1 = p → x2 = D → x3 = rw_nx (oc_ r o p) p - 1 → os_C h n r t b → pc_o h r o p → vo_ r n o p → dn_ D o p → (p = n → oe_ r o n < h 47 9) → (∀ h2 : jm_H, pc_o h2 r o p → ef_ h h2 → oR_ r n (cA_ r n o p) (h 55, h 47 9) (h2 55, h2 47 9) → K h2) → jm_CV E jm_SH jm_m_Order_extend d [jm_R 47, jm_I x1, jm_I x2, jm_I x3] h K
  | 0, p, D, d, o, x1, x2, x3, h, K, he, hdd, e1, e2, e3, hs, hp, hv, hd, hlt, hk => by
    have hn := hs.2.1
    have hpn : p = n := by omega
    subst hpn
    subst e1
    subst e2
    refine jb_Order_extend (dr := d - 1) (by omega) (by omega) ⟨fun q => by rw [hs.1] at q; omega, fun _ => ?_⟩
    refine rc_least hs ho hp hv hd e3 (fun v v1 v2 v3 => ?_)
    have ev := v3 rfl
    rw [hs.1, jm_tn]
    refine ⟨by omega, hk _ (fun q hq => ?_) (fun u w z => ?_) (Or.inr ⟨o, ⟨hv, fun _ _ => rfl⟩, fun q hq => ?_, ?_, ?_, fun o2 h2 => ?_⟩)⟩
    · simp only [jm_cpy, jm_up]
      simpa using hp q hq
    · have z1 : ¬ u = 55 := by omega
      have z2 : ¬ (u = 47 ∧ w = 9) := by omega
      simp only [jm_cpy, z1]
      simp only [false_and, if_false]
      exact up_o z2
    · have := (hp q hq).1
      simp [jm_cpy, jm_up, hq, this]
    · simp [jm_cpy, jm_up, ev]
    · simp only [jm_cpy, jm_up]
      simpa [ev] using hlt rfl
    · have e : oe_ r o2 p = oe_ r o p := oe_congr h2.2
      refine ⟨by simp [jm_cpy, jm_up, ev, e], fun l => ?_⟩
      obtain ⟨q, q1, q2, q3⟩ := l
      have := h2.2 q q1
      omega
  | e + 1, p, D, d, o, x1, x2, x3, h, K, he, hdd, e1, e2, e3, hs, hp, hv, hd, hlt, hk => by
    have hn := hs.2.1
    have hpn : p < n := by omega
    subst e1
    subst e2
    have hnx : 0 ≤ rw_nx (oc_ r o p) p ∧ rw_nx (oc_ r o p) p ≤ 100 := by
      cases p with
      | zero => simp [rw_nx]
      | succ p =>
        have := oc_b ho (p + 1) (fun q hq => (hv q hq).1) p (by omega)
        show 0 ≤ oc_ r o (p + 1) p + 1 ∧ oc_ r o (p + 1) p + 1 ≤ 100
        omega
    have loop : ∀ (m k : Nat) (x4 : Int) (h1 : jm_H), m + k = n → x4 = k → os_C h1 n r t b → pc_o h1 r o p → (∀ h2 : jm_H, pc_o h2 r o p → ef_ h1 h2 → oR_ r n (cG_ r n o p k) (h1 55, h1 47 9) (h2 55, h2 47 9) → K h2) → jm_BV E jm_SH jm_m_Order_extend d 39 [some (jm_R 47), some (jm_I p), some (jm_I D), some (jm_I x3), some (jm_I x4), none] [] h1 K := by
      intro m
      induction m with
      | zero =>
        intro k x4 h1 hm e4 hs1 hp1 hk1
        subst e4
        refine jb_Order_extend_39 (dr := d - 1) (by omega) (by omega) ⟨fun _ => hk1 h1 hp1 ef_.rf (oR_no fun o2 h2 => ?_), fun q => by rw [hs1.1] at q; omega⟩
        have := (h2.1.1 p hpn).1
        have := h2.2
        omega
      | succ m ih =>
        intro k x4 h1 hm e4 hs1 hp1 hk1
        subst e4
        have hkn : k < n := by omega
        have hbit := bt_b hd.1 (show k < 32 by omega)
        -- k is passed over
        have pass : ∀ h2 : jm_H, pc_o h2 r o p → ef_ h1 h2 → (∀ o2, cA_ r n (fu_ o p k) (p + 1) o2 → h2 47 9 ≤ oe_ r o2 n) → (∀ q, q < n → h2 55 q = h1 55 q) → h2 47 9 = h1 47 9 → jm_BV E jm_SH jm_m_Order_extend d 39 [some (jm_R 47), some (jm_I p), some (jm_I D), some (jm_I x3), some (jm_I (jm_w32 ((k : Int) + 1))), none] [] h2 K := fun h2 a1 a2 a3 a4 a5 => by
          rw [jm_w (by omega) (by omega)]
          refine ih (k + 1) _ h2 (by omega) (by omega) (hs1.fr a2) a1 (fun h3 b1 b2 b3 => hk1 h3 b1 (a2.tr b2) ?_)
          have c1 : oR_ r n (cA_ r n (fu_ o p k) (p + 1)) (h1 55, h1 47 9) (h2 55, h2 47 9) := Or.inl ⟨a4, a5, fun o2 h => by have := a3 o2 h; simp only; omega⟩
          exact c1.tr b3 (fun o2 o3 z1 z2 => cG_lx hpn z1 z2) (fun o2 => cG_split)
        have no : ¬ ms_ r o p k → jm_BV E jm_SH jm_m_Order_extend d 39 [some (jm_R 47), some (jm_I p), some (jm_I D), some (jm_I x3), some (jm_I (jm_w32 ((k : Int) + 1))), none] [] h1 K := fun hms => pass h1 hp1 ef_.rf (fun o2 h2 => absurd h2 (ms_no hpn hms)) (fun _ _ => rfl) rfl
        refine jb_Order_extend_39 (dr := d - 1) (by omega) (by omega) ⟨fun q => by rw [hs1.1] at q; omega, fun _ => ⟨fun z => no (fun hms => ?_), fun z => ⟨by omega, ?_⟩⟩⟩
        · have : D.testBit k = true := by
            cases w : D.testBit k
            · exact absurd (hbit.mpr w) z
            · rfl
          obtain ⟨q, q1, q2⟩ := (hd.2 k).mp this
          exact hms.1 q q1 q2
        · have hDk := hbit.mp z
          obtain ⟨g1, g2, g3, g4, N, g5, g6, g7⟩ := hs1.2.2.2.2.2.2.2 k hkn
          rw [jm_tn, g5]
          obtain ⟨w, w1, w2, w3⟩ := jv_andn g6 hd.1
          rw [w1]
          refine ⟨fun y => ?_, fun y => no (fun hms => y ?_)⟩
          · have hw0 : w = 0 := by omega
            have hms : ms_ r o p k := by
              refine ⟨fun q q1 q2 => ?_, fun j j1 j2 => ?_⟩
              · have : D.testBit k = true := (hd.2 k).mpr ⟨q, q1, q2⟩
                rw [hDk] at this
                cases this
              · have t1 := (g7 j).mpr ⟨j1, j2⟩
                have t2 := w3 j
                rw [hw0, t1] at t2
                simp at t2
                exact (hd.2 j).mp t2
            have hv2 := vo_fu hv hkn hms
            have hfo : ∀ q, q < p → fu_ o p k q = o q := fun q hq => fu_o (by omega)
            have hoc : ∀ q, q < p → oc_ r (fu_ o p k) p q = oc_ r o p q := oc_congr p hfo
            have hst : ∀ q, q < p → h1 53 (fu_ o p k q) = oc_ r (fu_ o p k) p q := fun q hq => by rw [hoc q hq, hfo q hq]; exact (hp1 q hq).2
            have hrr := rv2_rdy (st := h1 53) (D := D) hv2 (fun q hq => by rw [hfo q hq]; exact (hd.2 _).mpr ⟨q, hq, rfl⟩)
            rw [fu_s] at hrr
            have hat := vo_at (c := oc_ r (fu_ o p k) p) (s := h1 53) hv2 hst
            rw [fu_s, rw_nx_congr hoc, ← hrr.1, ← hrr.2] at hat
            have hcp : oc_ r (fu_ o p k) (p + 1) p = od_at r (fu_ o p k) (oc_ r (fu_ o p k) p) p := by
              show (if p = p then _ else _) = _
              rw [if_pos rfl]
            have hcb := oc_b ho (p + 1) (fun q hq => (hv2 q hq).1) p (by omega)
            refine rc_rdyFor hs1 ho hp1 hv hd hkn ⟨by omega, by omega, by omega, ?_⟩
            have ex3 : jm_w32 (x3 + 1) = rw_nx (oc_ r o p) p := by
              rw [jm_w (by omega) (by omega)]
              omega
            rw [ex3, ← hat, ← hcp, jm_tn, up_s, jv_shl_1 k (by omega)]
            have hk2 : 2 ^ k < 2 ^ 12 := Nat.pow_lt_pow_right (by omega) (by omega)
            have hor : D ||| 2 ^ k < 2 ^ 12 := Nat.or_lt_two_pow hd.1 hk2
            rw [jv_or_nat (by omega)]
            have hf9 : ef_ h1 (jm_up (jm_up h1 53 k (oc_ r (fu_ o p k) (p + 1) p)) 54 p (k : Int)) := fun u v z => by rw [up_o (by omega), up_o (by omega)]
            have hp9 : pc_o (jm_up (jm_up h1 53 k (oc_ r (fu_ o p k) (p + 1) p)) 54 p (k : Int)) r (fu_ o p k) (p + 1) := fun q hq => by
              by_cases eq : q = p
              · subst eq
                rw [fu_s, up_s, up_o (by omega), up_s]
                exact ⟨rfl, rfl⟩
              · have hq2 : q < p := by omega
                have hne : o q ≠ k := hms.1 q hq2
                rw [hfo q hq2, up_o (by omega), up_o (by omega), up_o (by omega), up_o (by omega), oc_step hq2 (by omega), hoc q hq2]
                exact hp1 q hq2
            have hpb : ∀ h2 : jm_H, pc_o h2 r (fu_ o p k) (p + 1) → pc_o h2 r o p := fun h2 hh q hq => by
              have := hh q (by omega)
              rw [hfo q hq, oc_step hq (by omega), hoc q hq] at this
              exact this
            have hd9 : dn_ (D ||| 2 ^ k) (fu_ o p k) (p + 1) := by
              refine ⟨hor, fun j => ?_⟩
              rw [Nat.testBit_or, bt_two, Bool.or_eq_true, decide_eq_true_eq, hd.2 j]
              constructor
              · rintro (⟨q, q1, q2⟩ | rfl)
                · exact ⟨q, by omega, by rw [hfo q q1]; exact q2⟩
                · exact ⟨p, by omega, fu_s⟩
              · rintro ⟨q, q1, q2⟩
                by_cases eq : q = p
                · subst eq
                  rw [fu_s] at q2
                  exact Or.inr q2
                · rw [hfo q (by omega)] at q2
                  exact Or.inl ⟨q, by omega, q2⟩
            refine rc_least (hs1.fr hf9) ho hp9 hv2 hd9 (by show _ = oc_ r (fu_ o p k) (p + 1) p + 1 - 1; omega) (fun v v1 v2 v3 => ⟨fun c => ?_, fun c => ⟨by omega, ?_⟩⟩)
            · refine pass _ (hpb _ hp9) hf9 (fun o2 h2 => ?_) (fun q hq => by rw [up_o (by omega), up_o (by omega)]) (by rw [up_o (by omega), up_o (by omega)])
              have := v2 o2 h2
              omega
            · have e53 : jm_up (jm_up h1 53 k (oc_ r (fu_ o p k) (p + 1) p)) 54 p (k : Int) 53 k = oc_ r (fu_ o p k) (p + 1) p := by rw [up_o (by omega), up_s]
              rw [e53, jm_w (x := (p : Int) + 1) (by omega) (by omega)]
              refine rc_ext ho e (p + 1) (D ||| 2 ^ k) (d - 1) (fu_ o p k) _ _ _ _ _ (by omega) (by omega) (by omega) rfl (by show _ = oc_ r (fu_ o p k) (p + 1) p + 1 - 1; omega) (hs1.fr hf9) hp9 hv2 hd9 (fun hpe => by rw [← v3 hpe]; omega) (fun h12 c1 c2 c3 => ?_)
              rw [jm_w (by omega) (by omega)]
              refine ih (k + 1) _ h12 (by omega) (by omega) (hs1.fr (hf9.tr c2)) (hpb _ c1) (fun h3 b1 b2 b3 => hk1 h3 b1 ((hf9.tr c2).tr b2) ?_)
              have c3' : oR_ r n (cA_ r n (fu_ o p k) (p + 1)) (h1 55, h1 47 9) (h12 55, h12 47 9) := by
                have q1 : jm_up (jm_up h1 53 k (oc_ r (fu_ o p k) (p + 1) p)) 54 p (k : Int) 55 = h1 55 := funext fun q => by rw [up_o (by omega), up_o (by omega)]
                have q2 : jm_up (jm_up h1 53 k (oc_ r (fu_ o p k) (p + 1) p)) 54 p (k : Int) 47 9 = h1 47 9 := by rw [up_o (by omega), up_o (by omega)]
                rw [q1, q2] at c3
                exact c3
              exact c3'.tr b3 (fun o2 o3 z1 z2 => cG_lx hpn z1 z2) (fun o2 => cG_split)
          · have : w = 0 := by
              apply Nat.eq_of_testBit_eq
              intro j
              rw [w3 j, Nat.zero_testBit]
              cases a : N.testBit j
              · rfl
              · obtain ⟨j1, j2⟩ := (g7 j).mp a
                obtain ⟨q, q1, q2⟩ := hms.2 j j1 j2
                rw [(hd.2 j).mpr ⟨q, q1, q2⟩]
                rfl
            omega
    refine jb_Order_extend (dr := d - 1) (by omega) (by omega) ⟨fun _ => loop n 0 _ h (by omega) rfl hs hp (fun h2 b1 b2 b3 => hk h2 b1 b2 ?_), fun q => by rw [hs.1] at q; omega⟩
    have : ∀ o2, cG_ r n o p 0 o2 ↔ cA_ r n o p o2 := fun o2 => ⟨fun z => z.1, fun z => ⟨z, Nat.zero_le _⟩⟩
    have e : cG_ r n o p 0 = cA_ r n o p := funext fun o2 => propext (this o2)
    rw [e] at b3
    exact b3
end EY
