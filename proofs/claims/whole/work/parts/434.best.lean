/-! THE BEST ORDER: the class's best and sort -/
theorem vo_id (r : Nat → Nat → Int) (n : Nat) : vo_ r n (fun q => q) n := fun q hq => ⟨hq, fun q2 h => Nat.ne_of_lt h, fun k hk _ => ⟨k, hk, rfl⟩⟩
theorem oR_bo {r : Nat → Nat → Int} {n : Nat} {o : Nat → Nat} {x : Nat → Int} {y : (Nat → Int) × Int} (ho : rw_ok n r) (hn : n ≤ 12) (h : oR_ r n (cA_ r n o 0) (x, 1000000) y) : ∃ o2, bo_ r n o2 ∧ (∀ q, q < n → y.1 q = (o2 q : Nat)) ∧ y.2 = oe_ r o2 n := by
  rcases h with ⟨-, -, c⟩ | ⟨o2, c1, c2, c3, c4, c5⟩
  · have h1 := c (fun q => q) ⟨vo_id r n, fun q hq => by omega⟩
    have h2 := oe_b (o := fun q => q) ho (fun q hq => hq) hn
    simp only at h1
    omega
  · refine ⟨o2, ⟨c1.1, fun o3 h3 => ?_⟩, c2, c3.symm⟩
    rw [c3]
    exact c5 o3 ⟨h3, fun q hq => by omega⟩
/-- what the class keeps of the best order -/
def ov_C (h : jm_H) (n : Nat) (r : Nat → Nat → Int) : Prop := h 47 11 = h 37 4 → n ≤ 10 ∧ ∃ o, bo_ r n o ∧ (∀ q, q < n → h 55 q = (o q : Nat)) ∧ h 47 9 = oe_ r o n
def of_ (h h2 : jm_H) : Prop := ∀ u v, ¬ ((u = 47 ∧ 9 ≤ v ∧ v ≤ 11) ∨ (48 ≤ u ∧ u ≤ 55)) → h2 u v = h u v
theorem of_.rf {h : jm_H} : of_ h h := fun _ _ _ => rfl
theorem of_.tr {h h1 h2 : jm_H} (p : of_ h h1) (q : of_ h1 h2) : of_ h h2 := fun a b z => (q a b z).trans (p a b z)
section BE
variable {E : jm_Env} {h : jm_H} {n : Nat} {r : Nat → Nat → Int}
theorem rc_or73 {K : jm_H → Prop} {t : Nat → Int} (hn : n ≤ 10) (ho : rw_ok n r) (ht : tv_ r n t) (hk : ∀ (h2 : jm_H) (o : Nat → Nat), bo_ r n o → (∀ q, q < n → h2 55 q = (o q : Nat)) → h2 47 9 = oe_ r o n → of_ h h2 → h2 47 11 = h 37 4 → K h2) : ∀ (m i : Nat) (x1 : Int) (h1 : jm_H) (b : Nat → Nat), m + i = n → x1 = i → rk_ h1 t i b → h1 47 10 = n → h1 47 11 = h 37 4 → rw_C h1 n r → (∀ k, k < n → pr_k h1 n r k) → (∀ k, k < n → h1 51 k = t k) → of_ h h1 → jm_BV E jm_SH jm_m_Order_refresh 20 73 [some (jm_R 47), some (jm_I x1)] [] h1 K
  | 0, i, x1, h1, b, hm, hx, hrk, hc, hv, hr, hp, h51, hf => by
    subst hx
    have hin : i = n := by omega
    subst hin
    refine jb_Order_refresh_73 ⟨fun _ => ?_, fun q => by rw [hc] at q; omega⟩
    have f1 : of_ h1 (jm_up h1 47 9 1000000) := fun u v z => up_o (by omega)
    have hs : os_C (jm_up h1 47 9 1000000) i r t b := by
      refine ⟨by rw [up_o (by omega)]; exact hc, hn, hr.off fun a b z => up_o (by omega), ht, fun q hq => (hrk.1 q hq).2, hrk.2.1, hrk.2.2, fun k hk2 => ?_⟩
      rw [up_o (by omega), up_o (by omega), up_o (by omega), up_o (by omega), up_o (by omega)]
      obtain ⟨p1, p2, p3, -⟩ := hp k hk2
      exact ⟨p1, p2, h51 k hk2, (hrk.1 k hk2).1, p3⟩
    refine rc_ext (t := t) (b := b) ho i 0 0 19 (fun q => q) _ _ _ _ _ (by omega) (by omega) rfl rfl rfl hs (fun q hq => by omega) (fun q hq => by omega) ⟨by omega, fun j => by simp⟩ (fun e => ?_) (fun h2 c1 c2 c3 => ?_)
    · subst e
      rw [up_s]
      show (0 : Int) < 1000000
      omega
    · rw [up_s] at c3
      obtain ⟨o2, d1, d2, d3⟩ := oR_bo ho (by omega) c3
      refine hk h2 o2 d1 d2 d3 ((hf.tr f1).tr fun u v z => c2 u v (by omega)) ?_
      rw [c2 _ _ (by omega), up_o (by omega)]
      exact hv
  | m + 1, i, x1, h1, b, hm, hx, hrk, hc, hv, hr, hp, h51, hf => by
    subst hx
    refine jb_Order_refresh_73 ⟨fun q => by rw [hc] at q; omega, fun _ => ?_⟩
    refine rc_rank hn (show i < n by omega) hrk h51 (fun h2 b2 c1 c2 => ?_)
    rw [jm_w (by omega) (by omega)]
    refine rc_or73 hn ho ht hk m (i + 1) _ h2 b2 (by omega) (by omega) c1 (by rw [c2 _ _ (by omega)]; exact hc) (by rw [c2 _ _ (by omega)]; exact hv) (hr.off fun a b z => c2 a b (by omega)) (fun k hk2 => ?_) (fun k hk2 => by rw [c2 _ _ (by omega)]; exact h51 k hk2) (hf.tr fun u v z => c2 u v (by omega))
    obtain ⟨p1, p2, p3, p4⟩ := hp k hk2
    have e51 : h2 51 = h1 51 := funext fun v => c2 51 v (by omega)
    exact ⟨by rw [c2 _ _ (by omega)]; exact p1, by rw [c2 _ _ (by omega)]; exact p2, by rw [c2 _ _ (by omega)]; exact p3, by rw [e51]; exact p4⟩
theorem rc_or56 {K : jm_H → Prop} (hn : n ≤ 10) (ho : rw_ok n r) (hk : ∀ (h2 : jm_H) (o : Nat → Nat), bo_ r n o → (∀ q, q < n → h2 55 q = (o q : Nat)) → h2 47 9 = oe_ r o n → of_ h h2 → h2 47 11 = h 37 4 → K h2) : ∀ (i : Nat) (x1 : Int) (h1 : jm_H), i ≤ n → x1 = (i : Int) - 1 → h1 47 10 = n → h1 47 11 = h 37 4 → rw_C h1 n r → (∀ k, i ≤ k → k < n → pr_k h1 n r k) → of_ h h1 → jm_BV E jm_SH jm_m_Order_refresh 20 56 [some (jm_R 47), some (jm_I x1)] [] h1 K
  | 0, x1, h1, hi, hx, hc, hv, hr, hp, hf => by
    subst hx
    refine jb_Order_refresh_56 ⟨fun _ => ?_, fun q => absurd (by decide) q⟩
    exact rc_or73 (t := h1 51) hn ho (fun i hi => (hp i (by omega) hi).2.2.2) hk n 0 _ h1 (fun q => q) (by omega) rfl ⟨fun q hq => by omega, fun a c ha => by omega, fun a c _ hc => by omega⟩ hc hv hr (fun k hk2 => hp k (by omega) hk2) (fun _ _ => rfl) hf
  | i + 1, x1, h1, hi, hx, hc, hv, hr, hp, hf => by
    have hx2 : x1 = (i : Int) := by omega
    subst hx2
    refine jb_Order_refresh_56 ⟨fun q => by omega, fun _ => ?_⟩
    refine rc_prepare hn ho (show i < n by omega) hc hr (fun k2 z1 z2 => hp k2 (by omega) z2) (fun h2 c1 c2 => ?_)
    rw [jm_w (by omega) (by omega)]
    refine rc_or56 hn ho hk i _ h2 (by omega) (by omega) (by rw [c1 _ _ (by omega)]; exact hc) (by rw [c1 _ _ (by omega)]; exact hv) (hr.off fun a b z => c1 a b (by omega)) (fun k z1 z2 => ?_) (hf.tr fun u v z => c1 u v (by omega))
    by_cases e : k = i
    · subst e; exact c2
    · exact (hp k (by omega) z2).fr (by omega) c1
theorem rc_oref {K : jm_H → Prop} (hr : rw_C h n r) (ho : rw_ok n r) (hn : n ≤ 10) (hv : ov_C h n r) (hk : ∀ (h2 : jm_H) (o : Nat → Nat), bo_ r n o → (∀ q, q < n → h2 55 q = (o q : Nat)) → h2 47 9 = oe_ r o n → of_ h h2 → h2 47 11 = h 37 4 → K h2) : jm_CV E jm_SH jm_m_Order_refresh 20 [jm_R 47] h K := by
  refine jb_Order_refresh ⟨fun q => ?_, fun q => ⟨fun _ => ?_, fun z => by rw [hr.1] at z; omega⟩⟩
  · obtain ⟨-, o, a1, a2, a3⟩ := hv q
    exact hk h o a1 a2 a3 of_.rf q
  · rw [hr.1, jm_w (by omega) (by omega)]
    have f1 : of_ h (jm_up (jm_up h 47 11 (h 37 4)) 47 10 (n : Int)) := fun u v z => by rw [up_o (by omega), up_o (by omega)]
    exact rc_or56 hn ho hk n _ _ (Nat.le_refl _) rfl up_s (by rw [up_o (by omega), up_s]) (hr.off fun a b z => f1 a b (by omega)) (fun k z1 z2 => by omega) f1
/-- what best answers -/
def sp_best (n : Nat) (r : Nat → Nat → Int) (x v : Int) : Prop := (10 < n → v = -3) ∧ (n ≤ 10 → ∀ o, bo_ r n o → (x = -1 → v = oe_ r o n) ∧ (0 ≤ x ∧ x < n → v = (o x.toNat : Nat)) ∧ (¬ x = -1 → ¬ (0 ≤ x ∧ x < n) → v = -6))
theorem sp_best_o {x v : Int} {o : Nat → Nat} (hn : n ≤ 10) (hb : bo_ r n o) (h1 : x = -1 → v = oe_ r o n) (h2 : 0 ≤ x ∧ x < n → v = (o x.toNat : Nat)) (h3 : ¬ x = -1 → ¬ (0 ≤ x ∧ x < n) → v = -6) : sp_best n r x v := by
  refine ⟨fun z => by omega, fun _ o2 hb2 => ⟨fun z => ?_, fun z => ?_, h3⟩⟩
  · rw [h1 z]
    exact oe_congr (bo_one hb hb2)
  · rw [h2 z, bo_one hb hb2 _ (by omega)]
theorem tc_best {x : Int} {K : Int → jm_H → Prop} (hr : rw_C h n r) (ho : rw_ok n r) (hv : ov_C h n r) (hk : ∀ (v : Int) (h2 : jm_H), sp_best n r x v → of_ h h2 → ov_C h2 n r → (h2 47 11 = h 47 11 ∨ h2 47 11 = h 37 4) → K v h2) : jm_CI E jm_SH jm_m_Top_best 21 [jm_R 0, jm_I x] h K := by
  refine jb_Top_best ?_
  rw [hr.1]
  refine ⟨fun q => ?_, fun q => hk _ h ⟨fun _ => rfl, fun z => by omega⟩ of_.rf hv (Or.inl rfl)⟩
  refine rc_oref hr ho (by omega) hv (fun h2 o c1 c2 c3 c4 c5 => ?_)
  have hr2 : rw_C h2 n r := hr.off fun a b z => c4 a b (by omega)
  have hv2 : ov_C h2 n r := fun _ => ⟨by omega, o, c1, c2, c3⟩
  refine ⟨fun z => rc_has hr2 (fun y => ⟨fun w => by omega, fun _ => ⟨by omega, ?_⟩⟩) (fun y => ⟨fun _ => ?_, fun w => absurd rfl w⟩), fun z => ?_⟩
  · rw [c2 _ (by omega)]
    exact hk _ h2 (sp_best_o (by omega) c1 (fun w => absurd w z) (fun _ => rfl) (fun _ w => absurd y w)) c4 hv2 (Or.inr c5)
  · exact hk _ h2 (sp_best_o (by omega) c1 (fun w => absurd w z) (fun w => absurd w y) (fun _ _ => rfl)) c4 hv2 (Or.inr c5)
  · rw [c3]
    exact hk _ h2 (sp_best_o (by omega) c1 (fun _ => rfl) (fun w => by omega) (fun w _ => absurd z w)) c4 hv2 (Or.inr c5)
/-- the row in another order -/
def so_r (r : Nat → Nat → Int) (o : Nat → Nat) : Nat → Nat → Int := fun l i => r l (o i)
theorem so_ok {o : Nat → Nat} (ho : rw_ok n r) (hv : vo_ r n o n) : rw_ok n (so_r r o) := fun i hi => ho (o i) (hv i hi).1
/-- while the row is rearranged: lines below L are done, of line L the places below k -/
def ra_ (h h1 : jm_H) (n : Nat) (r : Nat → Nat → Int) (o : Nat → Nat) (L k : Nat) : Prop := h1 37 3 = n ∧ h1 37 4 = h 37 4 ∧ (∀ a b, ¬ pc_ a b → ¬ a = 46 → h1 a b = h a b) ∧ (∀ l j, l < L → l < 6 → j < n → h1 (39 + l) j = so_r r o l j) ∧ (∀ j, L < 6 → j < k → j < n → h1 (39 + L) j = so_r r o L j) ∧ (∀ j, L < 6 → k ≤ j → j < n → h1 (39 + L) j = r L j) ∧ ∀ l j, L < l → l < 6 → j < n → h1 (39 + l) j = r l j
theorem rc_ra40 {K : jm_H → Prop} {o : Nat → Nat} {L : Nat} (hn : n ≤ 10) (ho : ∀ q, q < n → h 55 q = (o q : Nat) ∧ o q < n) (hL : L < 6) (hk : ∀ h2, ra_ h h2 n r o L n → jm_BV E jm_SH jm_m_Row_rearrange 1 2 [some (jm_R 37), some (jm_R 55), some (jm_I (jm_w32 ((L : Int) + 1))), none] [] h2 K) : ∀ (m k : Nat) (x3 : Int) (h1 : jm_H), m + k = n → x3 = k → ra_ h h1 n r o L k → (∀ j, j < n → h1 46 j = r L j) → jm_BV E jm_SH jm_m_Row_rearrange 1 40 [some (jm_R 37), some (jm_R 55), some (jm_I L), some (jm_I x3)] [] h1 K
  | 0, k, x3, h1, hm, hx, hv, h46 => by
    subst hx
    have hkn : k = n := by omega
    subst hkn
    refine jb_Row_rearrange_40 ⟨fun _ => hk h1 hv, fun q => by rw [hv.1] at q; omega⟩
  | m + 1, k, x3, h1, hm, hx, hv, h46 => by
    subst hx
    obtain ⟨a1, a2, a3, a4, a5, a6, a7⟩ := hv
    obtain ⟨o1, o2⟩ := ho k (by omega)
    refine jb_Row_rearrange_40 ⟨fun q => by rw [a1] at q; omega, fun _ => ⟨fun q => by omega, fun _ => ⟨by omega, ?_⟩⟩⟩
    rw [jm_tn, a3 55 k (by unfold pc_; omega) (by omega), o1]
    refine jb_Row_has ?_
    rw [a1]
    refine ⟨fun q => by omega, fun _ => ⟨fun q => by omega, fun _ => ⟨fun q => by omega, fun _ => ⟨by omega, by omega, ?_⟩⟩⟩⟩
    rw [a3 55 k (by unfold pc_; omega) (by omega), o1, jm_tn, jm_tn, h46 _ o2, jm_w (by omega) (by omega)]
    refine ⟨by omega, by omega, ?_⟩
    have hne : ∀ l, l ≠ L → ¬ (39 + l = 39 + L) := fun l z => by omega
    refine rc_ra40 hn ho hL hk m (k + 1) _ _ (by omega) (by omega) ⟨by rw [up_o (by omega)]; exact a1, by rw [up_o (by omega)]; exact a2, fun a b z1 z2 => ?_, fun l j z1 z2 z3 => ?_, fun j z1 z2 z3 => ?_, fun j z1 z2 z3 => ?_, fun l j z1 z2 z3 => ?_⟩ (fun j hj => by rw [up_o (by omega)]; exact h46 j hj)
    · rw [up_o (fun z => z1 (by unfold pc_; omega))]
      exact a3 a b z1 z2
    · rw [up_o (fun z => hne l (by omega) z.1)]
      exact a4 l j z1 z2 z3
    · by_cases e : j = k
      · subst e
        rw [up_s]
        rfl
      · rw [up_o (by omega)]
        exact a5 j z1 (by omega) z3
    · rw [up_o (by omega)]
      exact a6 j z1 (by omega) z3
    · rw [up_o (fun z => hne l (by omega) z.1)]
      exact a7 l j z1 z2 z3
theorem rc_ra10 {K : jm_H → Prop} {o : Nat → Nat} {L : Nat} (hn : n ≤ 10) (ho : ∀ q, q < n → h 55 q = (o q : Nat) ∧ o q < n) (hL : L < 6) (hk : ∀ h2, ra_ h h2 n r o L n → jm_BV E jm_SH jm_m_Row_rearrange 1 2 [some (jm_R 37), some (jm_R 55), some (jm_I (jm_w32 ((L : Int) + 1))), none] [] h2 K) : ∀ (m k : Nat) (x3 : Int) (h1 : jm_H), m + k = n → x3 = k → ra_ h h1 n r o L 0 → (∀ j, j < k → h1 46 j = r L j) → jm_BV E jm_SH jm_m_Row_rearrange 1 10 [some (jm_R 37), some (jm_R 55), some (jm_I L), some (jm_I x3)] [] h1 K
  | 0, k, x3, h1, hm, hx, hv, h46 => by
    subst hx
    have hkn : k = n := by omega
    subst hkn
    refine jb_Row_rearrange_10 ⟨fun _ => rc_ra40 hn ho hL hk k 0 _ h1 (by omega) rfl hv h46, fun q => by rw [hv.1] at q; omega⟩
  | m + 1, k, x3, h1, hm, hx, hv, h46 => by
    subst hx
    obtain ⟨a1, a2, a3, a4, a5, a6, a7⟩ := hv
    refine jb_Row_rearrange_10 ⟨fun q => by rw [a1] at q; omega, fun _ => ⟨by omega, by omega, by omega, ?_⟩⟩
    rw [jm_tn, jm_tn, a6 k hL (by omega) (by omega), jm_w (by omega) (by omega)]
    refine rc_ra10 hn ho hL hk m (k + 1) _ _ (by omega) (by omega) ⟨by rw [up_o (by omega)]; exact a1, by rw [up_o (by omega)]; exact a2, fun a b z1 z2 => by rw [up_o (by omega)]; exact a3 a b z1 z2, fun l j z1 z2 z3 => by rw [up_o (by omega)]; exact a4 l j z1 z2 z3, fun j z1 z2 z3 => by omega, fun j z1 z2 z3 => by rw [up_o (by omega)]; exact a6 j z1 z2 z3, fun l j z1 z2 z3 => by rw [up_o (by omega)]; exact a7 l j z1 z2 z3⟩ (fun j hj => ?_)
    by_cases e : j = k
    · subst e; rw [up_s]
    · rw [up_o (by omega)]; exact h46 j (by omega)
theorem rc_ra2 {K : jm_H → Prop} {o : Nat → Nat} (hn : n ≤ 10) (ho : ∀ q, q < n → h 55 q = (o q : Nat) ∧ o q < n) (hk : ∀ h2 : jm_H, rw_C h2 n (so_r r o) → (∀ a b, ¬ pc_ a b → ¬ a = 46 → h2 a b = h a b) → h2 37 4 = jm_w32 (h 37 4 + 1) → K h2) : ∀ (m L : Nat) (x2 : Int) (h1 : jm_H), m + L = 6 → x2 = L → ra_ h h1 n r o L 0 → jm_BV E jm_SH jm_m_Row_rearrange 1 2 [some (jm_R 37), some (jm_R 55), some (jm_I x2), none] [] h1 K
  | 0, L, x2, h1, hm, hx, hv => by
    subst hx
    obtain ⟨a1, a2, a3, a4, a5, a6, a7⟩ := hv
    refine jb_Row_rearrange_2 ⟨fun _ => hk _ (rw_C.mk ?_ (by omega) fun l i z1 z2 => ?_) (fun a b z1 z2 => ?_) ?_, fun q => by omega⟩
    · rw [up_o (by omega)]; exact a1
    · rw [up_o (by omega)]; exact a4 l i (by omega) z1 z2
    · rw [up_o (fun z => z1 (by unfold pc_; omega))]
      exact a3 a b z1 z2
    · rw [up_s, a2]
  | m + 1, L, x2, h1, hm, hx, hv => by
    subst hx
    refine jb_Row_rearrange_2 ⟨fun q => by omega, fun _ => ?_⟩
    refine rc_ra10 hn ho (show L < 6 by omega) (fun h2 hv2 => ?_) n 0 _ h1 (by omega) rfl hv (fun j hj => by omega)
    rw [jm_w (by omega) (by omega)]
    obtain ⟨a1, a2, a3, a4, a5, a6, a7⟩ := hv2
    refine rc_ra2 hn ho hk m (L + 1) _ h2 (by omega) (by omega) ⟨a1, a2, a3, fun l j z1 z2 z3 => ?_, fun j z1 z2 z3 => by omega, fun j z1 z2 z3 => a7 _ j (by omega) z1 z3, fun l j z1 z2 z3 => a7 l j (by omega) z2 z3⟩
    by_cases e : l = L
    · subst e
      exact a5 j z2 (by omega) z3
    · exact a4 l j (by omega) z2 z3
theorem rc_rearrange {K : jm_H → Prop} {o : Nat → Nat} (hr : rw_C h n r) (hn : n ≤ 10) (ho : ∀ q, q < n → h 55 q = (o q : Nat) ∧ o q < n) (hk : ∀ h2 : jm_H, rw_C h2 n (so_r r o) → (∀ a b, ¬ pc_ a b → ¬ a = 46 → h2 a b = h a b) → h2 37 4 = jm_w32 (h 37 4 + 1) → K h2) : jm_CV E jm_SH jm_m_Row_rearrange 1 [jm_R 37, jm_R 55] h K :=
  jb_Row_rearrange (rc_ra2 hn ho hk 6 0 _ h rfl rfl ⟨hr.1, rfl, fun _ _ _ _ => rfl, fun l j z1 => by omega, fun j z1 z2 => by omega, fun j z1 z2 z3 => hr.g z1 z3, fun l j z1 z2 z3 => hr.g z2 z3⟩)
theorem tc_sort {K : Int → jm_H → Prop} (hr : rw_C h n r) (ho : rw_ok n r) (hv : ov_C h n r) (k0 : 10 < n → K (-3) h) (kk : n ≤ 10 → ∀ (h2 : jm_H) (o : Nat → Nat), bo_ r n o → rw_C h2 n (so_r r o) → (∀ a b, ¬ pc_ a b → ¬ a = 46 → ¬ ((a = 47 ∧ 9 ≤ b ∧ b ≤ 11) ∨ (48 ≤ a ∧ a ≤ 55)) → h2 a b = h a b) → h2 37 4 = jm_w32 (h 37 4 + 1) → h2 47 11 = h 37 4 → K (oe_ r o n) h2) : jm_CI E jm_SH jm_m_Top_sort 21 [jm_R 0] h K := by
  refine jb_Top_sort ?_
  rw [hr.1]
  refine ⟨fun q => ?_, fun q => k0 (by omega)⟩
  refine rc_oref hr ho (by omega) hv (fun h2 o c1 c2 c3 c4 c5 => ?_)
  have hr2 : rw_C h2 n r := hr.off fun a b z => c4 a b (by omega)
  refine rc_rearrange hr2 (by omega) (fun q hq => ⟨c2 q hq, (c1.1 q hq).1⟩) (fun h3 d1 d2 d3 => ?_)
  rw [d2 47 9 (by unfold pc_; omega) (by omega), c3]
  refine kk (by omega) h3 o c1 d1 (fun a b z1 z2 z3 => by rw [d2 a b z1 z2, c4 a b z3]) ?_ ?_
  · rw [d3, c4 37 4 (by omega)]
  · rw [d2 47 11 (by unfold pc_; omega) (by omega), c5]
end BE
