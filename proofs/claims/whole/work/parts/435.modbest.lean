/-! THE BEST ORDER: the reference's -/
def mf_ (h h2 : jm_H) : Prop := ∀ u v, ¬ ((105 ≤ u ∧ u ≤ 108) ∨ (u = 78 ∧ v = 36)) → h2 u v = h u v
theorem mf_.rf {h : jm_H} : mf_ h h := fun _ _ _ => rfl
theorem mf_.tr {h h1 h2 : jm_H} (p : mf_ h h1) (q : mf_ h1 h2) : mf_ h h2 := fun a b z => (q a b z).trans (p a b z)
theorem mf_.sq {h h2 : jm_H} (p : mf_ h h2) : sq_ h h2 := fun a b z => p a b (fun w => z (by unfold sc_; omega))
def pm_o (h : jm_H) (r : Nat → Nat → Int) (o : Nat → Nat) (p : Nat) : Prop := (∀ q, q < p → h 105 q = (o q : Nat) ∧ h 106 q = oc_ r o p q) ∧ ∀ q, q ≤ p → h 108 q = oe_ r o q
section MB
variable {E : jm_Env} {n : Nat} {r : Nat → Nat → Int} {o : Nat → Nat} {p : Nat}
theorem rm_may38 {h : jm_H} {i k : Nat} {K : Int → jm_H → Prop} (hr : rw_M h n r) (ho : ∀ q, q < p → h 105 q = (o q : Nat)) (hp : p ≤ 12) (hi : i < n) (hk : k < i) (k1 : (∃ q, q < p ∧ o q = k) ∨ ¬ rw_cl r k i → jm_BI E jm_SH jm_m_Mod_mayStand 2 27 [some (jm_R 78), some (jm_I i), some (jm_I p), some (jm_I (jm_w32 ((k : Int) + 1))), none, none] [] h K) (k0 : ¬ (∃ q, q < p ∧ o q = k) → rw_cl r k i → K 0 h) : ∀ (m q : Nat) (x4 x5 : Int), m + q = p → x5 = q → (x4 = 0 ∧ (∀ q2, q2 < q → o q2 ≠ k)) ∨ (x4 = 1 ∧ ∃ q2, q2 < p ∧ o q2 = k) → jm_BI E jm_SH jm_m_Mod_mayStand 2 38 [some (jm_R 78), some (jm_I i), some (jm_I p), some (jm_I k), some (jm_I x4), some (jm_I x5)] [] h K
  | 0, q, x4, x5, hm, hx, hc => by
    subst hx
    have hq : q = p := by omega
    subst hq
    refine jb_Mod_mayStand_38 ⟨fun _ => ⟨fun z => ?_, fun z => ?_⟩, fun z => by omega⟩
    · rcases hc with ⟨a, -⟩ | ⟨-, a⟩
      · omega
      · exact k1 (Or.inl a)
    · rcases hc with ⟨-, a⟩ | ⟨a, -⟩
      · refine rm_lead hr (by omega) hi (fun c => ⟨fun y => by omega, fun _ => k0 (fun ⟨q2, b1, b2⟩ => a q2 b1 b2) c⟩) (fun c => ⟨fun _ => k1 (Or.inr c), fun y => absurd rfl y⟩)
      · omega
  | m + 1, q, x4, x5, hm, hx, hc => by
    subst hx
    refine jb_Mod_mayStand_38 ⟨fun z => by omega, fun _ => ⟨fun z => ?_, fun z => ⟨by omega, ?_⟩⟩⟩
    · rw [jm_w (by omega) (by omega)]
      refine rm_may38 hr ho hp hi hk k1 k0 m (q + 1) _ _ (by omega) (by omega) (Or.inr ⟨rfl, ?_⟩)
      rcases hc with ⟨a, -⟩ | ⟨-, a⟩
      · omega
      · exact a
    · rw [jm_tn, ho q (by omega), jm_w (by omega) (by omega)]
      refine ⟨fun y => ?_, fun y => ?_⟩
      · refine rm_may38 hr ho hp hi hk k1 k0 m (q + 1) _ _ (by omega) (by omega) (Or.inl ⟨rfl, fun q2 h2 => ?_⟩)
        by_cases e : q2 = q
        · subst e; omega
        · rcases hc with ⟨-, a⟩ | ⟨a, -⟩
          · exact a q2 (by omega)
          · omega
      · exact rm_may38 hr ho hp hi hk k1 k0 m (q + 1) _ _ (by omega) (by omega) (Or.inr ⟨rfl, q, by omega, by omega⟩)
theorem rm_may27 {h : jm_H} {i : Nat} {K : Int → jm_H → Prop} (hr : rw_M h n r) (ho : ∀ q, q < p → h 105 q = (o q : Nat)) (hp : p ≤ 12) (hi : i < n) (hf : ∀ q, q < p → o q ≠ i) (k1 : ms_ r o p i → K 1 h) (k0 : ¬ ms_ r o p i → K 0 h) : ∀ (m k : Nat) (x3 : Int), m + k = i → x3 = k → (∀ j, j < k → rw_cl r j i → ∃ q, q < p ∧ o q = j) → jm_BI E jm_SH jm_m_Mod_mayStand 2 27 [some (jm_R 78), some (jm_I i), some (jm_I p), some (jm_I x3), none, none] [] h K
  | 0, k, x3, hm, hx, hd => by
    subst hx
    exact jb_Mod_mayStand_27 ⟨fun _ => k1 ⟨hf, fun j hj => hd j (by omega)⟩, fun z => by omega⟩
  | m + 1, k, x3, hm, hx, hd => by
    subst hx
    have hn := hr.2.1
    refine jb_Mod_mayStand_27 ⟨fun z => by omega, fun _ => ?_⟩
    refine rm_may38 hr ho hp hi (by omega) (fun c => ?_) (fun c1 c2 => k0 (fun z => c1 (z.2 k (by omega) c2))) p 0 _ _ (by omega) rfl (Or.inl ⟨rfl, fun q2 h2 => by omega⟩)
    rw [jm_w (by omega) (by omega)]
    refine rm_may27 hr ho hp hi hf k1 k0 m (k + 1) _ (by omega) (by omega) (fun j hj hc => ?_)
    by_cases e : j = k
    · subst e
      rcases c with c | c
      · exact c
      · exact absurd hc c
    · exact hd j (by omega) hc
theorem rm_may2 {h : jm_H} {i : Nat} {K : Int → jm_H → Prop} (hr : rw_M h n r) (ho : ∀ q, q < p → h 105 q = (o q : Nat)) (hp : p ≤ 12) (hi : i < n) (k1 : ms_ r o p i → K 1 h) (k0 : ¬ ms_ r o p i → K 0 h) : ∀ (m q : Nat) (x3 : Int), m + q = p → x3 = q → (∀ q2, q2 < q → o q2 ≠ i) → jm_BI E jm_SH jm_m_Mod_mayStand 2 2 [some (jm_R 78), some (jm_I i), some (jm_I p), some (jm_I x3), none, none] [] h K
  | 0, q, x3, hm, hx, hd => by
    subst hx
    have hq : q = p := by omega
    subst hq
    exact jb_Mod_mayStand_2 ⟨fun _ => rm_may27 hr ho hp hi hd k1 k0 i 0 _ (by omega) rfl (fun j hj => by omega), fun z => by omega⟩
  | m + 1, q, x3, hm, hx, hd => by
    subst hx
    refine jb_Mod_mayStand_2 ⟨fun z => by omega, fun _ => ⟨by omega, ?_⟩⟩
    rw [jm_tn, ho q (by omega), jm_w (by omega) (by omega)]
    refine ⟨fun z => rm_may2 hr ho hp hi k1 k0 m (q + 1) _ (by omega) (by omega) (fun q2 h2 => ?_), fun z => k0 (fun y => y.1 q (by omega) (by omega))⟩
    by_cases e : q2 = q
    · subst e; omega
    · exact hd q2 (by omega)
theorem rm_may {h : jm_H} {i : Nat} {K : Int → jm_H → Prop} (hr : rw_M h n r) (ho : ∀ q, q < p → h 105 q = (o q : Nat)) (hp : p ≤ 12) (hi : i < n) (k1 : ms_ r o p i → K 1 h) (k0 : ¬ ms_ r o p i → K 0 h) : jm_CI E jm_SH jm_m_Mod_mayStand 2 [jm_R 78, jm_I i, jm_I p] h K :=
  jb_Mod_mayStand (rm_may2 hr ho hp hi k1 k0 p 0 _ (by omega) rfl (fun q2 h2 => by omega))
/-- the end so far x2, and those that are left counted so far: with wait above w, or w and below i -/
def le_i (r : Nat → Nat → Int) (n : Nat) (o : Nat → Nat) (p : Nat) (x2 x3 : Int) (w : Int) (i : Nat) : Prop := (0 ≤ x2 ∧ x2 ≤ 1000) ∧ (∀ o2, cA_ r n o p o2 → x2 ≤ oe_ r o2 n) ∧ (p = n → x2 = oe_ r o n) ∧ ∃ L : List Nat, L.Nodup ∧ x3 = rw_nx (oc_ r o p) p - 1 + L.length ∧ ∀ x ∈ L, x < n ∧ (∀ q, q < p → o q ≠ x) ∧ (w < r 4 x ∨ (r 4 x = w ∧ x < i))
theorem le_step {x2 x3 w : Int} {i : Nat} (ho : rw_ok n r) (hn : n ≤ 12) (hv : vo_ r n o p) (hi : i < n) (h : le_i r n o p x2 x3 w i) (hw : r 4 i = w) (hf : ∀ q, q < p → o q ≠ i) : le_i r n o p (max x2 (x3 + 1 + w)) (x3 + 1) w (i + 1) ∧ (-1 ≤ x3 ∧ x3 ≤ 200) := by
  obtain ⟨b1, b2, b3, L, l1, l2, l3⟩ := h
  have hpn := vo_pn hv
  have hnx : 0 ≤ rw_nx (oc_ r o p) p ∧ rw_nx (oc_ r o p) p ≤ 100 := by
    cases p with
    | zero => simp [rw_nx]
    | succ p =>
      have := oc_b ho (p + 1) (fun q hq => (hv q hq).1) p (by omega)
      show 0 ≤ oc_ r o (p + 1) p + 1 ∧ oc_ r o (p + 1) p + 1 ≤ 100
      omega
  have hll : L.length ≤ n := im_len (fun q => q) n L l1 (fun x hx => ⟨x, (l3 x hx).1, rfl⟩)
  have hwb := (ho i hi).2.2.2.2.1
  have hnew : i ∉ L := fun hm => by
    have := (l3 i hm).2.2
    omega
  refine ⟨⟨by omega, fun o2 h2 => ?_, fun hp => ?_, i :: L, List.nodup_cons.mpr ⟨hnew, l1⟩, by rw [l2]; simp; omega, fun x hx => ?_⟩, by omega⟩
  · have hA := b2 o2 h2
    have hnx2 : rw_nx (oc_ r o2 n) p = rw_nx (oc_ r o p) p := rw_nx_congr fun q hq => by
      rw [oc_step hq hpn]
      exact oc_congr p h2.2 q hq
    have hB := vo_left (r := r) (n := n) (o := o2) (p := p) (v := w) (L := i :: L) hpn (List.nodup_cons.mpr ⟨hnew, l1⟩) (by simp) (fun x hx => by
      have hx2 : x < n ∧ (∀ q, q < p → o q ≠ x) ∧ w ≤ r 4 x := by
        rcases List.mem_cons.mp hx with rfl | hx
        · exact ⟨hi, hf, by omega⟩
        · obtain ⟨a1, a2, a3⟩ := l3 x hx
          exact ⟨a1, a2, by omega⟩
      obtain ⟨a1, a2, a3⟩ := hx2
      obtain ⟨q, y1, y2⟩ := h2.1.surj a1
      have h5 := rw_end_ge (c := oc_ r o2 n) (w := fun q => r 4 (o2 q)) n q y1
      have h6 : oc_ r o2 n q + r 4 (o2 q) ≤ oe_ r o2 n := h5
      rw [y2] at h6
      refine ⟨q, ?_, y1, y2, by omega⟩
      rcases Nat.lt_or_ge q p with z | z
      · exact absurd (by rw [← h2.2 q z]; exact y2) (a2 q z)
      · exact z) (fun j hj => (oc_b ho n (fun q hq => (h2.1 q hq).1) j hj).1)
    rw [hnx2] at hB
    simp only [List.length_cons] at hB
    omega
  · subst hp
    obtain ⟨q, y1, y2⟩ := hv.surj hi
    exact absurd y2 (hf q y1)
  · rcases List.mem_cons.mp hx with rfl | hx
    · exact ⟨hi, hf, Or.inr ⟨hw, by omega⟩⟩
    · obtain ⟨a1, a2, a3⟩ := l3 x hx
      exact ⟨a1, a2, by omega⟩
theorem le_i.mono {x2 x3 w w2 : Int} {i j : Nat} (h : le_i r n o p x2 x3 w i) (hh : ∀ x, (w < r 4 x ∨ (r 4 x = w ∧ x < i)) → x < n → (w2 < r 4 x ∨ (r 4 x = w2 ∧ x < j))) : le_i r n o p x2 x3 w2 j := by
  obtain ⟨b1, b2, b3, L, l1, l2, l3⟩ := h
  exact ⟨b1, b2, b3, L, l1, l2, fun x hx => ⟨(l3 x hx).1, (l3 x hx).2.1, hh x (l3 x hx).2.2 (l3 x hx).1⟩⟩
theorem rm_le50 {h : jm_H} {K : Int → jm_H → Prop} {x2 x3 : Int} {w i : Nat} (ho : rw_ok n r) (hr : rw_M h n r) (hod : ∀ q, q < p → h 105 q = (o q : Nat)) (hv : vo_ r n o p) (hp : p ≤ 12) (hw : w ≤ 5) (hi : i < n) (hle : le_i r n o p x2 x3 w i) (hk : ∀ y2 y3 : Int, le_i r n o p y2 y3 w (i + 1) → jm_BI E jm_SH jm_m_Mod_leastEnd 0 35 [some (jm_R 78), some (jm_I p), some (jm_I y2), some (jm_I y3), some (jm_I w), some (jm_I (jm_w32 ((i : Int) + 1))), none, none] [] h K) : ∀ (m q : Nat) (x6 x7 : Int), m + q = p → x7 = q → (x6 = 0 ∧ (∀ q2, q2 < q → o q2 ≠ i)) ∨ (x6 = 1 ∧ ∃ q2, q2 < p ∧ o q2 = i) → jm_BI E jm_SH jm_m_Mod_leastEnd 0 50 [some (jm_R 78), some (jm_I p), some (jm_I x2), some (jm_I x3), some (jm_I w), some (jm_I i), some (jm_I x6), some (jm_I x7)] [] h K
  | 0, q, x6, x7, hm, hx, hc => by
    subst hx
    have hq : q = p := by omega
    subst hq
    have hn := hr.2.1
    refine jb_Mod_leastEnd_50 ⟨fun _ => ⟨fun z => hk x2 x3 (hle.mono fun x hx _ => by omega), fun z => ⟨by omega, ?_⟩⟩, fun z => by omega⟩
    rw [jm_tn, (hr.2.2 i hi).2.2.2.2.1]
    have hf : ∀ q2, q2 < q → o q2 ≠ i := by
      rcases hc with ⟨-, a⟩ | ⟨a, -⟩
      · exact a
      · omega
    refine ⟨fun y => hk x2 x3 (hle.mono fun x hx _ => ?_), fun y => ?_⟩
    · rcases hx with hx | ⟨e1, e2⟩
      · exact Or.inl hx
      · exact Or.inr ⟨e1, by omega⟩
    · obtain ⟨s1, s2⟩ := le_step ho hn hv hi hle y hf
      rw [jm_w (x := x3 + 1) (by omega) (by omega), jm_w (x := x3 + 1 + (w : Int)) (by omega) (by omega)]
      refine ⟨fun u => hk _ _ ?_, fun u => hk _ _ ?_⟩
      · rw [Int.max_eq_left u] at s1
        exact s1
      · rw [Int.max_eq_right (by omega)] at s1
        exact s1
  | m + 1, q, x6, x7, hm, hx, hc => by
    subst hx
    refine jb_Mod_leastEnd_50 ⟨fun z => by omega, fun _ => ⟨fun z => ?_, fun z => ⟨by omega, ?_⟩⟩⟩
    · rw [jm_w (by omega) (by omega)]
      refine rm_le50 ho hr hod hv hp hw hi hle hk m (q + 1) _ _ (by omega) (by omega) (Or.inr ⟨rfl, ?_⟩)
      rcases hc with ⟨a, -⟩ | ⟨-, a⟩
      · omega
      · exact a
    · rw [jm_tn, hod q (by omega), jm_w (by omega) (by omega)]
      refine ⟨fun y => ?_, fun y => ?_⟩
      · refine rm_le50 ho hr hod hv hp hw hi hle hk m (q + 1) _ _ (by omega) (by omega) (Or.inl ⟨rfl, fun q2 h2 => ?_⟩)
        by_cases e : q2 = q
        · subst e; omega
        · rcases hc with ⟨-, a⟩ | ⟨a, -⟩
          · exact a q2 (by omega)
          · omega
      · exact rm_le50 ho hr hod hv hp hw hi hle hk m (q + 1) _ _ (by omega) (by omega) (Or.inr ⟨rfl, q, by omega, by omega⟩)
theorem rm_le35 {h : jm_H} {K : Int → jm_H → Prop} {w : Nat} (ho : rw_ok n r) (hr : rw_M h n r) (hod : ∀ q, q < p → h 105 q = (o q : Nat)) (hv : vo_ r n o p) (hp : p ≤ 12) (hw : w ≤ 5) (hk : ∀ y2 y3 : Int, le_i r n o p y2 y3 w n → jm_BI E jm_SH jm_m_Mod_leastEnd 0 27 [some (jm_R 78), some (jm_I p), some (jm_I y2), some (jm_I y3), some (jm_I (jm_w32 ((w : Int) + (-1)))), none, none, none] [] h K) : ∀ (m i : Nat) (x2 x3 x5 : Int), m + i = n → x5 = i → le_i r n o p x2 x3 w i → jm_BI E jm_SH jm_m_Mod_leastEnd 0 35 [some (jm_R 78), some (jm_I p), some (jm_I x2), some (jm_I x3), some (jm_I w), some (jm_I x5), none, none] [] h K
  | 0, i, x2, x3, x5, hm, hx, hle => by
    subst hx
    have hin : i = n := by omega
    subst hin
    exact jb_Mod_leastEnd_35 ⟨fun _ => hk x2 x3 hle, fun z => by rw [hr.1] at z; omega⟩
  | m + 1, i, x2, x3, x5, hm, hx, hle => by
    subst hx
    have hn := hr.2.1
    refine jb_Mod_leastEnd_35 ⟨fun z => by rw [hr.1] at z; omega, fun _ => ?_⟩
    refine rm_le50 ho hr hod hv hp hw (by omega) hle (fun y2 y3 hy => ?_) p 0 _ _ (by omega) rfl (Or.inl ⟨rfl, fun q2 h2 => by omega⟩)
    rw [jm_w (by omega) (by omega)]
    exact rm_le35 ho hr hod hv hp hw hk m (i + 1) _ _ _ (by omega) (by omega) hy
theorem rm_le27 {h : jm_H} {K : Int → jm_H → Prop} (ho : rw_ok n r) (hr : rw_M h n r) (hod : ∀ q, q < p → h 105 q = (o q : Nat)) (hv : vo_ r n o p) (hp : p ≤ 12) (hk : ∀ v : Int, (0 ≤ v ∧ v ≤ 1000) → (∀ o2, cA_ r n o p o2 → v ≤ oe_ r o2 n) → (p = n → v = oe_ r o n) → K v h) : ∀ (w : Nat) (x2 x3 x4 : Int), w ≤ 5 → x4 = w → le_i r n o p x2 x3 w 0 → jm_BI E jm_SH jm_m_Mod_leastEnd 0 27 [some (jm_R 78), some (jm_I p), some (jm_I x2), some (jm_I x3), some (jm_I x4), none, none, none] [] h K
  | 0, x2, x3, x4, hw, hx, hle => by
    subst hx
    exact jb_Mod_leastEnd_27 ⟨fun _ => hk x2 hle.1 hle.2.1 hle.2.2.1, fun z => absurd (Int.le_refl _) z⟩
  | w + 1, x2, x3, x4, hw, hx, hle => by
    subst hx
    refine jb_Mod_leastEnd_27 ⟨fun z => by omega, fun _ => ?_⟩
    refine rm_le35 ho hr hod hv hp hw (fun y2 y3 hy => ?_) n 0 _ _ _ (by omega) rfl hle
    rw [jm_w (by omega) (by omega)]
    exact rm_le27 ho hr hod hv hp hk w _ _ _ (by omega) (by omega) (hy.mono fun x hx hxn => by omega)
theorem rm_least {h : jm_H} {K : Int → jm_H → Prop} (ho : rw_ok n r) (hr : rw_M h n r) (hm : pm_o h r o p) (hv : vo_ r n o p) (hp : p ≤ 12) (hk : ∀ v : Int, (0 ≤ v ∧ v ≤ 1000) → (∀ o2, cA_ r n o p o2 → v ≤ oe_ r o2 n) → (p = n → v = oe_ r o n) → K v h) : jm_CI E jm_SH jm_m_Mod_leastEnd 0 [jm_R 78, jm_I p] h K := by
  have hpn := vo_pn hv
  have hb := oe_b ho (fun q hq => (hv q hq).1) hp
  have hod : ∀ q, q < p → h 105 q = (o q : Nat) := fun q hq => (hm.1 q hq).1
  have hw5 : ∀ x, x < n → ¬ (5 < r 4 x) := fun x hx => by have := (ho x hx).2.2.2.2.1; omega
  have hle : ∀ x3 : Int, x3 = rw_nx (oc_ r o p) p - 1 → le_i r n o p (oe_ r o p) x3 (5 : Nat) 0 := fun x3 hx => by
    refine ⟨by omega, fun o2 h2 => ?_, fun e => by rw [e], [], List.nodup_nil, by rw [hx]; simp, fun x hx => by simp at hx⟩
    rw [oe_congr (fun q hq => (h2.2 q hq).symm)]
    exact oe_mono n hpn
  refine jb_Mod_leastEnd ⟨by omega, ?_⟩
  rw [jm_tn, hm.2 p (Nat.le_refl _)]
  refine ⟨fun z => ?_, fun z => ?_⟩
  · rw [jm_w (by omega) (by omega), show (p : Int) - 1 = ((p - 1 : Nat) : Int) by omega, jm_tn, (hm.1 (p - 1) (by omega)).2]
    refine ⟨by omega, rm_le27 ho hr hod hv hp hk 5 _ _ _ (by omega) rfl (hle _ ?_)⟩
    obtain ⟨p', rfl⟩ : ∃ p', p = p' + 1 := ⟨p - 1, by omega⟩
    show _ = oc_ r o (p' + 1) p' + 1 - 1
    rw [show p' + 1 - 1 = p' by omega]
    omega
  · refine rm_le27 ho hr hod hv hp hk 5 _ _ _ (by omega) rfl (hle _ ?_)
    have : p = 0 := by omega
    subst this
    rfl
end MB
