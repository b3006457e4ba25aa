/-! THE BEST ORDER: what the class prepares -/
def tv_i (r : Nat → Nat → Int) (n : Nat) (t : Nat → Int) (i : Nat) : Prop := (0 ≤ t i ∧ t i ≤ 10 * ((n : Int) - i)) ∧ ∀ z : Int, r 4 i ≤ z → (∀ k, i < k → k < n → rw_cl r i k → t k + (if rw_s1 r k = i ∨ rw_s2 r k = i then r 4 i else 1) ≤ z) → t i ≤ z
def pr_k (h : jm_H) (n : Nat) (r : Nat → Nat → Int) (k : Nat) : Prop := h 49 k = rw_s1 r k ∧ h 50 k = rw_s2 r k ∧ (∃ N : Nat, h 48 k = N ∧ N < 4096 ∧ ∀ j, N.testBit j = true ↔ j < k ∧ rw_cl r j k) ∧ tv_i r n (h 51) k
def pf_ (i : Nat) (h h2 : jm_H) : Prop := ∀ u v, ¬ ((48 ≤ u ∧ u ≤ 51) ∧ v = i) → h2 u v = h u v
theorem pf_.tr {i : Nat} {h h1 h2 : jm_H} (p : pf_ i h h1) (q : pf_ i h1 h2) : pf_ i h h2 := fun a b z => (q a b z).trans (p a b z)
theorem pr_k.fr {h h2 : jm_H} {n : Nat} {r : Nat → Nat → Int} {i k : Nat} (hp : pr_k h n r k) (hi : i < k) (e : pf_ i h h2) : pr_k h2 n r k := by
  obtain ⟨a1, a2, a3, a4, a5⟩ := hp
  refine ⟨by rw [e _ _ (by omega)]; exact a1, by rw [e _ _ (by omega)]; exact a2, by rw [e _ _ (by omega)]; exact a3, by rw [e _ _ (by omega)]; exact a4, fun z z1 z2 => ?_⟩
  rw [e _ _ (by omega)]
  refine a5 z z1 (fun k2 y1 y2 y3 => ?_)
  have := z2 k2 y1 y2 y3
  rw [e _ _ (by omega)] at this
  exact this
section PR
variable {E : jm_Env} {h : jm_H} {n i : Nat} {r : Nat → Nat → Int}
theorem rc_prep99 {K : jm_H → Prop} (hn : n ≤ 10) (ho : rw_ok n r) (hin : i < n) (hk : ∀ h2 : jm_H, pf_ i h h2 → pr_k h2 n r i → K h2) : ∀ (m k : Nat) (x3 : Int) (h1 : jm_H), m + k = n → i < k → x3 = k → h1 47 10 = n → pf_ i h h1 → (∀ k2, i < k2 → k2 < n → pr_k h1 n r k2) → h1 49 i = rw_s1 r i → h1 50 i = rw_s2 r i → (∃ N : Nat, h1 48 i = N ∧ N < 4096 ∧ ∀ j, N.testBit j = true ↔ j < i ∧ rw_cl r j i) → (0 ≤ h1 51 i ∧ h1 51 i ≤ 10 * ((n : Int) - i)) → (∀ z : Int, r 4 i ≤ z → (∀ k2, i < k2 → k2 < k → rw_cl r i k2 → h1 51 k2 + (if rw_s1 r k2 = i ∨ rw_s2 r k2 = i then r 4 i else 1) ≤ z) → h1 51 i ≤ z) → jm_BV E jm_SH jm_m_Order_prepare 3 99 [some (jm_R 47), some (jm_I i), some (jm_I (r 4 i)), some (jm_I x3), none] [] h1 K
  | 0, k, x3, h1, hm, hik, h3, hc, hf, hp, e49, e50, e48, hb, hz => by
    subst h3
    refine jb_Order_prepare_99 ⟨fun _ => hk h1 hf ⟨e49, e50, e48, hb, fun z z1 z2 => hz z z1 (fun k2 y1 y2 y3 => z2 k2 y1 (by omega) y3)⟩, fun q => by rw [hc] at q; omega⟩
  | m + 1, k, x3, h1, hm, hik, h3, hc, hf, hp, e49, e50, e48, hb, hz => by
    subst h3
    obtain ⟨p1, p2, ⟨N, p3, p4, p5⟩, p6, p7⟩ := hp k hik (by omega)
    have hw := (ho i hin).2.2.2.2.1
    have hbit := bt_b p4 (show i < 32 by omega)
    have step : ∀ x : Int, (rw_cl r i k) → x = h1 51 k + (if rw_s1 r k = i ∨ rw_s2 r k = i then r 4 i else 1) → jm_BV E jm_SH jm_m_Order_prepare 3 99 [some (jm_R 47), some (jm_I i), some (jm_I (r 4 i)), some (jm_I ((k : Int) + 1)), none] [] (jm_up h1 51 i (max (h1 51 i) x)) K := fun x hcl hx => by
      have f1 : pf_ i h1 (jm_up h1 51 i (max (h1 51 i) x)) := fun u v z => up_o (by omega)
      have hx5 : x ≤ h1 51 k + 5 ∧ h1 51 k ≤ x := by
        rw [hx]
        split <;> omega
      refine rc_prep99 hn ho hin hk m (k + 1) _ _ (by omega) (by omega) (by omega) (by rw [f1 _ _ (by omega)]; exact hc) (hf.tr f1) (fun k2 y1 y2 => (hp k2 y1 y2).fr y1 f1) (by rw [up_o (by omega)]; exact e49) (by rw [up_o (by omega)]; exact e50) (by rw [up_o (by omega)]; exact e48) (by rw [up_s]; omega) (fun z z1 z2 => ?_)
      rw [up_s]
      have t1 := hz z z1 (fun k2 y1 y2 y3 => by
        have := z2 k2 y1 (by omega) y3
        rw [up_o (by omega)] at this
        exact this)
      have t2 := z2 k hik (by omega) hcl
      rw [up_o (by omega), ← hx] at t2
      omega
    refine jb_Order_prepare_99 ⟨fun q => by rw [hc] at q; omega, fun _ => ⟨by omega, ?_⟩⟩
    rw [jm_tn, p3, jm_tn, p1, p2, jm_w (x := (k : Int) + 1) (by omega) (by omega)]
    refine ⟨fun q => ?_, fun q => ?_⟩
    · have hncl : ¬ rw_cl r i k := fun w => by
        have := (p5 i).mpr ⟨hik, w⟩
        rw [hbit.mp q] at this
        cases this
      refine rc_prep99 hn ho hin hk m (k + 1) _ h1 (by omega) (by omega) (by omega) hc hf hp e49 e50 e48 hb (fun z z1 z2 => hz z z1 (fun k2 y1 y2 y3 => z2 k2 y1 (by omega) y3))
    · have hcl : rw_cl r i k := by
        have : N.testBit i = true := by
          cases w : N.testBit i
          · exact absurd (hbit.mpr w) q
          · rfl
        exact ((p5 i).mp this).2
      have go140 : (rw_s1 r k = i ∨ rw_s2 r k = i) → jm_BV E jm_SH jm_m_Order_prepare 3 140 [some (jm_R 47), some (jm_I i), some (jm_I (r 4 i)), some (jm_I k), none] [] h1 K := fun w => by
        refine jb_Order_prepare_140 ⟨by omega, by omega, by omega, ?_⟩
        rw [jm_tn, jm_tn, jm_w (x := (k : Int) + 1) (by omega) (by omega), jm_w (by omega) (by omega)]
        exact step _ hcl (by rw [if_pos w])
      refine ⟨by omega, fun w => go140 (Or.inl w), fun w => ⟨by omega, fun w2 => ⟨by omega, by omega, by omega, ?_⟩, fun w2 => go140 (Or.inr w2)⟩⟩
      rw [jm_w (by omega) (by omega)]
      exact step _ hcl (by rw [if_neg (fun y => y.elim w w2)])
theorem rc_prep37 {K : jm_H → Prop} (hn : n ≤ 10) (ho : rw_ok n r) (hin : i < n) (hk : ∀ h2 : jm_H, pf_ i h h2 → pr_k h2 n r i → K h2) : ∀ (m k N : Nat) (x2 : Int) (h1 : jm_H), m + k = i → x2 = k → h1 47 10 = n → rw_C h1 n r → pf_ i h h1 → (∀ k2, i < k2 → k2 < n → pr_k h1 n r k2) → h1 49 i = rw_s1 r i → h1 50 i = rw_s2 r i → h1 48 i = N → N < 2 ^ k → (∀ j, N.testBit j = true ↔ j < k ∧ rw_cl r j i) → jm_BV E jm_SH jm_m_Order_prepare 3 37 [some (jm_R 47), some (jm_I i), some (jm_I x2), none, none] [] h1 K
  | 0, k, N, x2, h1, hm, h2, hc, hr, hf, hp, e49, e50, e48, hN, hbits => by
    subst h2
    have hki : k = i := by omega
    subst hki
    have hw := (ho k hin).2.2.2.2.1
    have h12 : (2 : Nat) ^ k ≤ 2 ^ 12 := Nat.pow_le_pow_right (by omega) (by omega)
    refine jb_Order_prepare_37 ⟨fun _ => ⟨by omega, by omega, ?_⟩, fun q => by omega⟩
    rw [jm_tn, (hr.2.2 k hin).2.2.2.2.1, jm_w (by omega) (by omega)]
    have f1 : pf_ k h1 (jm_up h1 51 k (r 4 k)) := fun u v z => up_o (by omega)
    refine rc_prep99 hn ho hin hk (n - (k + 1)) (k + 1) _ _ (by omega) (by omega) (by omega) (by rw [f1 _ _ (by omega)]; exact hc) (hf.tr f1) (fun k2 y1 y2 => (hp k2 y1 y2).fr y1 f1) (by rw [up_o (by omega)]; exact e49) (by rw [up_o (by omega)]; exact e50) ⟨N, by rw [up_o (by omega)]; exact e48, by omega, hbits⟩ (by rw [up_s]; omega) (fun z z1 _ => by rw [up_s]; exact z1)
  | m + 1, k, N, x2, h1, hm, h2, hc, hr, hf, hp, e49, e50, e48, hN, hbits => by
    subst h2
    have h12 : (2 : Nat) ^ (k + 1) ≤ 2 ^ 12 := Nat.pow_le_pow_right (by omega) (by omega)
    have hps : (2 : Nat) ^ (k + 1) = 2 * 2 ^ k := by rw [Nat.pow_succ]; omega
    have hor : N ||| 2 ^ k < 2 ^ (k + 1) := Nat.or_lt_two_pow (by omega) (Nat.pow_lt_pow_right (by omega) (by omega))
    refine jb_Order_prepare_37 ⟨fun q => by omega, fun _ => ⟨by omega, ?_⟩⟩
    have f1 : ∀ x : Int, pf_ i h1 (jm_up h1 48 i x) := fun x u v z => up_o (by omega)
    have hrx : ∀ x : Int, rw_C (jm_up h1 48 i x) n r := fun x => hr.off fun a b z => up_o (by omega)
    refine rc_clash hr (by omega) hin (fun cl => ⟨fun z => by omega, fun _ => ⟨by omega, ?_⟩⟩) (fun cl => ⟨fun _ => ⟨by omega, ?_⟩, fun z => absurd rfl z⟩)
    · rw [jm_tn, e48, jv_shl_1 k (by omega), jv_or_nat (by omega), jm_w (by omega) (by omega)]
      refine rc_prep37 hn ho hin hk m (k + 1) (N ||| 2 ^ k) _ _ (by omega) (by omega) (by rw [f1 _ _ _ (by omega)]; exact hc) (hrx _) (hf.tr (f1 _)) (fun k2 y1 y2 => (hp k2 y1 y2).fr y1 (f1 _)) (by rw [up_o (by omega)]; exact e49) (by rw [up_o (by omega)]; exact e50) up_s hor (fun j => ?_)
      rw [Nat.testBit_or, bt_two, Bool.or_eq_true, decide_eq_true_eq, hbits j]
      constructor
      · rintro (⟨a, b⟩ | rfl)
        · exact ⟨by omega, b⟩
        · exact ⟨by omega, cl⟩
      · rintro ⟨a, b⟩
        by_cases e : k = j
        · exact Or.inr e
        · exact Or.inl ⟨by omega, b⟩
    · rw [jm_tn, e48, show (0 : Int) = ((0 : Nat) : Int) from rfl, jv_or_nat (by rw [Nat.or_zero]; omega), Nat.or_zero, jm_w (by omega) (by omega)]
      refine rc_prep37 hn ho hin hk m (k + 1) N _ _ (by omega) (by omega) (by rw [f1 _ _ _ (by omega)]; exact hc) (hrx _) (hf.tr (f1 _)) (fun k2 y1 y2 => (hp k2 y1 y2).fr y1 (f1 _)) (by rw [up_o (by omega)]; exact e49) (by rw [up_o (by omega)]; exact e50) up_s (by omega) (fun j => ?_)
      rw [hbits j]
      refine ⟨fun a => ⟨by omega, a.2⟩, fun a => ⟨?_, a.2⟩⟩
      by_cases e : j = k
      · subst e
        exact absurd a.2 cl
      · omega
theorem rc_prepare {K : jm_H → Prop} (hn : n ≤ 10) (ho : rw_ok n r) (hin : i < n) (hc : h 47 10 = n) (hr : rw_C h n r) (hp : ∀ k2, i < k2 → k2 < n → pr_k h n r k2) (hk : ∀ h2 : jm_H, pf_ i h h2 → pr_k h2 n r i → K h2) : jm_CV E jm_SH jm_m_Order_prepare 3 [jm_R 47, jm_I i] h K := by
  refine jb_Order_prepare (rc_first hr hin ⟨by omega, ?_⟩)
  rw [jm_tn]
  have f1 : pf_ i h (jm_up h 49 i (rw_s1 r i)) := fun u v z => up_o (by omega)
  have hr1 : rw_C (jm_up h 49 i (rw_s1 r i)) n r := hr.off fun a b z => up_o (by omega)
  refine rc_second hr1 hin ⟨by omega, by omega, ?_⟩
  have f2 : pf_ i h (jm_up (jm_up (jm_up h 49 i (rw_s1 r i)) 50 i (rw_s2 r i)) 48 i 0) := fun u v z => by rw [up_o (by omega), up_o (by omega), up_o (by omega)]
  refine rc_prep37 hn ho hin hk i 0 0 _ _ (by omega) rfl (by rw [f2 _ _ (by omega)]; exact hc) (hr.off fun a b z => f2 a b (by omega)) f2 (fun k2 y1 y2 => (hp k2 y1 y2).fr y1 f2) ?_ ?_ up_s (by simp) (fun j => ?_)
  · rw [up_o (by omega), up_o (by omega), up_s]
  · rw [up_o (by omega), up_s]
  · simp
end PR
/-- the first i by tail -/
def rk_ (h : jm_H) (t : Nat → Int) (i : Nat) (b : Nat → Nat) : Prop := (∀ q, q < i → h 52 q = (b q : Nat) ∧ b q < i) ∧ (∀ a c, a < i → c < i → b a = b c → a = c) ∧ ∀ a c, a ≤ c → c < i → t (b c) ≤ t (b a)
section RK
variable {E : jm_Env} {h : jm_H} {i n : Nat} {t : Nat → Int} {b : Nat → Nat}
theorem rk_end {h1 : jm_H} {k : Nat} (hk : k ≤ i) (hr : rk_ h t i b) (h1k : ∀ q, q < k → h1 52 q = (b q : Nat)) (h2k : ∀ q, k < q → q ≤ i → h1 52 q = (b (q - 1) : Nat)) (ht : ∀ q, k ≤ q → q < i → t (b q) < t i) (hs : k = 0 ∨ t i ≤ t (b (k - 1))) : rk_ (jm_up h1 52 k (i : Nat)) t (i + 1) (fun q => if q < k then b q else if q = k then i else b (q - 1)) := by
  obtain ⟨a1, a2, a3⟩ := hr
  refine ⟨fun q hq => ?_, fun a c ha hc e => ?_, fun a c hac hc => ?_⟩
  · show _ = ((if q < k then b q else if q = k then i else b (q - 1) : Nat) : Int) ∧ (if q < k then b q else if q = k then i else b (q - 1)) < i + 1
    rcases Nat.lt_trichotomy q k with z | z | z
    · rw [up_o (by omega), if_pos z, h1k q z]
      have := (a1 q (by omega)).2
      exact ⟨rfl, by omega⟩
    · subst z
      rw [up_s, if_neg (by omega), if_pos rfl]
      exact ⟨rfl, by omega⟩
    · rw [up_o (by omega), if_neg (by omega), if_neg (by omega), h2k q z (by omega)]
      have := (a1 (q - 1) (by omega)).2
      exact ⟨rfl, by omega⟩
  · have bl : ∀ q, q < i → b q < i := fun q hq => (a1 q hq).2
    simp only at e
    rcases Nat.lt_trichotomy a k with z | z | z <;> rcases Nat.lt_trichotomy c k with y | y | y
    · rw [if_pos z, if_pos y] at e
      exact a2 a c (by omega) (by omega) e
    · rw [if_pos z, if_neg (by omega), if_pos y] at e
      have := bl a (by omega)
      omega
    · rw [if_pos z, if_neg (by omega), if_neg (by omega)] at e
      have := a2 a (c - 1) (by omega) (by omega) e
      omega
    · rw [if_neg (by omega), if_pos z, if_pos y] at e
      have := bl c (by omega)
      omega
    · omega
    · rw [if_neg (by omega), if_pos z, if_neg (by omega), if_neg (by omega)] at e
      have := bl (c - 1) (by omega)
      omega
    · rw [if_neg (by omega), if_neg (by omega), if_pos y] at e
      have := a2 (a - 1) c (by omega) (by omega) e
      omega
    · rw [if_neg (by omega), if_neg (by omega), if_neg (by omega), if_pos y] at e
      have := bl (a - 1) (by omega)
      omega
    · rw [if_neg (by omega), if_neg (by omega), if_neg (by omega), if_neg (by omega)] at e
      have := a2 (a - 1) (c - 1) (by omega) (by omega) e
      omega
  · simp only
    rcases Nat.lt_trichotomy a k with z | z | z <;> rcases Nat.lt_trichotomy c k with y | y | y
    · rw [if_pos z, if_pos y]
      exact a3 a c hac (by omega)
    · rw [if_pos z, if_neg (by omega), if_pos y]
      have h1 := a3 a (k - 1) (by omega) (by omega)
      have : t i ≤ t (b (k - 1)) := by
        rcases hs with w | w
        · omega
        · exact w
      omega
    · rw [if_pos z, if_neg (by omega), if_neg (by omega)]
      exact a3 a (c - 1) (by omega) (by omega)
    · omega
    · have : a = c := by omega
      subst this
      exact Int.le_refl _
    · rw [if_neg (by omega), if_pos z, if_neg (by omega), if_neg (by omega)]
      have := ht (c - 1) (by omega) (by omega)
      omega
    · omega
    · omega
    · rw [if_neg (by omega), if_neg (by omega), if_neg (by omega), if_neg (by omega)]
      exact a3 (a - 1) (c - 1) (by omega) (by omega)
theorem rc_rank4 {K : jm_H → Prop} (hn : n ≤ 10) (hi : i < n) (hr : rk_ h t i b) (h51 : ∀ k, k < n → h 51 k = t k) (hk : ∀ (h2 : jm_H) (b2 : Nat → Nat), rk_ h2 t (i + 1) b2 → (∀ u v, ¬ (u = 52) → h2 u v = h u v) → K h2) : ∀ (k : Nat) (x2 x3 : Int) (h1 : jm_H), k ≤ i → x2 = k → x3 = k → (∀ u v, ¬ (u = 52) → h1 u v = h u v) → (∀ q, q < k → h1 52 q = (b q : Nat)) → (∀ q, k < q → q ≤ i → h1 52 q = (b (q - 1) : Nat)) → (∀ q, k ≤ q → q < i → t (b q) < t i) → jm_BV E jm_SH jm_m_Order_rankByTail 0 4 [some (jm_R 47), some (jm_I i), some (jm_I x2), some (jm_I x3)] [] h1 K
  | 0, x2, x3, h1, hki, e2, e3, hf, h1k, h2k, ht => by
    subst e2
    subst e3
    refine jb_Order_rankByTail_4 ⟨fun _ => ⟨by omega, ?_⟩, fun q => by omega⟩
    rw [jm_tn]
    exact hk _ _ (rk_end hki hr h1k h2k ht (Or.inl rfl)) (fun u v z => by rw [up_o (by omega)]; exact hf u v z)
  | k + 1, x2, x3, h1, hki, e2, e3, hf, h1k, h2k, ht => by
    subst e2
    subst e3
    have hb := (hr.1 k (by omega)).2
    refine jb_Order_rankByTail_4 ⟨fun q => by omega, fun _ => ?_⟩
    rw [jm_w (x := ((k + 1 : Nat) : Int) - 1) (by omega) (by omega), jm_w (x := ((k + 1 : Nat) : Int) + (-1)) (by omega) (by omega), show ((k + 1 : Nat) : Int) - 1 = (k : Int) by omega, show ((k + 1 : Nat) : Int) + (-1) = (k : Int) by omega, jm_tn, h1k k (by omega), jm_tn, jm_tn, jm_tn, hf 51 i (by omega), hf 51 (b k) (by omega), h51 i hi, h51 (b k) (by omega)]
    refine ⟨by omega, by omega, by omega, fun q => ⟨by omega, ?_⟩, fun q => ⟨by omega, by omega, ?_⟩⟩
    · exact hk _ _ (rk_end hki hr h1k h2k ht (Or.inr q)) (fun u v z => by rw [up_o (by omega)]; exact hf u v z)
    · refine rc_rank4 hn hi hr h51 hk k _ _ _ (by omega) rfl rfl (fun u v z => by rw [up_o (by omega)]; exact hf u v z) (fun q hq => by rw [up_o (by omega)]; exact h1k q (by omega)) (fun q a c => ?_) (fun q a c => ?_)
      · by_cases e : q = k + 1
        · subst e
          rw [up_s]
          rfl
        · rw [up_o (by omega)]
          exact h2k q (by omega) c
      · by_cases e : q = k
        · subst e
          omega
        · exact ht q (by omega) c
theorem rc_rank {K : jm_H → Prop} (hn : n ≤ 10) (hi : i < n) (hr : rk_ h t i b) (h51 : ∀ k, k < n → h 51 k = t k) (hk : ∀ (h2 : jm_H) (b2 : Nat → Nat), rk_ h2 t (i + 1) b2 → (∀ u v, ¬ (u = 52) → h2 u v = h u v) → K h2) : jm_CV E jm_SH jm_m_Order_rankByTail 0 [jm_R 47, jm_I i] h K :=
  jb_Order_rankByTail (rc_rank4 hn hi hr h51 hk i _ _ h (Nat.le_refl _) rfl rfl (fun _ _ _ => rfl) (fun q hq => (hr.1 q hq).1) (fun q a c => by omega) (fun q a c => by omega))
end RK
