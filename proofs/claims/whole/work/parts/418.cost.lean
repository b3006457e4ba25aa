/-! COVER: what it says, and the class's plain costs -/
theorem te_C.fr {h h2 : jm_H} {n : Nat} {f : Nat → Int} (hc : te_C h n f) (e : ∀ u v, 4 ≤ u → u ≤ 8 → h2 u v = h u v) : te_C h2 n f :=
  ⟨by rw [e _ _ (by omega) (by omega)]; exact hc.1, hc.2.1, fun j hj => by rw [e _ _ (by omega) (by omega), e _ _ (by omega) (by omega), e _ _ (by omega) (by omega), e _ _ (by omega) (by omega)]; exact hc.2.2 j hj⟩
theorem te_M.fr {h h2 : jm_H} {n : Nat} {f : Nat → Int} (hc : te_M h n f) (e : ∀ u v, (u = 78 ∧ v = 4) ∨ u = 80 ∨ u = 81 → h2 u v = h u v) : te_M h2 n f :=
  ⟨by rw [e _ _ (by omega)]; exact hc.1, hc.2.1, fun j hj => by rw [e _ _ (by omega), e _ _ (by omega)]; exact hc.2.2 j hj⟩
theorem pa_C.fr {h h2 : jm_H} {m : Nat} {g : Nat → Nat → Int} {L : Nat → Nat} (hp : pa_C h m g L) (e : ∀ u v, 9 ≤ u → u ≤ 29 → h2 u v = h u v) : pa_C h2 m g L :=
  ⟨by rw [e _ _ (by omega) (by omega)]; exact hp.1, hp.2.1, fun p hpm => by
    have := hp.2.1
    obtain ⟨e0, e1, e2, e3⟩ := hp.2.2 p hpm
    refine ⟨by rw [e _ _ (by omega) (by omega), e0], by rw [e _ _ (by omega) (by omega), e1], by rw [e _ _ (by omega) (by omega), e2], fun i hi => by rw [e _ _ (by omega) (by omega), e3 i hi]⟩⟩
theorem pa_M.fr {h h2 : jm_H} {m : Nat} {g : Nat → Nat → Int} {L : Nat → Nat} (hp : pa_M h m g L) (e : ∀ u v, (u = 78 ∧ v = 14) ∨ (86 ≤ u ∧ u ≤ 89) → h2 u v = h u v) : pa_M h2 m g L :=
  ⟨by rw [e _ _ (by omega)]; exact hp.1, hp.2.1, fun p hpm => by
    obtain ⟨e0, e1, e2, e3⟩ := hp.2.2 p hpm
    refine ⟨by rw [e _ _ (by omega), e0], by rw [e _ _ (by omega), e1], by rw [e _ _ (by omega), e2], fun i hi => by rw [e _ _ (by omega), e3 i hi]⟩⟩
abbrev ft_ (c s : Int) : Prop := (c = 75 ∧ 48 ≤ s ∧ s ≤ 57) ∨ (c = 86 ∧ 97 ≤ s ∧ s ≤ 104) ∨ (¬ c = 75 ∧ ¬ c = 86 ∧ c = s)
abbrev ch_p (g : Nat → Nat → Int) (L : Nat → Nat) (p : Nat) : Prop := L p = 1 ∧ 0 ≤ hd_ (g p 2)
theorem hd_b (c : Int) : hd_ c = 0 ∨ hd_ c = 1 ∨ hd_ c = -1 := by
  unfold hd_
  split
  · omega
  · split <;> omega
theorem hd_pt {c : Int} (h : 0 ≤ hd_ c) : pt_ c = 0 := by
  unfold hd_ at h
  split at h
  · rename_i q
    subst q
    rfl
  · split at h
    · rename_i q
      subst q
      rfl
    · omega
theorem ft_pt {c s : Int} (h : ft_ c s) : pt_ c = pt_ s := by
  rcases h with ⟨q, w⟩ | ⟨q, w⟩ | ⟨-, -, q⟩
  · subst q
    unfold pt_
    rw [if_neg (by omega), if_neg (by omega), if_neg (by omega), if_neg (by omega)]
  · subst q
    unfold pt_
    rw [if_neg (by omega), if_neg (by omega), if_neg (by omega), if_neg (by omega)]
  · rw [q]
/-- what pattern t costs from node a on; C: what each node costs to each head -/
def cw_ (f : Nat → Int) (S : Nat → Nat) (C : Nat → Nat → Int) (t : Nat → Int) : Nat → Nat → Nat → Int → Int
  | 0, _, _, s => min s 1000000
  | d + 1, i, a, s => if 0 ≤ hd_ (t i) then cw_ f S C t d (i + 1) (a + S a) (s + C a (hd_ (t i)).toNat) else if ft_ (t i) (f a) then cw_ f S C t d (i + 1) (a + 1) s else 1000000
theorem cw_le {f : Nat → Int} {S : Nat → Nat} {C : Nat → Nat → Int} {t : Nat → Int} : ∀ (d i a : Nat) (s : Int), cw_ f S C t d i a s ≤ 1000000
  | 0, _, _, s => by show min s 1000000 ≤ 1000000; omega
  | d + 1, i, a, s => by
    unfold cw_
    split
    · exact cw_le d _ _ _
    · split
      · exact cw_le d _ _ _
      · omega
theorem cw_congr {f : Nat → Int} {S : Nat → Nat} {C C2 : Nat → Nat → Int} {t : Nat → Int} : ∀ (d i a : Nat) (s : Int), (∀ x y, a ≤ x → C x y = C2 x y) → cw_ f S C t d i a s = cw_ f S C2 t d i a s
  | 0, _, _, s, _ => rfl
  | d + 1, i, a, s, e => by
    unfold cw_
    rw [e a _ (Nat.le_refl _), cw_congr d (i + 1) (a + S a) _ (fun x y hx => e x y (by omega)), cw_congr d (i + 1) (a + 1) s (fun x y hx => e x y (by omega))]
/-- if the first sign is no head, only what stands behind the node counts -/
theorem cw_congr0 {f : Nat → Int} {S : Nat → Nat} {C C2 : Nat → Nat → Int} {t : Nat → Int} {d i a : Nat} {s : Int} (h0 : ¬ 0 ≤ hd_ (t i)) (e : ∀ x y, a < x → C x y = C2 x y) : cw_ f S C t d i a s = cw_ f S C2 t d i a s := by
  cases d with
  | zero => rfl
  | succ d =>
    unfold cw_
    rw [if_neg h0, if_neg h0, cw_congr d (i + 1) (a + 1) s (fun x y hx => e x y (by omega))]
/-- the best of the first patterns that are no chains -/
def pl_ (f : Nat → Int) (S : Nat → Nat) (g : Nat → Nat → Int) (L : Nat → Nat) (C : Nat → Nat → Int) (a b : Nat) : Nat → Int × Int
  | 0 => (1000000, -1)
  | q + 1 => if g q 0 = (b : Int) ∧ ¬ ch_p g L q ∧ cw_ f S C (fun i => g q (i + 2)) (L q) 0 a (g q 1) < (pl_ f S g L C a b q).1 then (cw_ f S C (fun i => g q (i + 2)) (L q) 0 a (g q 1), (q : Int)) else pl_ f S g L C a b q
theorem pl_b {f : Nat → Int} {S : Nat → Nat} {g : Nat → Nat → Int} {L : Nat → Nat} {C : Nat → Nat → Int} {a b : Nat} : ∀ q, (pl_ f S g L C a b q).1 ≤ 1000000 ∧ -1 ≤ (pl_ f S g L C a b q).2 ∧ (pl_ f S g L C a b q).2 < q ∧ ((pl_ f S g L C a b q).2 = -1 → (pl_ f S g L C a b q).1 = 1000000) ∧ (0 ≤ (pl_ f S g L C a b q).2 → (pl_ f S g L C a b q).1 < 1000000)
  | 0 => by
    unfold pl_
    exact ⟨by simp, by simp, by simp, fun _ => rfl, fun w => absurd w (by simp)⟩
  | q + 1 => by
    have ih := pl_b (f := f) (S := S) (g := g) (L := L) (C := C) (a := a) (b := b) q
    unfold pl_
    split
    · rename_i w
      refine ⟨?_, ?_, ?_, fun z => ?_, fun _ => ?_⟩
      · exact cw_le _ _ _ _
      · show (-1 : Int) ≤ (q : Int); omega
      · show (q : Int) < ((q + 1 : Nat) : Int); omega
      · have z2 : (q : Int) = -1 := z
        omega
      · have := w.2.2
        show cw_ _ _ _ _ _ _ _ _ < (1000000 : Int)
        omega
    · exact ⟨ih.1, ih.2.1, by omega, ih.2.2.2.1, ih.2.2.2.2⟩
section CW
variable {E : jm_Env} {h : jm_H} {n m : Nat} {f : Nat → Int} {g : Nat → Nat → Int} {L : Nat → Nat} {C : Nat → Nat → Int}
theorem cw_hd {S : Nat → Nat} {k l a : Nat} (ht : tr_ f n S) (hs : sp_ f k (l + 1) a) (ha : a + k ≤ n) : a < n ∧ S a ≤ k ∧ sp_ f (k - S a) l (a + S a) := by
  have hp := sp_pos hs
  have han : a < n := by omega
  rw [Nat.add_comm] at hs
  obtain ⟨m1, a1, a2, a3⟩ := sp_split hs
  have e := sp_one a2 (ht a han).1
  subst e
  exact ⟨han, a1, a3⟩
theorem rc_at {a b : Nat} {K : Int → jm_H → Prop} (ha : a < 30) (hb : b < 2) (hk : K ((2 * a + b : Nat) : Int) h) : jm_CI E jm_SH jm_m_Covering_at 0 [jm_I a, jm_I b] h K := by
  refine jb_Covering_at ?_
  rw [jm_w (x := 2 * (a : Int)) (by omega) (by omega), jm_w (by omega) (by omega), show 2 * (a : Int) + (b : Int) = ((2 * a + b : Nat) : Int) by omega]
  exact hk
theorem rc_fits {c s : Int} {K : Int → jm_H → Prop} (k1 : ft_ c s → K 1 h) (k0 : ¬ ft_ c s → K 0 h) : jm_CI E jm_SH jm_m_Patterns_fits 1 [jm_I c, jm_I s] h K := by
  refine jb_Patterns_fits ⟨fun q => rc_isNumber (fun w => ⟨Or.inr rfl, k1 (Or.inl ⟨q, w⟩)⟩) (fun w => ⟨Or.inl rfl, k0 (fun z => ?_)⟩), fun q => rc_isVariable (fun w => ⟨Or.inr rfl, k1 (Or.inr (Or.inl ⟨q, w⟩))⟩) (fun w => ⟨Or.inl rfl, k0 (fun z => ?_)⟩), fun q => ⟨fun w => k0 (fun z => ?_), fun w => k1 (Or.inr (Or.inr ⟨q.1, q.2, w⟩))⟩⟩
  · omega
  · omega
  · omega
theorem rc_chain {p : Nat} {K : Int → jm_H → Prop} (hp : pa_C h m g L) (hpm : p < m) (k1 : ch_p g L p → K (hd_ (g p 2)) h) (k0 : ¬ ch_p g L p → ∀ v : Int, v < 0 → K v h) : jm_CI E jm_SH jm_m_Patterns_chainFrom 1 [jm_R 9, jm_I p] h K := by
  have hm := hp.2.1
  obtain ⟨e0, e1, e2, e3⟩ := hp.2.2 p hpm
  refine jb_Patterns_chainFrom ⟨by omega, ?_⟩
  rw [jm_tn, e2]
  refine ⟨fun q => k0 (fun z => q (by rw [z.1]; rfl)) _ (by omega), fun q => ⟨by omega, ?_⟩⟩
  rw [e3 0 (by omega)]
  refine rc_hd ?_
  by_cases z : 0 ≤ hd_ (g p (0 + 2))
  · exact k1 ⟨by omega, z⟩
  · exact k0 (fun w => z w.2) _ (by omega)
/-- a pattern that is no chain begins with no head -/
theorem ch_0 {p : Nat} (ho : pa_ok m g L) (hpm : p < m) (hc : ¬ ch_p g L p) : ¬ 0 ≤ hd_ (g p 2) := by
  intro w
  have h1 := (ho p hpm).2.2.2
  have e : pt_ (g p 2) = 0 := hd_pt w
  have hp := sp_pos h1
  obtain ⟨k, hk⟩ : ∃ k, L p = k + 1 := ⟨L p - 1, by omega⟩
  rw [hk] at h1
  have h2 : sp_ (fun i => g p (i + 2)) k (0 + pt_ (g p 2)) 1 := h1
  rw [e] at h2
  cases k with
  | zero => exact hc ⟨hk, w⟩
  | succ k => exact h2.elim
theorem rc_cost16 {p nd : Nat} {K : Int → jm_H → Prop} (hc : te_C h n f) (hp : pa_C h m g L) (ho : pa_ok m g L) (hpm : p < m) (hch : ¬ ch_p g L p) (hC : ∀ a b, nd < a → a < n → b < 2 → h 33 (2 * a + b) = C a b ∧ 0 ≤ C a b ∧ C a b ≤ 1000000) :
    ∀ (d i a k l : Nat) (s x3 x4 x5 : Int), d + i = L p → x5 = i → x4 = a → x3 = min s 1000000 → 0 ≤ s → sp_ (fun i => g p (i + 2)) d l i → sp_ f k l a → a + k ≤ n → nd ≤ a → (a = nd → i = 0) → K (cw_ f (te_S f n) C (fun i => g p (i + 2)) d i a s) h → jm_BI E jm_SH jm_m_Covering_costOf 2 16 [some (jm_R 30), some (jm_I p), none, some (jm_I x3), some (jm_I x4), some (jm_I x5), none, none] [] h K
  | 0, i, a, k, l, s, x3, x4, x5, hd, h5, h4, h3, hs, hsp, hsf, hak, hna, hni, hk => by
    have hm := hp.2.1
    obtain ⟨e0, e1, e2, e3⟩ := hp.2.2 p hpm
    refine jb_Covering_costOf_16 ⟨by omega, ?_⟩
    rw [jm_tn, e2]
    refine ⟨fun _ => ?_, fun q => by omega⟩
    rw [h3]
    exact hk
  | d + 1, i, a, k, l, s, x3, x4, x5, hd, h5, h4, h3, hs, hsp, hsf, hak, hna, hni, hk => by
    subst h5
    subst h4
    have hm := hp.2.1
    have hn := hc.2.1.1
    have ht := te_S_ok hc.2.1
    obtain ⟨e0, e1, e2, e3⟩ := hp.2.2 p hpm
    have hL := (ho p hpm).2.2.1
    cases l with
    | zero => exact hsp.elim
    | succ l =>
      obtain ⟨han, hSk, hst⟩ := cw_hd ht hsf hak
      have hsp2 : sp_ (fun i => g p (i + 2)) d (l + pt_ (g p (i + 2))) (i + 1) := hsp
      refine jb_Covering_costOf_16 ⟨by omega, ?_⟩
      rw [jm_tn, e2, hc.1, jm_tn, e3 i (by omega)]
      refine ⟨fun q => by omega, fun _ => ⟨fun _ => ⟨by omega, by omega, rc_hd ?_⟩, fun q => by omega⟩⟩
      have hk2 : K (if 0 ≤ hd_ (g p (i + 2)) then cw_ f (te_S f n) C (fun i => g p (i + 2)) d (i + 1) (a + te_S f n a) (s + C a (hd_ (g p (i + 2))).toNat) else if ft_ (g p (i + 2)) (f a) then cw_ f (te_S f n) C (fun i => g p (i + 2)) d (i + 1) (a + 1) s else 1000000) h := hk
      rw [jm_tn, (hc.2.2 a han).1]
      refine ⟨fun q => ⟨by omega, rc_fits (fun w => ⟨fun z => by omega, fun _ => ?_⟩) (fun w => ⟨fun _ => ?_, fun z => absurd rfl z⟩)⟩, fun q => ?_⟩
      · rw [if_neg (by omega), if_pos w] at hk2
        have hsf2 : sp_ f (k - 1) (l + pt_ (f a)) (a + 1) := by
          have : k - 1 + 1 = k := by have := sp_pos hsf; omega
          rw [← this] at hsf
          exact hsf
        rw [jm_w (by omega) (by omega), jm_w (by omega) (by omega)]
        rw [ft_pt w] at hsp2
        exact rc_cost16 hc hp ho hpm hch hC d (i + 1) (a + 1) (k - 1) _ s _ _ _ (by omega) (by omega) (by omega) h3 hs hsp2 hsf2 (by omega) (by omega) (by omega) hk2
      · rw [if_neg (by omega), if_neg w] at hk2
        exact hk2
      · have q2 : 0 ≤ hd_ (g p (i + 2)) := by omega
        have hb := hd_b (g p (i + 2))
        have hi0 : ¬ a = nd := fun w => by
          have := hni w
          subst this
          exact ch_0 ho hpm hch q2
        rw [if_pos q2] at hk2
        obtain ⟨b, hb2⟩ : ∃ b : Nat, hd_ (g p (i + 2)) = (b : Int) := ⟨(hd_ (g p (i + 2))).toNat, by omega⟩
        rw [hb2] at hk2 ⊢
        rw [jm_tn] at hk2
        have hbl : b < 2 := by omega
        obtain ⟨c1, c2, c3⟩ := hC a b (by omega) han hbl
        refine rc_at (by omega) hbl ⟨by omega, by omega, ?_⟩
        have hsb := (ht a han).2
        have hSp := sp_pos (ht a han).1
        rw [jm_tn, c1, (hc.2.2 a han).2.2.1, jm_w (x := x3 + C a b) (by omega) (by omega), jm_w (x := (a : Int) + (te_S f n a : Int)) (by omega) (by omega), jm_w (x := (i : Int) + 1) (by omega) (by omega)]
        rw [hd_pt q2] at hsp2
        exact rc_cost16 hc hp ho hpm hch hC d (i + 1) (a + te_S f n a) (k - te_S f n a) l _ _ _ _ (by omega) (by omega) (by omega) (by omega) (by omega) hsp2 hst (by omega) (by omega) (by omega) hk2
theorem rc_costOf {p nd : Nat} {K : Int → jm_H → Prop} (hc : te_C h n f) (hp : pa_C h m g L) (ho : pa_ok m g L) (hpm : p < m) (hch : ¬ ch_p g L p) (hnd : nd < n) (hC : ∀ a b, nd < a → a < n → b < 2 → h 33 (2 * a + b) = C a b ∧ 0 ≤ C a b ∧ C a b ≤ 1000000) (hk : K (cw_ f (te_S f n) C (fun i => g p (i + 2)) (L p) 0 nd (g p 1)) h) : jm_CI E jm_SH jm_m_Covering_costOf 2 [jm_R 30, jm_I p, jm_I nd] h K := by
  have hm := hp.2.1
  obtain ⟨e0, e1, e2, e3⟩ := hp.2.2 p hpm
  have ht := te_S_ok hc.2.1 nd hnd
  have hok := ho p hpm
  refine jb_Covering_costOf ⟨by omega, ?_⟩
  rw [jm_tn, e1]
  exact rc_cost16 hc hp ho hpm hch hC (L p) 0 nd _ 1 (g p 1) _ _ _ rfl rfl rfl (by omega) (by omega) hok.2.2.2 ht.1 ht.2 (by omega) (fun _ => rfl) hk
theorem rc_plain2 {nd : Nat} {K : jm_H → Prop} (hnd : nd < 30) (hk : ∀ h2 : jm_H, (∀ u v, ¬ ((u = 31 ∨ u = 32) ∧ (v = 2 * nd ∨ v = 2 * nd + 1)) → h2 u v = h u v) → (∀ b, b < 2 → h2 31 (2 * nd + b) = 1000000 ∧ h2 32 (2 * nd + b) = -1) → jm_BV E jm_SH jm_m_Covering_coverPlainly 3 38 [some (jm_R 30), some (jm_I nd), some (jm_I 0), none, none] [] h2 K) :
    jm_BV E jm_SH jm_m_Covering_coverPlainly 3 2 [some (jm_R 30), some (jm_I nd), some (jm_I 0), none, none] [] h K := by
  have one : ∀ (b : Nat) (x : Int) (h1 : jm_H), b < 2 → x = b → (jm_BV E jm_SH jm_m_Covering_coverPlainly 3 2 [some (jm_R 30), some (jm_I nd), some (jm_I ((b : Int) + 1)), none, none] [] (jm_up (jm_up h1 31 (2 * nd + b) 1000000) 32 (2 * nd + b) (-1)) K) → jm_BV E jm_SH jm_m_Covering_coverPlainly 3 2 [some (jm_R 30), some (jm_I nd), some (jm_I x), none, none] [] h1 K := fun b x h1 hb hx k => by
    subst hx
    refine jb_Covering_coverPlainly_2 ⟨fun q => by omega, fun _ => rc_at hnd hb ⟨by omega, rc_at hnd hb ⟨by omega, ?_⟩⟩⟩
    rw [jm_tn, jm_w (by omega) (by omega)]
    exact k
  refine one 0 _ _ (by omega) rfl (one 1 _ _ (by omega) rfl (jb_Covering_coverPlainly_2 ⟨fun _ => hk _ (fun u v z => ?_) (fun b hb => ?_), fun q => absurd (by decide) q⟩))
  · rw [up_o (by omega), up_o (by omega), up_o (by omega), up_o (by omega)]
  · rcases (show b = 0 ∨ b = 1 by omega) with rfl | rfl
    · constructor
      · rw [up_o (by omega), up_o (by omega), up_o (by omega), up_s]
      · rw [up_o (by omega), up_o (by omega), up_s]
    · constructor
      · rw [up_o (by omega), up_s]
      · rw [up_s]
theorem rc_plain38 {nd : Nat} {K : jm_H → Prop} (ho : pa_ok m g L) (hnd : nd < n)
    (hk : ∀ h2 : jm_H, (∀ u v, ¬ ((u = 31 ∨ u = 32) ∧ (v = 2 * nd ∨ v = 2 * nd + 1)) → h2 u v = h u v) → (∀ b, b < 2 → h2 31 (2 * nd + b) = (pl_ f (te_S f n) g L C nd b m).1 ∧ h2 32 (2 * nd + b) = (pl_ f (te_S f n) g L C nd b m).2) → K h2) :
    ∀ (d q : Nat) (x2 : Int) (h1 : jm_H), d + q = m → x2 = q → te_C h1 n f → pa_C h1 m g L → (∀ a b, nd < a → a < n → b < 2 → h1 33 (2 * a + b) = C a b ∧ 0 ≤ C a b ∧ C a b ≤ 1000000) → (∀ u v, ¬ ((u = 31 ∨ u = 32) ∧ (v = 2 * nd ∨ v = 2 * nd + 1)) → h1 u v = h u v) → (∀ b, b < 2 → h1 31 (2 * nd + b) = (pl_ f (te_S f n) g L C nd b q).1 ∧ h1 32 (2 * nd + b) = (pl_ f (te_S f n) g L C nd b q).2) →
      jm_BV E jm_SH jm_m_Covering_coverPlainly 3 38 [some (jm_R 30), some (jm_I nd), some (jm_I x2), none, none] [] h1 K
  | 0, q, x2, h1, hd, hx, hc, hp, hC, hf, hv => by
    have : q = m := by omega
    subst this
    exact jb_Covering_coverPlainly_38 ⟨fun _ => hk h1 hf hv, fun w => by rw [hp.1] at w; omega⟩
  | d + 1, q, x2, h1, hd, hx, hc, hp, hC, hf, hv => by
    subst hx
    have hm := hp.2.1
    have hn := hc.2.1.1
    have hqm : q < m := by omega
    obtain ⟨e0, e1, e2, e3⟩ := hp.2.2 q hqm
    have hok := ho q hqm
    obtain ⟨b, hb2⟩ : ∃ b : Nat, g q 0 = (b : Int) := ⟨(g q 0).toNat, by omega⟩
    have hbl : b < 2 := by omega
    obtain ⟨v1, v2⟩ := hv b hbl
    have pb := pl_b (f := f) (S := te_S f n) (g := g) (L := L) (C := C) (a := nd) (b := b) q
    -- what stays
    have stay : (∀ b2, b2 < 2 → pl_ f (te_S f n) g L C nd b2 (q + 1) = pl_ f (te_S f n) g L C nd b2 q) → jm_BV E jm_SH jm_m_Covering_coverPlainly 3 38 [some (jm_R 30), some (jm_I nd), some (jm_I (jm_w32 ((q : Int) + 1))), none, none] [] h1 K := fun w => by
      rw [jm_w (by omega) (by omega)]
      exact rc_plain38 ho hnd hk d (q + 1) _ h1 (by omega) (by omega) hc hp hC hf (fun b2 hb3 => by rw [w b2 hb3]; exact hv b2 hb3)
    refine jb_Covering_coverPlainly_38 ⟨fun w => by rw [hp.1] at w; omega, fun _ => rc_chain hp hqm (fun w => ⟨fun _ => ⟨by omega, ?_⟩, fun z => absurd w.2 z⟩) (fun w v hv0 => ⟨fun z => by omega, fun _ => ?_⟩)⟩
    · rw [jm_tn, e0, hb2]
      refine rc_at (by omega) hbl ⟨by omega, fun _ => stay (fun b2 _ => ?_), fun z => ?_⟩
      · show (if _ then _ else _) = _
        rw [if_neg (fun u => u.2.1 w)]
      · rw [jm_tn, v1] at z
        omega
    · refine rc_costOf hc hp ho hqm w hnd hC ⟨by omega, ?_⟩
      rw [jm_tn, e0, hb2]
      refine rc_at (by omega) hbl ⟨by omega, fun z => stay (fun b2 _ => ?_), fun z => ⟨by omega, by omega, ?_⟩⟩
      · rw [jm_tn, v1] at z
        show (if _ then _ else _) = _
        rw [if_neg]
        rintro ⟨u1, u2, u3⟩
        have : b2 = b := by omega
        subst this
        omega
      · rw [jm_tn, v1] at z
        rw [jm_tn, jm_w (by omega) (by omega)]
        refine rc_plain38 ho hnd hk d (q + 1) _ _ (by omega) (by omega) (hc.fr fun u v z1 z2 => ?_) (hp.fr fun u v z1 z2 => ?_) (fun a b2 z1 z2 z3 => ?_) (fun u v z1 => ?_) (fun b2 hb3 => ?_)
        · rw [up_o (by omega), up_o (by omega)]
        · rw [up_o (by omega), up_o (by omega)]
        · rw [up_o (by omega), up_o (by omega)]
          exact hC a b2 z1 z2 z3
        · rw [up_o (by omega), up_o (by omega)]
          exact hf u v z1
        · by_cases eb : b2 = b
          · subst eb
            have e : pl_ f (te_S f n) g L C nd b2 (q + 1) = (cw_ f (te_S f n) C (fun i => g q (i + 2)) (L q) 0 nd (g q 1), (q : Int)) := by
              show (if _ then _ else _) = _
              rw [if_pos ⟨hb2, w, by omega⟩]
            rw [e]
            constructor
            · rw [up_o (by omega), up_s]
            · rw [up_s]
          · have e : pl_ f (te_S f n) g L C nd b2 (q + 1) = pl_ f (te_S f n) g L C nd b2 q := by
              show (if _ then _ else _) = _
              rw [if_neg (fun u => eb (by have := u.1; omega))]
            rw [e, up_o (by omega), up_o (by omega), up_o (by omega), up_o (by omega)]
            exact hv b2 hb3
theorem rc_plain {nd : Nat} {K : jm_H → Prop} (hc : te_C h n f) (hp : pa_C h m g L) (ho : pa_ok m g L) (hnd : nd < n) (hC : ∀ a b, nd < a → a < n → b < 2 → h 33 (2 * a + b) = C a b ∧ 0 ≤ C a b ∧ C a b ≤ 1000000)
    (hk : ∀ h2 : jm_H, (∀ u v, ¬ ((u = 31 ∨ u = 32) ∧ (v = 2 * nd ∨ v = 2 * nd + 1)) → h2 u v = h u v) → (∀ b, b < 2 → h2 31 (2 * nd + b) = (pl_ f (te_S f n) g L C nd b m).1 ∧ h2 32 (2 * nd + b) = (pl_ f (te_S f n) g L C nd b m).2) → K h2) : jm_CV E jm_SH jm_m_Covering_coverPlainly 3 [jm_R 30, jm_I nd] h K := by
  have hn := hc.2.1.1
  refine jb_Covering_coverPlainly (rc_plain2 (by omega) fun h2 c1 c2 => ?_)
  refine rc_plain38 (h := h2) ho hnd (fun h3 d1 d2 => hk h3 (fun u v z => (d1 u v z).trans (c1 u v z)) d2) m 0 _ h2 (by omega) rfl (hc.fr fun u v z1 z2 => c1 u v (by omega)) (hp.fr fun u v z1 z2 => c1 u v (by omega)) (fun a b z1 z2 z3 => by rw [c1 _ _ (by omega)]; exact hC a b z1 z2 z3) (fun _ _ _ => rfl) (fun b hb => ?_)
  unfold pl_
  exact c2 b hb
end CW
