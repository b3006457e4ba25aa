/-! CODE: the class tells it -/
def cl_C (h : jm_H) (l : List (Nat × Nat)) : Prop := h 30 8 = l.length ∧ ∀ j x, l[j]? = some x → h 35 j = (x.1 : Int) ∧ h 36 j = (x.2 : Int)
def tk_C (h : jm_H) (n m : Nat) (f : Nat → Int) (g : Nat → Nat → Int) (L : Nat → Nat) (PB CB : Nat → Nat → Int) : Prop := te_C h n f ∧ pa_C h m g L ∧ ∀ a b, a < n → b < 2 → h 32 (2 * a + b) = PB a b ∧ h 34 (2 * a + b) = CB a b
def tf_ (h h2 : jm_H) : Prop := ∀ u v, ¬ (u = 35 ∨ u = 36 ∨ (u = 30 ∧ v = 8)) → h2 u v = h u v
theorem tf_.rf {h : jm_H} : tf_ h h := fun _ _ _ => rfl
theorem tf_.tr {h h1 h2 : jm_H} (p : tf_ h h1) (q : tf_ h1 h2) : tf_ h h2 := fun a b z => (q a b z).trans (p a b z)
theorem tk_C.fr {h h2 : jm_H} {n m : Nat} {f : Nat → Int} {g : Nat → Nat → Int} {L : Nat → Nat} {PB CB : Nat → Nat → Int} (hT : tk_C h n m f g L PB CB) (q : tf_ h h2) : tk_C h2 n m f g L PB CB :=
  ⟨hT.1.fr fun u v z1 z2 => q u v (by omega), hT.2.1.fr fun u v z1 z2 => q u v (by omega), fun a b ha hb => by rw [q _ _ (by omega), q _ _ (by omega)]; exact hT.2.2 a b ha hb⟩
/-- how long the rows can get -/
theorem cd_len {n m : Nat} {f : Nat → Int} {S : Nat → Nat} {g : Nat → Nat → Int} {L : Nat → Nat} {C PB CB : Nat → Nat → Int} (ht : tr_ f n S) (ho : pa_ok m g L) (hq : cq_ n m f S g L C PB CB) : ∀ (k a b : Nat), a < n → b < 2 → 0 ≤ PB a b → S a ≤ k → (cd_ S g L PB CB k a b).length + 1 ≤ 2 * S a
  | 0, a, b, ha, hb, hp, hk => by
    have := sp_pos (ht a ha).1
    omega
  | k + 1, a, b, ha, hb, hp, hk => by
    obtain ⟨q1, q2, q3, q4⟩ := hq
    have hq : cq_ n m f S g L C PB CB := ⟨q1, q2, q3, q4⟩
    have hS := sp_pos (ht a ha).1
    obtain ⟨p1, p2, p3⟩ := q2 a b ha hb hp
    have hok := ho (PB a b).toNat (by omega)
    have tlen : ∀ x y, x < n → y < 2 → 0 ≤ CB x y → S x ≤ k → (tl_ g L CB (cd_ S g L PB CB k) x y).length ≤ 2 * S x := fun x y hx hy hc hk2 => by
      obtain ⟨c1, c2, c3⟩ := q3 x y hx hy hc
      unfold tl_
      by_cases ch : ch_p g L (CB x y).toNat
      · rw [if_pos ch]
        have hbd := hd_b (g (CB x y).toNat 2)
        have := cd_len ht ho hq k x (hd_ (g (CB x y).toNat 2)).toNat hx (by have := ch.2; omega) (c2 ch) hk2
        simp
        omega
      · rw [if_neg ch]
        have := cd_len ht ho hq k x y hx hy (by rw [c3 ch]; exact hc) hk2
        omega
    have walk : ∀ (d i a2 kk l : Nat) (s : Int), 0 ≤ s → sp_ (fun i => g (PB a b).toNat (i + 2)) d l i → sp_ f kk l a2 → a2 + kk = a + S a → a ≤ a2 → (a2 = a → i = 0) → cw_ f S C (fun i => g (PB a b).toNat (i + 2)) d i a2 s < 1000000 → ((hl_ S (fun i => g (PB a b).toNat (i + 2)) d i a2).flatMap (fun q => tl_ g L CB (cd_ S g L PB CB k) q.1 q.2)).length + (if a2 = a ∧ 0 < d then 2 else 0) ≤ 2 * kk := by
      intro d
      induction d with
      | zero =>
        intro i a2 kk l s hs hsp hsf he hna hni hw
        show (List.flatMap _ []).length + _ ≤ _
        rw [if_neg (by omega)]
        simp
      | succ d ih =>
        intro i a2 kk l s hs hsp hsf he hna hni hw
        have han2 := (ht a ha).2
        obtain ⟨han, hk1, st1, st0⟩ := hl_step ht q1 hsp hsf (by omega) hs hw
        by_cases hh : 0 ≤ hd_ (g (PB a b).toNat (i + 2))
        · obtain ⟨y, y1, y2, y3, y4, y5, l2, y6, y7, y8⟩ := st1 hh
          have hna2 : ¬ a2 = a := fun w => by
            have := hni w
            subst this
            exact ch_0 ho (by omega) p2 hh
          have e : hl_ S (fun i => g (PB a b).toNat (i + 2)) (d + 1) i a2 = (a2, y) :: hl_ S (fun i => g (PB a b).toNat (i + 2)) d (i + 1) (a2 + S a2) := by
            show (if _ then _ else _) = _
            rw [if_pos hh, y2]
            rfl
          have hsC := q1 a2 y
          have r := ih (i + 1) (a2 + S a2) (kk - S a2) l2 _ (by omega) y6 y7 (by omega) (by omega) (by omega) y8
          have t := tlen a2 y han y1 (q4 a2 y han y1 y3) (by omega)
          rw [e, if_neg (fun w => hna2 w.1)]
          rw [if_neg (by omega)] at r
          simp only [List.flatMap_cons, List.length_append]
          omega
        · obtain ⟨l2, y6, y7, y8⟩ := st0 hh
          have e : hl_ S (fun i => g (PB a b).toNat (i + 2)) (d + 1) i a2 = hl_ S (fun i => g (PB a b).toNat (i + 2)) d (i + 1) (a2 + 1) := by
            show (if _ then _ else _) = _
            rw [if_neg hh]
          have r := ih (i + 1) (a2 + 1) (kk - 1) l2 _ hs y6 y7 (by omega) (by omega) (by omega) y8
          rw [e]
          rw [if_neg (by omega)] at r
          split <;> omega
    have hpos := sp_pos hok.2.2.2
    have w := walk (L (PB a b).toNat) 0 a (S a) 1 (g (PB a b).toNat 1) hok.2.1.1 hok.2.2.2 (ht a ha).1 rfl (Nat.le_refl _) (fun _ => rfl) p3
    rw [if_pos ⟨rfl, hpos⟩] at w
    show ((hl_ S (fun i => g (PB a b).toNat (i + 2)) (L (PB a b).toNat) 0 a).flatMap (fun q => tl_ g L CB (cd_ S g L PB CB k) q.1 q.2) ++ [((PB a b).toNat, a)]).length + 1 ≤ 2 * S a
    rw [List.length_append]
    simp only [List.length_cons, List.length_nil]
    omega
theorem tl_len {n m : Nat} {f : Nat → Int} {S : Nat → Nat} {g : Nat → Nat → Int} {L : Nat → Nat} {C PB CB : Nat → Nat → Int} (ht : tr_ f n S) (ho : pa_ok m g L) (hq : cq_ n m f S g L C PB CB) {k x y : Nat} (hx : x < n) (hy : y < 2) (hc : 0 ≤ CB x y) (hk : S x ≤ k) : (tl_ g L CB (cd_ S g L PB CB k) x y).length ≤ 2 * S x := by
  obtain ⟨c1, c2, c3⟩ := hq.2.2.1 x y hx hy hc
  unfold tl_
  by_cases ch : ch_p g L (CB x y).toNat
  · rw [if_pos ch]
    have hbd := hd_b (g (CB x y).toNat 2)
    have := cd_len ht ho hq k x (hd_ (g (CB x y).toNat 2)).toNat hx (by have := ch.2; omega) (c2 ch) hk
    simp
    omega
  · rw [if_neg ch]
    have := cd_len ht ho hq k x y hx hy (by rw [c3 ch]; exact hc) hk
    omega
section TE
variable {E : jm_Env} {n m : Nat} {f : Nat → Int} {g : Nat → Nat → Int} {L : Nat → Nat} {C PB CB : Nat → Nat → Int}
theorem rc_tellOne {h : jm_H} {p a : Nat} {l : List (Nat × Nat)} {K : jm_H → Prop} (hl : cl_C h l) (hn : l.length < 60) (hk : ∀ h2 : jm_H, cl_C h2 (l ++ [(p, a)]) → tf_ h h2 → K h2) : jm_CV E jm_SH jm_m_Covering_tellOne 0 [jm_R 30, jm_I p, jm_I a] h K := by
  refine jb_Covering_tellOne ?_
  rw [hl.1]
  refine ⟨fun q => by omega, fun q => ⟨by omega, by omega, ?_⟩⟩
  rw [jm_tn, jm_w (by omega) (by omega)]
  refine hk _ ⟨?_, fun j x hx => ?_⟩ (fun u v z => ?_)
  · rw [up_s]
    simp
  · rw [up_o (by omega), up_o (by omega)]
    rcases Nat.lt_trichotomy j l.length with w | w | w
    · rw [List.getElem?_append_left w] at hx
      rw [up_o (by omega), up_o (by omega), up_o (by omega)]
      exact hl.2 j x hx
    · subst w
      simp at hx
      subst hx
      rw [up_s, up_o (by omega), up_s]
      exact ⟨rfl, rfl⟩
    · rw [List.getElem?_eq_none (by simp; omega)] at hx
      cases hx
  · rw [up_o (by omega), up_o (by omega), up_o (by omega)]
/-- what a telling wants: at node a, depth x3, l told so far, at most r more -/
def tw_ (h : jm_H) (n m : Nat) (f : Nat → Int) (g : Nat → Nat → Int) (L : Nat → Nat) (PB CB : Nat → Nat → Int) (a b : Nat) (x3 : Int) (l : List (Nat × Nat)) (r : Nat) : Prop := tk_C h n m f g L PB CB ∧ cl_C h l ∧ a < n ∧ b < 2 ∧ l.length + r ≤ 60 ∧ 0 ≤ x3 ∧ x3 ≤ dp_ f a
theorem rc_plain30 {k p nd : Nat} {x3 : Int} {d : Nat} {K : jm_H → Prop} (h0 : sp_ f n 1 0) (hdp : ∀ i, i < n → dp_ f i ≤ 12) (ho : pa_ok m g L) (hq : cq_ n m f (te_S f n) g L C PB CB) (hpm : p < m) (hch : ¬ ch_p g L p) (hnd : nd < n) (hk : te_S f n nd ≤ k + 1) (h3 : 0 ≤ x3 ∧ x3 ≤ dp_ f nd) (hd : 2 * (13 - x3) + 3 ≤ d)
    (HB : ∀ (a b : Nat) (x : Int) (l : List (Nat × Nat)) (h : jm_H) (d2 : Nat) (K2 : jm_H → Prop), tw_ h n m f g L PB CB a b x l (2 * te_S f n a) → 0 ≤ CB a b → te_S f n a ≤ k → 2 * (13 - x) + 4 ≤ d2 → (∀ h2 : jm_H, cl_C h2 (l ++ tl_ g L CB (cd_ (te_S f n) g L PB CB k) a b) → tf_ h h2 → K2 h2) → jm_CV E jm_SH jm_m_Covering_tell d2 [jm_R 30, jm_I a, jm_I b, jm_I x] h K2) :
    ∀ (e i a kk l : Nat) (s x5 x6 : Int) (q : List (Nat × Nat)) (h : jm_H), e + i = L p → x5 = a → x6 = i → 0 ≤ s → sp_ (fun i => g p (i + 2)) e l i → sp_ f kk l a → a + kk = nd + te_S f n nd → nd ≤ a → (a = nd → i = 0) → cw_ f (te_S f n) C (fun i => g p (i + 2)) e i a s < 1000000 → tk_C h n m f g L PB CB → cl_C h q → q.length + 2 * kk + 1 ≤ 60 + (if a = nd then 2 else 0) → q.length < 60 →
      (∀ h2 : jm_H, cl_C h2 (q ++ (hl_ (te_S f n) (fun i => g p (i + 2)) e i a).flatMap (fun q => tl_ g L CB (cd_ (te_S f n) g L PB CB k) q.1 q.2) ++ [(p, nd)]) → tf_ h h2 → K h2) →
      jm_BV E jm_SH jm_m_Covering_tellPlain d 30 [some (jm_R 30), some (jm_I nd), none, some (jm_I x3), some (jm_I p), some (jm_I x5), some (jm_I x6), none] [] h K
  | 0, i, a, kk, l, s, x5, x6, q, h, he, h5, h6, hs, hsp, hsf, hak, hna, hni, hw, hT, hl, hcap, hq60, hkk => by
    have hm := hT.2.1.2.1
    obtain ⟨e0, e1, e2, e3⟩ := hT.2.1.2.2 p hpm
    have hd12 := hdp nd hnd
    refine jb_Covering_tellPlain_30 (dr := d - 1) (by omega) (by omega) ⟨by omega, ?_⟩
    rw [jm_tn, e2]
    refine ⟨fun _ => rc_tellOne hl hq60 fun h2 c1 c2 => hkk h2 ?_ c2, fun w => by omega⟩
    simpa [hl_] using c1
  | e + 1, i, a, kk, l, s, x5, x6, q, h, he, h5, h6, hs, hsp, hsf, hak, hna, hni, hw, hT, hl, hcap, hq60, hkk => by
    subst h5
    subst h6
    have hm := hT.2.1.2.1
    have hn := hT.1.2.1.1
    have ht := te_S_ok hT.1.2.1
    have hd12 := hdp nd hnd
    obtain ⟨e0, e1, e2, e3⟩ := hT.2.1.2.2 p hpm
    have hL := (ho p hpm).2.2.1
    have hnd2 := (ht nd hnd).2
    obtain ⟨han, hk1, st1, st0⟩ := hl_step ht hq.1 hsp hsf (by omega) hs hw
    refine jb_Covering_tellPlain_30 (dr := d - 1) (by omega) (by omega) ⟨by omega, ?_⟩
    rw [jm_tn, e2, hT.1.1, jm_tn, e3 i (by omega)]
    refine ⟨fun w => by omega, fun _ => ⟨fun w => by omega, fun _ => ⟨by omega, by omega, rc_hd ?_⟩⟩⟩
    refine ⟨fun hh => ?_, fun hh => ?_⟩
    · obtain ⟨l2, y6, y7, y8⟩ := st0 (by omega)
      have ee : hl_ (te_S f n) (fun i => g p (i + 2)) (e + 1) i a = hl_ (te_S f n) (fun i => g p (i + 2)) e (i + 1) (a + 1) := by
        show (if _ then _ else _) = _
        rw [if_neg (by show ¬ 0 ≤ hd_ (g p (i + 2)); omega)]
      rw [ee] at hkk
      rw [jm_w (by omega) (by omega), jm_w (by omega) (by omega)]
      refine rc_plain30 h0 hdp ho hq hpm hch hnd hk h3 hd HB e (i + 1) (a + 1) (kk - 1) l2 s _ _ q h (by omega) (by omega) (by omega) hs y6 y7 (by omega) (by omega) (by omega) y8 hT hl ?_ hq60 hkk
      rw [if_neg (by omega)]
      split at hcap <;> omega
    · have hh2 : 0 ≤ hd_ (g p (i + 2)) := by omega
      obtain ⟨y, y1, y2, y3, y4, y5, l2, y6, y7, y8⟩ := st1 hh2
      have hna2 : ¬ a = nd := fun w => by
        have := hni w
        subst this
        exact ch_0 ho hpm hch hh2
      rw [if_neg hna2] at hcap
      have ee : hl_ (te_S f n) (fun i => g p (i + 2)) (e + 1) i a = (a, y) :: hl_ (te_S f n) (fun i => g p (i + 2)) e (i + 1) (a + te_S f n a) := by
        show (if _ then _ else _) = _
        rw [if_pos (show 0 ≤ hd_ (g p (i + 2)) from hh2)]
        show (a, (hd_ (g p (i + 2))).toNat) :: _ = _
        rw [y2]
        rfl
      have hdi := dp_in h0 ht _ nd a rfl hnd (by omega) (by omega)
      have hda := hdp a han
      have hCB := hq.2.2.2 a y han y1 y3
      rw [y2, jm_w (x := x3 + 1) (by omega) (by omega)]
      refine HB a y (x3 + 1) q h _ _ ⟨hT, hl, han, y1, by omega, by omega, by omega⟩ hCB (by omega) (by omega) fun h2 c1 c2 => ?_
      have hT2 := hT.fr c2
      have tlen := tl_len ht ho hq (k := k) han y1 hCB (by omega)
      rw [jm_tn, (hT2.1.2.2 a han).2.2.1, jm_w (x := (a : Int) + (te_S f n a : Int)) (by omega) (by omega), jm_w (by omega) (by omega)]
      refine ⟨by omega, ?_⟩
      have hCa := hq.1 a y
      refine rc_plain30 h0 hdp ho hq hpm hch hnd hk h3 hd HB e (i + 1) (a + te_S f n a) (kk - te_S f n a) l2 _ _ _ _ h2 (by omega) (by omega) (by omega) (by omega) y6 y7 (by omega) (by omega) (by omega) y8 hT2 c1 ?_ ?_ (fun h4 d1 d2 => hkk h4 ?_ (c2.tr d2))
      · rw [if_neg (by omega)]
        simp
        omega
      · simp
        omega
      · rw [ee]
        simpa using d1
theorem rc_tell {h : jm_H} {k a b d : Nat} {x3 : Int} {l : List (Nat × Nat)} {K : jm_H → Prop} (hdp : ∀ i, i < n → dp_ f i ≤ 12) (hq : cq_ n m f (te_S f n) g L C PB CB) (hw : tw_ h n m f g L PB CB a b x3 l (2 * te_S f n a)) (hc : 0 ≤ CB a b) (hd : 2 * (13 - x3) + 4 ≤ d)
    (HA : ∀ (b : Nat) (h : jm_H) (d2 : Nat) (K2 : jm_H → Prop), tw_ h n m f g L PB CB a b x3 l (2 * te_S f n a - 1) → 0 ≤ PB a b → 2 * (13 - x3) + 3 ≤ d2 → (∀ h2 : jm_H, cl_C h2 (l ++ cd_ (te_S f n) g L PB CB k a b) → tf_ h h2 → K2 h2) → jm_CV E jm_SH jm_m_Covering_tellPlain d2 [jm_R 30, jm_I a, jm_I b, jm_I x3] h K2)
    (hlen : ∀ b, b < 2 → 0 ≤ PB a b → (cd_ (te_S f n) g L PB CB k a b).length + 1 ≤ 2 * te_S f n a)
    (hk : ∀ h2 : jm_H, cl_C h2 (l ++ tl_ g L CB (cd_ (te_S f n) g L PB CB k) a b) → tf_ h h2 → K h2) : jm_CV E jm_SH jm_m_Covering_tell d [jm_R 30, jm_I a, jm_I b, jm_I x3] h K := by
  obtain ⟨hT, hl, han, hb, hcap, h3a, h3b⟩ := hw
  have hn := hT.1.2.1.1
  have hm := hT.2.1.2.1
  have hS := sp_pos ((te_S_ok hT.1.2.1) a han).1
  have hd12 := hdp a han
  obtain ⟨c1, c2, c3⟩ := hq.2.2.1 a b han hb hc
  obtain ⟨v1, v2⟩ := hT.2.2 a b han hb
  refine jb_Covering_tell (dr := d - 1) (by omega) (by omega) (rc_at (by omega) hb ⟨by omega, ?_⟩)
  rw [jm_tn, v2]
  refine ⟨fun _ => ?_, fun w => absurd hc w⟩
  obtain ⟨p, hp⟩ : ∃ p : Nat, CB a b = (p : Int) := ⟨(CB a b).toNat, by omega⟩
  unfold tl_ at hk
  rw [hp] at hk c1 c2 c3 ⊢
  rw [jm_tn] at hk c2 c3
  refine rc_chain hT.2.1 (by omega) (fun ch => ⟨fun _ => ?_, fun w => absurd ch.2 w⟩) (fun ch v hv => ⟨fun w => by omega, fun _ => ?_⟩)
  · have hbd := hd_b (g p 2)
    obtain ⟨y, hy⟩ : ∃ y : Nat, hd_ (g p 2) = (y : Int) := ⟨(hd_ (g p 2)).toNat, by have := ch.2; omega⟩
    have hyt : (hd_ (g p 2)).toNat = y := by omega
    rw [hyt] at hk c2
    rw [hy]
    rw [if_pos ch] at hk
    have hyl : y < 2 := by omega
    refine HA y h _ _ ⟨hT, hl, han, hyl, by omega, h3a, h3b⟩ (c2 ch) (by omega) fun h2 d1 d2 => ?_
    have := hlen y hyl (c2 ch)
    refine rc_tellOne d1 (by simp; omega) fun h4 d3 d4 => hk h4 ?_ (d2.tr d4)
    simpa using d3
  · rw [if_neg ch] at hk
    exact HA b h _ _ ⟨hT, hl, han, hb, by omega, h3a, h3b⟩ (by rw [c3 ch]; omega) (by omega) hk
theorem rc_tellPlain (h0 : sp_ f n 1 0) (hdp : ∀ i, i < n → dp_ f i ≤ 12) (ho : pa_ok m g L) (hq : cq_ n m f (te_S f n) g L C PB CB) :
    ∀ (k a b : Nat) (x3 : Int) (l : List (Nat × Nat)) (h : jm_H) (d : Nat) (K : jm_H → Prop), tw_ h n m f g L PB CB a b x3 l (2 * te_S f n a - 1) → 0 ≤ PB a b → te_S f n a ≤ k → 2 * (13 - x3) + 3 ≤ d → (∀ h2 : jm_H, cl_C h2 (l ++ cd_ (te_S f n) g L PB CB k a b) → tf_ h h2 → K h2) → jm_CV E jm_SH jm_m_Covering_tellPlain d [jm_R 30, jm_I a, jm_I b, jm_I x3] h K
  | 0, a, b, x3, l, h, d, K, hw, hp, hS, hd, hk => by
    have := sp_pos ((te_S_ok hw.1.1.2.1) a hw.2.2.1).1
    omega
  | k + 1, a, b, x3, l, h, d, K, hw, hp, hS, hd, hk => by
    obtain ⟨hT, hl, han, hb, hcap, h3a, h3b⟩ := hw
    have hn := hT.1.2.1.1
    have hm := hT.2.1.2.1
    have ht := te_S_ok hT.1.2.1
    have hS1 := sp_pos (ht a han).1
    have hd12 := hdp a han
    obtain ⟨p1, p2, p3⟩ := hq.2.1 a b han hb hp
    obtain ⟨v1, v2⟩ := hT.2.2 a b han hb
    refine jb_Covering_tellPlain (dr := d - 1) (by omega) (by omega) (rc_at (by omega) hb ⟨by omega, ?_⟩)
    rw [jm_tn, v1]
    refine ⟨fun w => by omega, fun _ => ⟨fun _ => ?_, fun w => by omega⟩⟩
    have hk2 : ∀ h2 : jm_H, cl_C h2 (l ++ ((hl_ (te_S f n) (fun i => g (PB a b).toNat (i + 2)) (L (PB a b).toNat) 0 a).flatMap (fun q => tl_ g L CB (cd_ (te_S f n) g L PB CB k) q.1 q.2) ++ [((PB a b).toNat, a)])) → tf_ h h2 → K h2 := hk
    obtain ⟨p, hpp⟩ : ∃ p : Nat, PB a b = (p : Int) := ⟨(PB a b).toNat, by omega⟩
    rw [hpp] at p1 p2 p3 hk2 ⊢
    rw [jm_tn] at p2 p3 hk2
    have hok := ho p (by omega)
    refine rc_plain30 (k := k) h0 hdp ho hq (by omega) p2 han (by omega) ⟨h3a, h3b⟩ hd (fun x y z l2 h2 d2 K2 w1 w2 w3 w4 w5 => ?_) (L p) 0 a (te_S f n a) 1 (g p 1) _ _ l h rfl rfl rfl hok.2.1.1 hok.2.2.2 (ht a han).1 rfl (Nat.le_refl _) (fun _ => rfl) p3 hT hl ?_ (by omega) (fun h2 c1 c2 => hk2 h2 (by simpa using c1) c2)
    · exact rc_tell hdp hq w1 w2 w4 (fun b2 h5 d5 K5 z1 z2 z3 z4 => rc_tellPlain h0 hdp ho hq k x b2 z l2 h5 d5 K5 z1 z2 w3 z3 z4) (fun b2 z1 z2 => cd_len ht ho hq k x b2 w1.2.2.1 z1 z2 w3) w5
    · rw [if_pos rfl]
      omega
end TE
