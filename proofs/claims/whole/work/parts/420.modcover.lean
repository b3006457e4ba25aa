/-! COVER: the reference's -/
def nb_ (x : Int) : Int := if x < 0 then -6 else x
theorem nb_p {x : Int} (h : 0 ≤ x) : nb_ x = x := by
  unfold nb_
  rw [if_neg (by omega)]
theorem nb_n {x : Int} (h : x < 0) : nb_ x = -6 := by
  unfold nb_
  rw [if_pos h]
section MC
variable {E : jm_Env} {h : jm_H} {n m : Nat} {f : Nat → Int} {g : Nat → Nat → Int} {L : Nat → Nat} {C : Nat → Nat → Int} {P B : Nat → Int}
theorem rm_chain {p : Nat} {K : Int → jm_H → Prop} (hp : pa_M h m g L) (hpm : p < m) (k1 : ch_p g L p → K 1 h) (k0 : ¬ ch_p g L p → K 0 h) : jm_CI E jm_SH jm_m_Mod_isChain 1 [jm_R 78, jm_I p] h K := by
  have hm := hp.2.1
  obtain ⟨e0, e1, e2, e3⟩ := hp.2.2 p hpm
  refine jb_Mod_isChain ⟨by omega, ?_⟩
  rw [jm_tn, e2, jm_w (x := 12 * (p : Int)) (by omega) (by omega), show 12 * (p : Int) = ((12 * p : Nat) : Int) by omega, jm_tn]
  refine ⟨fun q => k0 (fun z => q (by rw [z.1]; rfl)), fun q => ⟨by omega, ?_⟩⟩
  have e4 := e3 0 (by omega)
  rw [Nat.add_zero] at e4
  rw [e4]
  refine rm_hd fun v v1 v2 => ?_
  by_cases z : 0 ≤ hd_ (g p (0 + 2))
  · have := v1 z
    exact ⟨fun w => by omega, fun _ => k1 ⟨by omega, z⟩⟩
  · have := v2 (by omega)
    exact ⟨fun _ => k0 (fun w => z w.2), fun w => by omega⟩
theorem rm_cost13 {p nd : Nat} {K : Int → jm_H → Prop} (hc : te_M h n f) (hp : pa_M h m g L) (ho : pa_ok m g L) (hpm : p < m) (hch : ¬ ch_p g L p) (hC : ∀ a b, nd < a → a < n → b < 2 → h 92 (2 * a + b) = C a b ∧ 0 ≤ C a b ∧ C a b ≤ 1000000) :
    ∀ (d i a k l : Nat) (s x3 x4 x5 : Int), d + i = L p → x5 = i → x4 = a → x3 = s → 0 ≤ s → s ≤ 20 + 1000000 * i → sp_ (fun i => g p (i + 2)) d l i → sp_ f k l a → a + k ≤ n → nd ≤ a → (a = nd → i = 0) → K (cw_ f (te_S f n) C (fun i => g p (i + 2)) d i a s) h → jm_BI E jm_SH jm_m_Mod_costAt 2 13 [some (jm_R 78), some (jm_I p), none, some (jm_I x3), some (jm_I x4), some (jm_I x5), none, none, none] [] h K
  | 0, i, a, k, l, s, x3, x4, x5, hd, h5, h4, h3, hs, hs2, hsp, hsf, hak, hna, hni, hk => by
    have hm := hp.2.1
    obtain ⟨e0, e1, e2, e3⟩ := hp.2.2 p hpm
    have hk2 : K (min s 1000000) h := hk
    refine jb_Mod_costAt_13 ⟨by omega, ?_⟩
    rw [jm_tn, e2]
    refine ⟨fun _ => ⟨fun q => ?_, fun q => ?_⟩, fun q => by omega⟩
    · rw [show min s 1000000 = 1000000 by omega] at hk2
      exact hk2
    · rw [show min s 1000000 = x3 by omega] at hk2
      exact hk2
  | d + 1, i, a, k, l, s, x3, x4, x5, hd, h5, h4, h3, hs, hs2, hsp, hsf, hak, hna, hni, hk => by
    subst h5
    subst h4
    subst h3
    have hm := hp.2.1
    have hn := hc.2.1.1
    have ht := te_S_ok hc.2.1
    obtain ⟨e0, e1, e2, e3⟩ := hp.2.2 p hpm
    have hL := (ho p hpm).2.2.1
    cases l with
    | zero => exact hsp.elim
    | succ l =>
      obtain ⟨han, hSk, hst⟩ := cw_hd ht hsf hak
      have hsp2 : sp_ (fun i => g p (i + 2)) d (l + pt_ (g p (i + 2))) (i + 1) := hsp
      have hk2 : K (if 0 ≤ hd_ (g p (i + 2)) then cw_ f (te_S f n) C (fun i => g p (i + 2)) d (i + 1) (a + te_S f n a) (x3 + C a (hd_ (g p (i + 2))).toNat) else if ft_ (g p (i + 2)) (f a) then cw_ f (te_S f n) C (fun i => g p (i + 2)) d (i + 1) (a + 1) x3 else 1000000) h := hk
      refine jb_Mod_costAt_13 ⟨by omega, ?_⟩
      rw [jm_tn, e2, jm_w (x := 12 * (p : Int)) (by omega) (by omega), jm_w (x := 12 * (p : Int) + (i : Int)) (by omega) (by omega), show 12 * (p : Int) + (i : Int) = ((12 * p + i : Nat) : Int) by omega, jm_tn, e3 i (by omega), jm_tn]
      refine ⟨fun q => by omega, fun _ => ⟨by omega, rm_hd fun v v1 v2 => ?_⟩⟩
      rw [(hc.2.2 a han).1]
      have yes : ¬ 0 ≤ hd_ (g p (i + 2)) → ft_ (g p (i + 2)) (f a) → jm_BI E jm_SH jm_m_Mod_costAt 2 13 [some (jm_R 78), some (jm_I p), none, some (jm_I x3), some (jm_I (jm_w32 ((a : Int) + 1))), some (jm_I (jm_w32 ((i : Int) + 1))), none, none, none] [] h K := fun q w => by
        rw [if_neg q, if_pos w] at hk2
        have hsf2 : sp_ f (k - 1) (l + pt_ (f a)) (a + 1) := by
          have : k - 1 + 1 = k := by have := sp_pos hsf; omega
          rw [← this] at hsf
          exact hsf
        rw [jm_w (by omega) (by omega), jm_w (by omega) (by omega)]
        rw [ft_pt w] at hsp2
        exact rm_cost13 hc hp ho hpm hch hC d (i + 1) (a + 1) (k - 1) _ x3 _ _ _ (by omega) (by omega) (by omega) rfl hs (by omega) hsp2 hsf2 (by omega) (by omega) (by omega) hk2
      have no : ¬ 0 ≤ hd_ (g p (i + 2)) → ¬ ft_ (g p (i + 2)) (f a) → K 1000000 h := fun q w => by
        rw [if_neg q, if_neg w] at hk2
        exact hk2
      by_cases q2 : 0 ≤ hd_ (g p (i + 2))
      · have ev := v1 q2
        refine ⟨fun w => by omega, fun _ => ?_⟩
        have hb := hd_b (g p (i + 2))
        have hi0 : ¬ a = nd := fun w => by
          have := hni w
          subst this
          exact ch_0 ho hpm hch q2
        rw [if_pos q2] at hk2
        obtain ⟨b, hb2⟩ : ∃ b : Nat, hd_ (g p (i + 2)) = (b : Int) := ⟨(hd_ (g p (i + 2))).toNat, by omega⟩
        rw [hb2, jm_tn] at hk2
        rw [hb2] at ev
        subst ev
        have hbl : b < 2 := by omega
        obtain ⟨c1, c2, c3⟩ := hC a b (by omega) han hbl
        have hsb := (ht a han).2
        have hSp := sp_pos (ht a han).1
        rw [jm_w (x := 2 * (a : Int)) (by omega) (by omega), jm_w (x := 2 * (a : Int) + (b : Int)) (by omega) (by omega), show 2 * (a : Int) + (b : Int) = ((2 * a + b : Nat) : Int) by omega, jm_tn, c1]
        refine ⟨by omega, rm_endOf hc han ?_⟩
        rw [jm_w (x := x3 + C a b) (by omega) (by omega), jm_w (x := (i : Int) + 1) (by omega) (by omega)]
        rw [hd_pt q2] at hsp2
        exact rm_cost13 hc hp ho hpm hch hC d (i + 1) (a + te_S f n a) (k - te_S f n a) l _ _ _ _ (by omega) (by omega) (by omega) rfl (by omega) (by omega) hsp2 hst (by omega) (by omega) (by omega) hk2
      · have ev := v2 (by omega)
        refine ⟨fun _ => ⟨fun q => ⟨fun q3 => ⟨by omega, fun w => no q2 (by omega), fun w => yes q2 (by omega)⟩, fun q3 => ⟨by omega, rm_isVariable (fun w => ⟨fun _ => yes q2 (Or.inr (Or.inl ⟨q3, w⟩)), fun z => by omega⟩) (fun w => ⟨fun z => absurd rfl z, fun _ => no q2 (by omega)⟩)⟩⟩, fun q => ⟨by omega, rm_isNumber (fun w => ⟨fun _ => yes q2 (Or.inl ⟨q, w⟩), fun z => by omega⟩) (fun w => ⟨fun z => absurd rfl z, fun _ => no q2 (by omega)⟩)⟩⟩, fun w => by omega⟩
theorem rm_costAt {p nd : Nat} {K : Int → jm_H → Prop} (hc : te_M h n f) (hp : pa_M h m g L) (ho : pa_ok m g L) (hpm : p < m) (hch : ¬ ch_p g L p) (hnd : nd < n) (hC : ∀ a b, nd < a → a < n → b < 2 → h 92 (2 * a + b) = C a b ∧ 0 ≤ C a b ∧ C a b ≤ 1000000) (hk : K (cw_ f (te_S f n) C (fun i => g p (i + 2)) (L p) 0 nd (g p 1)) h) : jm_CI E jm_SH jm_m_Mod_costAt 2 [jm_R 78, jm_I p, jm_I nd] h K := by
  have hm := hp.2.1
  obtain ⟨e0, e1, e2, e3⟩ := hp.2.2 p hpm
  have ht := te_S_ok hc.2.1 nd hnd
  have hok := ho p hpm
  refine jb_Mod_costAt ⟨by omega, ?_⟩
  rw [jm_tn, e1]
  exact rm_cost13 hc hp ho hpm hch hC (L p) 0 nd _ 1 (g p 1) _ _ _ rfl rfl rfl rfl (by omega) (by omega) hok.2.2.2 ht.1 ht.2 (by omega) (fun _ => rfl) hk
theorem rm_find64 {nd : Nat} {K : jm_H → Prop} (ho : pa_ok m g L) (hnd : nd < n)
    (hk : ∀ h2 : jm_H, (∀ u v, ¬ ((u = 90 ∨ u = 91) ∧ (v = 2 * nd ∨ v = 2 * nd + 1)) → h2 u v = h u v) → (∀ b, b < 2 → h2 90 (2 * nd + b) = (pl_ f (te_S f n) g L C nd b m).1 ∧ h2 91 (2 * nd + b) = nb_ (pl_ f (te_S f n) g L C nd b m).2) → jm_BV E jm_SH jm_m_Mod_findCover 3 139 [some (jm_R 78), some (jm_I nd), some (jm_I 0), none, none] [] h2 K) :
    ∀ (d q : Nat) (x2 : Int) (h1 : jm_H), d + q = m → x2 = q → te_M h1 n f → pa_M h1 m g L → (∀ a b, nd < a → a < n → b < 2 → h1 92 (2 * a + b) = C a b ∧ 0 ≤ C a b ∧ C a b ≤ 1000000) → (∀ u v, ¬ ((u = 90 ∨ u = 91) ∧ (v = 2 * nd ∨ v = 2 * nd + 1)) → h1 u v = h u v) → (∀ b, b < 2 → h1 90 (2 * nd + b) = (pl_ f (te_S f n) g L C nd b q).1 ∧ h1 91 (2 * nd + b) = nb_ (pl_ f (te_S f n) g L C nd b q).2) →
      jm_BV E jm_SH jm_m_Mod_findCover 3 64 [some (jm_R 78), some (jm_I nd), some (jm_I x2), none, none] [] h1 K
  | 0, q, x2, h1, hd, hx, hc, hp, hC, hf, hv => by
    have : q = m := by omega
    subst this
    exact jb_Mod_findCover_64 ⟨fun _ => hk h1 hf hv, fun w => by rw [hp.1] at w; omega⟩
  | d + 1, q, x2, h1, hd, hx, hc, hp, hC, hf, hv => by
    subst hx
    have hm := hp.2.1
    have hn := hc.2.1.1
    have hqm : q < m := by omega
    obtain ⟨e0, e1, e2, e3⟩ := hp.2.2 q hqm
    have hok := ho q hqm
    obtain ⟨b, hb2⟩ : ∃ b : Nat, g q 0 = (b : Int) := ⟨(g q 0).toNat, by omega⟩
    have hbl : b < 2 := by omega
    obtain ⟨v1, v2⟩ := hv b hbl
    have pb := pl_b (f := f) (S := te_S f n) (g := g) (L := L) (C := C) (a := nd) (b := b) q
    have stay : (∀ b2, b2 < 2 → pl_ f (te_S f n) g L C nd b2 (q + 1) = pl_ f (te_S f n) g L C nd b2 q) → jm_BV E jm_SH jm_m_Mod_findCover 3 64 [some (jm_R 78), some (jm_I nd), some (jm_I (jm_w32 ((q : Int) + 1))), none, none] [] h1 K := fun w => by
      rw [jm_w (by omega) (by omega)]
      exact rm_find64 ho hnd hk d (q + 1) _ h1 (by omega) (by omega) hc hp hC hf (fun b2 hb3 => by rw [w b2 hb3]; exact hv b2 hb3)
    have ei : ∀ y : Nat, y < 2 → jm_w32 (jm_w32 (2 * (nd : Int)) + (y : Int)) = ((2 * nd + y : Nat) : Int) := fun y hy => by
      rw [jm_w (x := 2 * (nd : Int)) (by omega) (by omega), jm_w (by omega) (by omega)]
      omega
    refine jb_Mod_findCover_64 ⟨fun w => by rw [hp.1] at w; omega, fun _ => rm_chain hp hqm (fun w => ⟨fun z => by omega, fun _ => ⟨by omega, ?_⟩⟩) (fun w => ⟨fun _ => ?_, fun z => absurd rfl z⟩)⟩
    · rw [jm_tn, e0, hb2, ei b hbl, jm_tn, v1]
      refine ⟨by omega, fun _ => stay (fun b2 _ => ?_), fun z => by omega⟩
      show (if _ then _ else _) = _
      rw [if_neg (fun u => u.2.1 w)]
    · refine rm_costAt hc hp ho hqm w hnd hC ⟨by omega, ?_⟩
      rw [jm_tn, e0, hb2, ei b hbl, jm_tn, v1]
      refine ⟨by omega, fun z => stay (fun b2 _ => ?_), fun z => ⟨by omega, by omega, ?_⟩⟩
      · show (if _ then _ else _) = _
        rw [if_neg]
        rintro ⟨u1, u2, u3⟩
        have : b2 = b := by omega
        subst this
        omega
      · rw [jm_w (by omega) (by omega)]
        refine rm_find64 ho hnd hk d (q + 1) _ _ (by omega) (by omega) (hc.fr fun u v z1 => ?_) (hp.fr fun u v z1 => ?_) (fun a b2 z1 z2 z3 => ?_) (fun u v z1 => ?_) (fun b2 hb3 => ?_)
        · rw [up_o (by omega), up_o (by omega)]
        · rw [up_o (by omega), up_o (by omega)]
        · rw [up_o (by omega), up_o (by omega)]
          exact hC a b2 z1 z2 z3
        · rw [up_o (by omega), up_o (by omega)]
          exact hf u v z1
        · by_cases eb : b2 = b
          · subst eb
            have e : pl_ f (te_S f n) g L C nd b2 (q + 1) = (cw_ f (te_S f n) C (fun i => g q (i + 2)) (L q) 0 nd (g q 1), (q : Int)) := by
              show (if _ then _ else _) = _
              rw [if_pos ⟨hb2, w, by omega⟩]
            rw [e]
            constructor
            · rw [up_o (by omega), up_s]
            · rw [up_s, nb_p (by show (0 : Int) ≤ (q : Int); omega)]
          · have e : pl_ f (te_S f n) g L C nd b2 (q + 1) = pl_ f (te_S f n) g L C nd b2 q := by
              show (if _ then _ else _) = _
              rw [if_neg (fun u => eb (by have := u.1; omega))]
            rw [e, up_o (by omega), up_o (by omega), up_o (by omega), up_o (by omega)]
            exact hv b2 hb3
theorem rm_find139 {nd : Nat} {K : jm_H → Prop} (ho : pa_ok m g L) (hnd : nd < 30) (hq : ∀ y, y < 2 → pq_ g L m P B y)
    (hk : ∀ h2 : jm_H, (∀ u v, ¬ ((u = 92 ∨ u = 93) ∧ (v = 2 * nd ∨ v = 2 * nd + 1)) → h2 u v = h u v) → (∀ b, b < 2 → h2 92 (2 * nd + b) = (co_ g L P B b m).1 ∧ h2 93 (2 * nd + b) = nb_ (co_ g L P B b m).2) → jm_BV E jm_SH jm_m_Mod_findCover 3 58 [some (jm_R 78), some (jm_I ((nd : Int) - 1)), none, none, none] [] h2 K) :
    ∀ (d q : Nat) (x2 : Int) (h1 : jm_H), d + q = m → x2 = q → pa_M h1 m g L → (∀ b, b < 2 → h1 90 (2 * nd + b) = P b ∧ h1 91 (2 * nd + b) = nb_ (B b)) → (∀ u v, ¬ ((u = 92 ∨ u = 93) ∧ (v = 2 * nd ∨ v = 2 * nd + 1)) → h1 u v = h u v) → (∀ b, b < 2 → h1 92 (2 * nd + b) = (co_ g L P B b q).1 ∧ h1 93 (2 * nd + b) = nb_ (co_ g L P B b q).2) →
      jm_BV E jm_SH jm_m_Mod_findCover 3 139 [some (jm_R 78), some (jm_I nd), some (jm_I x2), none, none] [] h1 K
  | 0, q, x2, h1, hd, hx, hp, hv, hf, hw => by
    have : q = m := by omega
    subst this
    refine jb_Mod_findCover_139 ⟨fun _ => ?_, fun w => by rw [hp.1] at w; omega⟩
    rw [jm_w (by omega) (by omega)]
    exact hk h1 hf hw
  | d + 1, q, x2, h1, hd, hx, hp, hv, hf, hw => by
    subst hx
    have hm := hp.2.1
    have hqm : q < m := by omega
    obtain ⟨e0, e1, e2, e3⟩ := hp.2.2 q hqm
    have hok := ho q hqm
    obtain ⟨b, hb2⟩ : ∃ b : Nat, g q 0 = (b : Int) := ⟨(g q 0).toNat, by omega⟩
    have hbl : b < 2 := by omega
    obtain ⟨w1, w2⟩ := hw b hbl
    obtain ⟨v1, v2⟩ := hv b hbl
    obtain ⟨⟨p1, p2⟩, p3, p4, p5, p6, p7⟩ := hq b hbl
    have ei : ∀ y : Nat, y < 2 → jm_w32 (jm_w32 (2 * (nd : Int)) + (y : Int)) = ((2 * nd + y : Nat) : Int) := fun y hy => by
      rw [jm_w (x := 2 * (nd : Int)) (by omega) (by omega), jm_w (by omega) (by omega)]
      omega
    have go : ∀ s0 : Int, s0 = co_v g L P B b q → jm_BV E jm_SH jm_m_Mod_findCover 3 218 [some (jm_R 78), some (jm_I nd), some (jm_I q), some (jm_I ((2 * nd + b : Nat) : Int)), none] [jm_I s0] h1 K := fun s0 hs => by
      refine jb_Mod_findCover_218 ⟨by omega, ?_⟩
      rw [jm_tn, w1, jm_w (by omega) (by omega)]
      refine ⟨fun c => ?_, fun c => ⟨by omega, by omega, ?_⟩⟩
      · refine rm_find139 ho hnd hq hk d (q + 1) _ h1 (by omega) (by omega) hp hv hf (fun b2 hb3 => ?_)
        have e : co_ g L P B b2 (q + 1) = co_ g L P B b2 q := by
          show (if _ then _ else _) = _
          rw [if_neg]
          rintro ⟨u1, u2⟩
          have : b2 = b := by omega
          subst this
          omega
        rw [e]
        exact hw b2 hb3
      · refine rm_find139 ho hnd hq hk d (q + 1) _ _ (by omega) (by omega) (hp.fr fun u v z1 => ?_) (fun b2 hb3 => ?_) (fun u v z1 => ?_) (fun b2 hb3 => ?_)
        · rw [up_o (by omega), up_o (by omega)]
        · rw [up_o (by omega), up_o (by omega), up_o (by omega), up_o (by omega)]
          exact hv b2 hb3
        · rw [up_o (by omega), up_o (by omega)]
          exact hf u v z1
        · by_cases eb : b2 = b
          · subst eb
            have e : co_ g L P B b2 (q + 1) = (s0, (q : Int)) := by
              show (if _ then _ else _) = _
              rw [if_pos ⟨hb2, by omega⟩, hs]
            rw [e]
            constructor
            · rw [up_o (by omega), up_s]
            · rw [up_s, nb_p (by show (0 : Int) ≤ (q : Int); omega)]
          · have e : co_ g L P B b2 (q + 1) = co_ g L P B b2 q := by
              show (if _ then _ else _) = _
              rw [if_neg (fun u => eb (by have := u.1; omega))]
            rw [e, up_o (by omega), up_o (by omega), up_o (by omega), up_o (by omega)]
            exact hw b2 hb3
    refine jb_Mod_findCover_139 ⟨fun w => by rw [hp.1] at w; omega, fun _ => ⟨by omega, ?_⟩⟩
    rw [jm_tn, e0, hb2, ei b hbl, jm_tn]
    refine rm_chain hp hqm (fun ch => ⟨fun z => by omega, fun _ => ⟨by omega, ?_⟩⟩) (fun ch => ⟨fun _ => ⟨by omega, ?_⟩, fun z => absurd rfl z⟩)
    · rw [e1, jm_w (x := 12 * (q : Int)) (by omega) (by omega), show 12 * (q : Int) = ((12 * q : Nat) : Int) by omega, jm_tn]
      have e4 := e3 0 (by have := ch.1; omega)
      rw [Nat.add_zero] at e4
      rw [e4]
      refine ⟨by omega, rm_hd fun v z1 z2 => ?_⟩
      have hbd := hd_b (g q 2)
      have ev : v = hd_ (g q 2) := z1 ch.2
      obtain ⟨y, hy⟩ : ∃ y : Nat, hd_ (g q 2) = (y : Int) := ⟨(hd_ (g q 2)).toNat, by have := ch.2; omega⟩
      have hyl : y < 2 := by omega
      have hyt : (hd_ (g q 2)).toNat = y := by omega
      rw [hy] at ev
      subst ev
      obtain ⟨u1, u2⟩ := hv y hyl
      obtain ⟨⟨k1, k2⟩, k3, k4, k5, k6, k7⟩ := hq y hyl
      rw [ei y hyl, jm_tn, u1, jm_w (x := g q 1 + P y) (by omega) (by omega)]
      refine ⟨by omega, go _ ?_⟩
      unfold co_v
      rw [if_pos ch, hyt]
    · rw [v2, v1]
      refine ⟨fun z => go _ ?_, fun z => ⟨by omega, go _ ?_⟩⟩
      · unfold co_v
        rw [if_neg ch, if_neg (fun w => z (by rw [w]; exact nb_p (by omega)))]
      · unfold co_v
        rw [if_neg ch, if_pos]
        by_cases w : B b < 0
        · rw [nb_n w] at z
          omega
        · rw [nb_p (by omega)] at z
          exact z
/-- the reference's cells of all costs -/
def cv_M (h : jm_H) (n m : Nat) (f : Nat → Int) (g : Nat → Nat → Int) (L : Nat → Nat) (k : Nat) : Prop := (∀ a b, n - k ≤ a → a < n → b < 2 → h 90 (2 * a + b) = (cv_ n m f g L k a b).1.1 ∧ h 91 (2 * a + b) = nb_ (cv_ n m f g L k a b).1.2 ∧ h 92 (2 * a + b) = (cv_ n m f g L k a b).2.1 ∧ h 93 (2 * a + b) = nb_ (cv_ n m f g L k a b).2.2) ∧ ∀ v, v < 2 * (n - k) → h 90 v = 1000000 ∧ h 91 v = -6 ∧ h 92 v = 1000000 ∧ h 93 v = -6
theorem rm_find58 {K : jm_H → Prop} (ho : pa_ok m g L) (hk : ∀ h2 : jm_H, (∀ u v, ¬ (90 ≤ u ∧ u ≤ 93) → h2 u v = h u v) → cv_M h2 n m f g L n → K h2) :
    ∀ (i k : Nat) (x1 : Int) (h1 : jm_H), i + k = n → x1 = (i : Int) - 1 → te_M h1 n f → pa_M h1 m g L → cv_M h1 n m f g L k → (∀ u v, ¬ (90 ≤ u ∧ u ≤ 93) → h1 u v = h u v) → jm_BV E jm_SH jm_m_Mod_findCover 3 58 [some (jm_R 78), some (jm_I x1), none, none, none] [] h1 K
  | 0, k, x1, h1, hi, hx, hc, hp, hv, hf => by
    have : k = n := by omega
    subst this
    exact jb_Mod_findCover_58 ⟨fun _ => hk h1 hf hv, fun w => by omega⟩
  | i + 1, k, x1, h1, hi, hx, hc, hp, hv, hf => by
    have hx2 : x1 = (i : Int) := by omega
    subst hx2
    have hn := hc.2.1.1
    have hg : ∀ q, q < m → 0 ≤ g q 1 := fun q hq => (ho q hq).2.1.1
    have ei : n - 1 - k = i := by omega
    refine jb_Mod_findCover_58 ⟨fun w => by omega, fun _ => ?_⟩
    refine rm_find64 (h := h1) (C := fun x y => (cv_ n m f g L k x y).2.1) ho (by omega) (fun h2 c1 c2 => ?_) m 0 _ h1 (by omega) rfl hc hp (fun a b z1 z2 z3 => ⟨(hv.1 a b (by omega) z2 z3).2.2.1, cv_b hg k a b⟩) (fun _ _ _ => rfl) (fun b hb => ?_)
    · have hp2 := hp.fr (h2 := h2) fun u v z1 => c1 u v (by omega)
      refine rm_find139 (h := h2) (P := fun y => (pl_ f (te_S f n) g L (fun x y => (cv_ n m f g L k x y).2.1) i y m).1) (B := fun y => (pl_ f (te_S f n) g L (fun x y => (cv_ n m f g L k x y).2.1) i y m).2) ho (by omega) (fun y _ => pl_pq (fun a b => (cv_b hg k a b).1) hg) (fun h3 d1 d2 => ?_) m 0 _ h2 (by omega) rfl hp2 c2 (fun _ _ _ => rfl) (fun b hb => ?_)
      · refine rm_find58 ho hk i (k + 1) _ h3 (by omega) rfl (hc.fr fun u v z1 => ?_) (hp2.fr fun u v z1 => d1 u v (by omega)) ⟨fun a b z1 z2 z3 => ?_, fun v z => ?_⟩ (fun u v z => ?_)
        · rw [d1 u v (by omega), c1 u v (by omega)]
        · by_cases ea : a = i
          · subst ea
            have e : cv_ n m f g L (k + 1) a b = (pl_ f (te_S f n) g L (fun x y => (cv_ n m f g L k x y).2.1) a b m, co_ g L (fun y => (pl_ f (te_S f n) g L (fun x y => (cv_ n m f g L k x y).2.1) a y m).1) (fun y => (pl_ f (te_S f n) g L (fun x y => (cv_ n m f g L k x y).2.1) a y m).2) b m) := by
              show (if a = n - 1 - k then _ else _) = _
              rw [if_pos ei.symm]
            rw [e, d1 90 _ (by omega), d1 91 _ (by omega)]
            exact ⟨(c2 b z3).1, (c2 b z3).2, (d2 b z3).1, (d2 b z3).2⟩
          · have e : cv_ n m f g L (k + 1) a b = cv_ n m f g L k a b := by
              show (if a = n - 1 - k then _ else _) = _
              rw [if_neg (by omega)]
            rw [e, d1 90 _ (by omega), d1 91 _ (by omega), d1 92 _ (by omega), d1 93 _ (by omega), c1 90 _ (by omega), c1 91 _ (by omega), c1 92 _ (by omega), c1 93 _ (by omega)]
            exact hv.1 a b (by omega) z2 z3
        · rw [d1 90 _ (by omega), d1 91 _ (by omega), d1 92 _ (by omega), d1 93 _ (by omega), c1 90 _ (by omega), c1 91 _ (by omega), c1 92 _ (by omega), c1 93 _ (by omega)]
          exact hv.2 v (by omega)
        · rw [d1 u v (by omega), c1 u v (by omega)]
          exact hf u v z
      · unfold co_
        rw [c1 92 _ (by omega), c1 93 _ (by omega)]
        exact ⟨(hv.2 _ (by omega)).2.2.1, (hv.2 _ (by omega)).2.2.2⟩
    · unfold pl_
      exact ⟨(hv.2 _ (by omega)).1, (hv.2 _ (by omega)).2.1⟩
theorem rm_find9 {K : jm_H → Prop} (hn : n ≤ 30) (hk : ∀ h2 : jm_H, (∀ u v, ¬ (90 ≤ u ∧ u ≤ 93) → h2 u v = h u v) → (∀ v, v < 2 * n → h2 90 v = 1000000 ∧ h2 91 v = -6 ∧ h2 92 v = 1000000 ∧ h2 93 v = -6) → jm_BV E jm_SH jm_m_Mod_findCover 3 58 [some (jm_R 78), some (jm_I ((n : Int) - 1)), none, none, none] [] h2 K) :
    ∀ (i : Nat) (x1 : Int) (h1 : jm_H), i ≤ 2 * n → x1 = (i : Int) - 1 → h1 78 4 = n → (∀ v, i ≤ v → v < 2 * n → h1 90 v = 1000000 ∧ h1 91 v = -6 ∧ h1 92 v = 1000000 ∧ h1 93 v = -6) → (∀ u v, ¬ (90 ≤ u ∧ u ≤ 93) → h1 u v = h u v) → jm_BV E jm_SH jm_m_Mod_findCover 3 9 [some (jm_R 78), some (jm_I x1), none, none, none] [] h1 K
  | 0, x1, h1, hi, hx, h4, hv, hf => by
    refine jb_Mod_findCover_9 ⟨fun _ => ?_, fun w => by omega⟩
    rw [h4, jm_w (by omega) (by omega)]
    exact hk h1 hf (fun v hv2 => hv v (by omega) hv2)
  | i + 1, x1, h1, hi, hx, h4, hv, hf => by
    have hx2 : x1 = (i : Int) := by omega
    subst hx2
    refine jb_Mod_findCover_9 ⟨fun w => by omega, fun _ => ⟨by omega, by omega, by omega, by omega, ?_⟩⟩
    rw [jm_tn, jm_w (by omega) (by omega)]
    refine rm_find9 hn hk i _ _ (by omega) (by omega) ?_ (fun v z1 z2 => ?_) (fun u v z => ?_)
    · rw [up_o (by omega), up_o (by omega), up_o (by omega), up_o (by omega), h4]
    · by_cases e : v = i
      · subst e
        refine ⟨?_, ?_, ?_, ?_⟩
        · rw [up_o (by omega), up_o (by omega), up_o (by omega), up_s]
        · rw [up_o (by omega), up_o (by omega), up_s]
        · rw [up_o (by omega), up_s]
        · rw [up_s]
      · obtain ⟨a1, a2, a3, a4⟩ := hv v (by omega) z2
        refine ⟨?_, ?_, ?_, ?_⟩ <;> rw [up_o (by omega), up_o (by omega), up_o (by omega), up_o (by omega)] <;> assumption
    · rw [up_o (by omega), up_o (by omega), up_o (by omega), up_o (by omega)]
      exact hf u v z
theorem rm_findCover {K : jm_H → Prop} (hc : te_M h n f) (hp : pa_M h m g L) (ho : pa_ok m g L) (hk : ∀ h2 : jm_H, (∀ u v, ¬ (90 ≤ u ∧ u ≤ 93) → h2 u v = h u v) → cv_M h2 n m f g L n → K h2) : jm_CV E jm_SH jm_m_Mod_findCover 3 [jm_R 78] h K := by
  have hn := hc.2.1.1
  refine jb_Mod_findCover ?_
  rw [hc.1, jm_w (x := 2 * (n : Int)) (by omega) (by omega), jm_w (by omega) (by omega)]
  refine rm_find9 (h := h) hn (fun h2 c1 c2 => ?_) (2 * n) _ h (by omega) (by omega) hc.1 (fun v a b => by omega) (fun _ _ _ => rfl)
  exact rm_find58 (h := h) ho hk n 0 _ h2 (by omega) rfl (hc.fr fun u v z => c1 u v (by omega)) (hp.fr fun u v z => c1 u v (by omega)) ⟨fun a b z1 z2 z3 => by omega, fun v z => c2 v (by omega)⟩ c1
end MC
