/-! CODE: the reference's -/
def st_M (h : jm_H) (T : List (Int × Int × Int)) : Prop := h 78 22 = T.length ∧ ∀ j x, T[j]? = some x → h 94 j = x.1 ∧ h 95 j = x.2.1 ∧ h 96 j = x.2.2
def cl_M (h : jm_H) (l : List (Nat × Nat)) : Prop := h 78 25 = l.length ∧ ∀ j x, l[j]? = some x → h 97 j = (x.1 : Int) ∧ h 98 j = (x.2 : Int)
def tk_M (h : jm_H) (n m : Nat) (f : Nat → Int) (g : Nat → Nat → Int) (L : Nat → Nat) (PB CB : Nat → Nat → Int) : Prop := te_M h n f ∧ pa_M h m g L ∧ ∀ a b, a < n → b < 2 → h 91 (2 * a + b) = nb_ (PB a b) ∧ h 93 (2 * a + b) = nb_ (CB a b)
def sg_ (h h2 : jm_H) : Prop := ∀ u v, ¬ ((94 ≤ u ∧ u ≤ 96) ∨ (u = 78 ∧ v = 22)) → h2 u v = h u v
def tg_ (h h2 : jm_H) : Prop := ∀ u v, ¬ ((94 ≤ u ∧ u ≤ 98) ∨ (u = 78 ∧ (v = 22 ∨ v = 25))) → h2 u v = h u v
theorem sg_.rf {h : jm_H} : sg_ h h := fun _ _ _ => rfl
theorem sg_.tr {h h1 h2 : jm_H} (p : sg_ h h1) (q : sg_ h1 h2) : sg_ h h2 := fun a b z => (q a b z).trans (p a b z)
theorem sg_.tg {h h2 : jm_H} (p : sg_ h h2) : tg_ h h2 := fun a b z => p a b (by omega)
theorem tg_.tr {h h1 h2 : jm_H} (p : tg_ h h1) (q : tg_ h1 h2) : tg_ h h2 := fun a b z => (q a b z).trans (p a b z)
theorem tk_M.fr {h h2 : jm_H} {n m : Nat} {f : Nat → Int} {g : Nat → Nat → Int} {L : Nat → Nat} {PB CB : Nat → Nat → Int} (hT : tk_M h n m f g L PB CB) (q : tg_ h h2) : tk_M h2 n m f g L PB CB :=
  ⟨hT.1.fr fun u v z => q u v (by omega), hT.2.1.fr fun u v z => q u v (by omega), fun a b ha hb => by rw [q _ _ (by omega), q _ _ (by omega)]; exact hT.2.2 a b ha hb⟩
theorem cl_M.fr {h h2 : jm_H} {l : List (Nat × Nat)} (hl : cl_M h l) (q : sg_ h h2) : cl_M h2 l :=
  ⟨by rw [q _ _ (by omega)]; exact hl.1, fun j x hx => by rw [q _ _ (by omega), q _ _ (by omega)]; exact hl.2 j x hx⟩
theorem st_pop {h : jm_H} {T : List (Int × Int × Int)} {x : Int × Int × Int} (hs : st_M h (T ++ [x])) : h 78 22 = (T.length : Int) + 1 ∧ h 94 T.length = x.1 ∧ h 95 T.length = x.2.1 ∧ h 96 T.length = x.2.2 ∧ st_M (jm_up h 78 22 T.length) T := by
  refine ⟨by rw [hs.1]; simp, (hs.2 T.length x (by simp)).1, (hs.2 T.length x (by simp)).2.1, (hs.2 T.length x (by simp)).2.2, up_s, fun j y hy => ?_⟩
  rw [up_o (by omega), up_o (by omega), up_o (by omega)]
  have hj : j < T.length := (List.getElem?_eq_some_iff.mp hy).1
  exact hs.2 j y (by rw [List.getElem?_append_left hj]; exact hy)
section MD
variable {E : jm_Env} {n m : Nat} {f : Nat → Int} {g : Nat → Nat → Int} {L : Nat → Nat} {C PB CB : Nat → Nat → Int}
theorem rm_later {h : jm_H} {x y z : Int} {T : List (Int × Int × Int)} {K : jm_H → Prop} (hs : st_M h T) (hn : T.length < 200) (hk : ∀ h2 : jm_H, st_M h2 (T ++ [(x, y, z)]) → sg_ h h2 → K h2) : jm_CV E jm_SH jm_m_Mod_later 0 [jm_R 78, jm_I x, jm_I y, jm_I z] h K := by
  refine jb_Mod_later ?_
  rw [hs.1]
  refine ⟨by omega, by omega, by omega, ?_⟩
  rw [jm_tn, jm_w (by omega) (by omega)]
  refine hk _ ⟨?_, fun j w hw => ?_⟩ (fun u v z => ?_)
  · rw [up_s]
    simp
  · rcases Nat.lt_trichotomy j T.length with c | c | c
    · rw [List.getElem?_append_left c] at hw
      obtain ⟨a1, a2, a3⟩ := hs.2 j w hw
      refine ⟨?_, ?_, ?_⟩ <;> rw [up_o (by omega), up_o (by omega), up_o (by omega), up_o (by omega)] <;> assumption
    · subst c
      simp at hw
      subst hw
      refine ⟨?_, ?_, ?_⟩
      · rw [up_o (by omega), up_o (by omega), up_o (by omega), up_s]
      · rw [up_o (by omega), up_o (by omega), up_s]
      · rw [up_o (by omega), up_s]
    · rw [List.getElem?_eq_none (by simp; omega)] at hw
      cases hw
  · rw [up_o (by omega), up_o (by omega), up_o (by omega), up_o (by omega)]
def vr_ (r : Nat) (xs : Nat → Int × Int) (s j : Nat) : Int × Int := if j < s ∨ r ≤ j + s then xs (r - 1 - j) else xs j
theorem rm_rev {r t : Nat} {xs : Nat → Int × Int} {K : jm_H → Prop} (hrt : t + r ≤ 200) {h : jm_H} (hk : ∀ h2 : jm_H, (∀ j, j < r → h2 94 (t + j) = (xs (r - 1 - j)).1 ∧ h2 95 (t + j) = (xs (r - 1 - j)).2) → (∀ u v, ¬ ((u = 94 ∨ u = 95) ∧ t ≤ v ∧ v < t + r) → h2 u v = h u v) → K h2) :
    ∀ (q s : Nat) (x5 x6 : Int) (h1 : jm_H), r ≤ q + 2 * s → x5 = (t : Int) + s → x6 = (t : Int) + r - 1 - s → (∀ j, j < r → h1 94 (t + j) = (vr_ r xs s j).1 ∧ h1 95 (t + j) = (vr_ r xs s j).2) → (∀ u v, ¬ ((u = 94 ∨ u = 95) ∧ t ≤ v ∧ v < t + r) → h1 u v = h u v) → jm_BV E jm_SH jm_m_Mod_laterParts 2 115 [some (jm_R 78), none, none, none, none, some (jm_I x5), some (jm_I x6), none, none] [] h1 K := by
  intro q
  induction q using Nat.strongRecOn with
  | ind q ih =>
    intro s x5 x6 h1 hq h5 h6 hv hf
    refine jb_Mod_laterParts_115 ⟨fun w => hk h1 (fun j hj => ?_) hf, fun w => ⟨by omega, by omega, by omega, by omega, by omega, by omega, by omega, by omega, ?_⟩⟩
    · rw [(hv j hj).1, (hv j hj).2]
      unfold vr_
      by_cases c : j < s ∨ r ≤ j + s
      · rw [if_pos c]
        exact ⟨rfl, rfl⟩
      · rw [if_neg c, show r - 1 - j = j by omega]
        exact ⟨rfl, rfl⟩
    · have e5 : x5.toNat = t + s := by omega
      have e6 : x6.toNat = t + (r - 1 - s) := by omega
      obtain ⟨a1, a2⟩ := hv s (by omega)
      obtain ⟨b1, b2⟩ := hv (r - 1 - s) (by omega)
      have v1 : vr_ r xs s s = xs s := by
        unfold vr_
        rw [if_neg (by omega)]
      have v2 : vr_ r xs s (r - 1 - s) = xs (r - 1 - s) := by
        unfold vr_
        rw [if_neg (by omega)]
      rw [v1] at a1 a2
      rw [v2] at b1 b2
      rw [e5, e6, a1, a2, b1, b2, jm_w (by omega) (by omega), jm_w (by omega) (by omega)]
      refine ih (q - 2) (by omega) (s + 1) _ _ _ (by omega) (by omega) (by omega) (fun j hj => ?_) (fun u v z => ?_)
      · by_cases c1 : j = s
        · subst c1
          have : vr_ r xs (j + 1) j = xs (r - 1 - j) := by
            unfold vr_
            rw [if_pos (by omega)]
          rw [this]
          constructor
          · rw [up_o (by omega), up_o (by omega), up_o (by omega), up_s]
          · rw [up_o (by omega), up_o (by omega), up_s]
        · by_cases c2 : j = r - 1 - s
          · subst c2
            have : vr_ r xs (s + 1) (r - 1 - s) = xs s := by
              unfold vr_
              rw [if_pos (by omega), show r - 1 - (r - 1 - s) = s by omega]
            rw [this]
            constructor
            · rw [up_o (by omega), up_s]
            · rw [up_s]
          · have : vr_ r xs (s + 1) j = vr_ r xs s j := by
              unfold vr_
              by_cases c : j < s ∨ r ≤ j + s
              · rw [if_pos c, if_pos (by omega)]
              · rw [if_neg c, if_neg (by omega)]
            rw [this, up_o (by omega), up_o (by omega), up_o (by omega), up_o (by omega), up_o (by omega), up_o (by omega), up_o (by omega), up_o (by omega)]
            exact hv j hj
      · rw [up_o (by omega), up_o (by omega), up_o (by omega), up_o (by omega)]
        exact hf u v z
/-- a head, as it waits -/
def hi_ (q : Nat × Nat) : Int × Int × Int := ((q.1 : Int), (q.2 : Int), -6)
theorem rm_parts41 {p nd : Nat} {T : List (Int × Int × Int)} {K : jm_H → Prop} {h : jm_H} (ho : pa_ok m g L) (hC : ∀ a b, 0 ≤ C a b) (hpm : p < m) (hk : ∀ (X : List (Nat × Nat)) (h2 : jm_H), X = hl_ (te_S f n) (fun i => g p (i + 2)) (L p) 0 nd → st_M h2 (T ++ (X.map hi_).reverse) → sg_ h h2 → K h2) :
    ∀ (e i a kk l : Nat) (s x4 x5 : Int) (X : List (Nat × Nat)) (h1 : jm_H), e + i = L p → x4 = a → x5 = i → 0 ≤ s → sp_ (fun i => g p (i + 2)) e l i → sp_ f kk l a → a + kk ≤ n → cw_ f (te_S f n) C (fun i => g p (i + 2)) e i a s < 1000000 → te_M h1 n f → pa_M h1 m g L → st_M h1 (T ++ X.map hi_) → sg_ h h1 → T.length + X.length + kk ≤ 199 → X ++ hl_ (te_S f n) (fun i => g p (i + 2)) e i a = hl_ (te_S f n) (fun i => g p (i + 2)) (L p) 0 nd →
      jm_BV E jm_SH jm_m_Mod_laterParts 2 41 [some (jm_R 78), some (jm_I p), none, some (jm_I T.length), some (jm_I x4), some (jm_I x5), none, none, none] [] h1 K
  | 0, i, a, kk, l, s, x4, x5, X, h1, he, h4, h5, hs, hsp, hsf, hak, hw, hc, hp, hst, hf, hcap, hX => by
    have hm := hp.2.1
    obtain ⟨e0, e1, e2, e3⟩ := hp.2.2 p hpm
    have eX : X = hl_ (te_S f n) (fun i => g p (i + 2)) (L p) 0 nd := by
      rw [← hX]
      simp [hl_]
    refine jb_Mod_laterParts_41 ⟨by omega, ?_⟩
    rw [jm_tn, e2]
    refine ⟨fun _ => ?_, fun w => by omega⟩
    have hlen : h1 78 22 = ((T.length + X.length : Nat) : Int) := by
      rw [hst.1]
      simp
    rw [hlen, jm_w (by omega) (by omega)]
    have get : ∀ j (hj : j < X.length), (T ++ X.map hi_)[T.length + j]? = some (hi_ X[j]) := fun j hj => by
      rw [List.getElem?_append_right (by omega), show T.length + j - T.length = j by omega, List.getElem?_map, List.getElem?_eq_getElem hj]
      rfl
    refine rm_rev (r := X.length) (t := T.length) (xs := fun j => ((X.getD j (0, 0)).1, (X.getD j (0, 0)).2)) (h := h1) (by omega) (fun h2 c1 c2 => hk X h2 eX ⟨?_, fun j x hx => ?_⟩ (fun u v z => ?_)) X.length 0 _ _ h1 (by omega) (by omega) (by omega) (fun j hj => ?_) (fun _ _ _ => rfl)
    · rw [c2 _ _ (by omega), hlen]
      simp
    · by_cases cj : j < T.length
      · rw [List.getElem?_append_left cj] at hx
        rw [c2 _ _ (by omega), c2 _ _ (by omega), c2 _ _ (by omega)]
        exact hst.2 j x (by rw [List.getElem?_append_left cj]; exact hx)
      · rw [List.getElem?_append_right (by omega)] at hx
        have hj2 : j - T.length < X.length := by
          have := (List.getElem?_eq_some_iff.mp hx).1
          simpa using this
        rw [List.getElem?_reverse (by simpa using hj2), List.length_map, List.getElem?_map, List.getElem?_eq_getElem (by omega)] at hx
        cases hx
        have d := c1 (j - T.length) hj2
        rw [show T.length + (j - T.length) = j by omega] at d
        have e96 := (hst.2 _ _ (get (j - T.length) hj2)).2.2
        rw [show T.length + (j - T.length) = j by omega] at e96
        have eg : X.getD (X.length - 1 - (j - T.length)) (0, 0) = X[X.length - 1 - (j - T.length)] := by
          rw [List.getD_eq_getElem?_getD, List.getElem?_eq_getElem (by omega)]
          rfl
        rw [eg] at d
        refine ⟨d.1, d.2, ?_⟩
        rw [c2 _ _ (by omega), e96]
        rfl
    · rw [c2 u v (by omega)]
      exact hf u v z
    · have eg : X.getD j (0, 0) = X[j] := by
        rw [List.getD_eq_getElem?_getD, List.getElem?_eq_getElem hj]
        rfl
      have g1 := hst.2 _ _ (get j hj)
      unfold vr_
      rw [if_neg (by omega)]
      show _ = ((X.getD j (0, 0)).1 : Int) ∧ _ = ((X.getD j (0, 0)).2 : Int)
      rw [eg]
      exact ⟨g1.1, g1.2.1⟩
  | e + 1, i, a, kk, l, s, x4, x5, X, h1, he, h4, h5, hs, hsp, hsf, hak, hw, hc, hp, hst, hf, hcap, hX => by
    subst h4
    subst h5
    have hm := hp.2.1
    have hn := hc.2.1.1
    have ht := te_S_ok hc.2.1
    obtain ⟨e0, e1, e2, e3⟩ := hp.2.2 p hpm
    have hL := (ho p hpm).2.2.1
    obtain ⟨han, hk1, st1, st0⟩ := hl_step ht hC hsp hsf hak hs hw
    refine jb_Mod_laterParts_41 ⟨by omega, ?_⟩
    rw [jm_tn, e2, jm_w (x := 12 * (p : Int)) (by omega) (by omega), jm_w (x := 12 * (p : Int) + (i : Int)) (by omega) (by omega), show 12 * (p : Int) + (i : Int) = ((12 * p + i : Nat) : Int) by omega, jm_tn, e3 i (by omega)]
    refine ⟨fun w => by omega, fun _ => ⟨by omega, rm_hd fun v v1 v2 => ?_⟩⟩
    by_cases hh : 0 ≤ hd_ (g p (i + 2))
    · obtain ⟨y, y1, y2, y3, y4, y5, l2, y6, y7, y8⟩ := st1 hh
      have ev := v1 hh
      rw [y2] at ev
      subst ev
      refine ⟨fun w => by omega, fun _ => rm_later hst (by simp; omega) fun h2 c1 c2 => ?_⟩
      have hc2 := hc.fr (h2 := h2) fun u v z => c2 u v (by omega)
      have hp2 := hp.fr (h2 := h2) fun u v z => c2 u v (by omega)
      refine rm_endOf hc2 han ?_
      rw [jm_w (by omega) (by omega)]
      have ee : hl_ (te_S f n) (fun i => g p (i + 2)) (e + 1) i a = (a, y) :: hl_ (te_S f n) (fun i => g p (i + 2)) e (i + 1) (a + te_S f n a) := by
        show (if _ then _ else _) = _
        rw [if_pos (show 0 ≤ hd_ (g p (i + 2)) from hh)]
        show (a, (hd_ (g p (i + 2))).toNat) :: _ = _
        rw [y2]
        rfl
      have hCa := hC a y
      refine rm_parts41 ho hC hpm hk e (i + 1) (a + te_S f n a) (kk - te_S f n a) l2 (s + C a y) _ _ (X ++ [(a, y)]) h2 (by omega) rfl (by omega) (by omega) y6 y7 (by omega) y8 hc2 hp2 ?_ (hf.tr c2) (by simp; omega) ?_
      · simpa [hi_] using c1
      · rw [ee] at hX
        simpa using hX
    · obtain ⟨l2, y6, y7, y8⟩ := st0 hh
      have ev := v2 (by omega)
      refine ⟨fun _ => ?_, fun w => by omega⟩
      rw [jm_w (by omega) (by omega), jm_w (by omega) (by omega)]
      have ee : hl_ (te_S f n) (fun i => g p (i + 2)) (e + 1) i a = hl_ (te_S f n) (fun i => g p (i + 2)) e (i + 1) (a + 1) := by
        show (if _ then _ else _) = _
        rw [if_neg (show ¬ 0 ≤ hd_ (g p (i + 2)) from hh)]
      exact rm_parts41 ho hC hpm hk e (i + 1) (a + 1) (kk - 1) l2 s _ _ X h1 (by omega) (by omega) (by omega) hs y6 y7 (by omega) y8 hc hp hst hf (by omega) (by rw [ee] at hX; exact hX)
/-- a row that is due -/
theorem rm_due {h : jm_H} {a p : Nat} {T : List (Int × Int × Int)} {l : List (Nat × Nat)} {K : jm_H → Prop} (hs : st_M h (T ++ [((a : Int), -1, (p : Int))])) (hT : T.length < 200) (hl : cl_M h l) (hn : l.length < 100) (hk : ∀ h2 : jm_H, st_M h2 T → cl_M h2 (l ++ [(p, a)]) → tg_ h h2 → jm_BV E jm_SH jm_m_Mod_findCode 3 18 [some (jm_R 78), none, none, none] [] h2 K) : jm_BV E jm_SH jm_m_Mod_findCode 3 18 [some (jm_R 78), none, none, none] [] h K := by
  obtain ⟨s1, s2, s3, s4, s5⟩ := st_pop hs
  refine jb_Mod_findCode_18 ?_
  rw [s1, jm_w (x := (T.length : Int) + 1 - 1) (by omega) (by omega), show (T.length : Int) + 1 - 1 = T.length by omega, jm_tn, s2, s3, s4, hl.1, jm_tn, jm_w (x := (l.length : Int) + 1) (by omega) (by omega)]
  refine ⟨fun w => by omega, fun _ => ⟨by omega, by omega, fun w => absurd w (by simp), fun _ => ⟨by omega, by omega, by omega, ?_⟩⟩⟩
  refine hk _ ⟨?_, fun j x hx => ?_⟩ ⟨?_, fun j x hx => ?_⟩ (fun u v z => ?_)
  · rw [up_o (by omega), up_o (by omega), up_o (by omega), up_s]
  · rw [up_o (by omega), up_o (by omega), up_o (by omega), up_o (by omega), up_o (by omega), up_o (by omega), up_o (by omega), up_o (by omega), up_o (by omega)]
    exact s5.2 j x hx
  · rw [up_s]
    simp
  · rw [up_o (by omega), up_o (by omega)]
    rcases Nat.lt_trichotomy j l.length with w | w | w
    · rw [List.getElem?_append_left w] at hx
      rw [up_o (by omega), up_o (by omega), up_o (by omega), up_o (by omega), up_o (by omega)]
      exact hl.2 j x hx
    · subst w
      simp at hx
      subst hx
      rw [up_s, up_o (by omega), up_s]
      exact ⟨rfl, rfl⟩
    · rw [List.getElem?_eq_none (by simp; omega)] at hx
      cases hx
  · rw [up_o (by omega), up_o (by omega), up_o (by omega), up_o (by omega)]
/-- the heads one after the other -/
theorem rm_heads {k p nd : Nat} {T : List (Int × Int × Int)} {K : jm_H → Prop} (ht : tr_ f n (te_S f n)) (ho : pa_ok m g L) (hq : cq_ n m f (te_S f n) g L C PB CB) (hpm : p < m) (hch : ¬ ch_p g L p) (hnd : nd < n) (hk : te_S f n nd ≤ k + 1)
    (HB : ∀ (a b : Nat) (T : List (Int × Int × Int)) (l : List (Nat × Nat)) (h : jm_H), a < n → b < 2 → 0 ≤ CB a b → te_S f n a ≤ k → tk_M h n m f g L PB CB → st_M h (T ++ [((a : Int), (b : Int), -6)]) → cl_M h l → l.length + 2 * te_S f n a ≤ 60 → T.length + 2 * te_S f n a + 1 ≤ 199 → (∀ h2 : jm_H, st_M h2 T → cl_M h2 (l ++ tl_ g L CB (cd_ (te_S f n) g L PB CB k) a b) → tg_ h h2 → jm_BV E jm_SH jm_m_Mod_findCode 3 18 [some (jm_R 78), none, none, none] [] h2 K) → jm_BV E jm_SH jm_m_Mod_findCode 3 18 [some (jm_R 78), none, none, none] [] h K) :
    ∀ (e i a kk l : Nat) (s : Int) (q : List (Nat × Nat)) (h : jm_H), e + i = L p → 0 ≤ s → sp_ (fun i => g p (i + 2)) e l i → sp_ f kk l a → a + kk = nd + te_S f n nd → nd ≤ a → (a = nd → i = 0) → cw_ f (te_S f n) C (fun i => g p (i + 2)) e i a s < 1000000 → tk_M h n m f g L PB CB → st_M h (T ++ ((hl_ (te_S f n) (fun i => g p (i + 2)) e i a).map hi_).reverse) → cl_M h q → q.length + 2 * kk + 1 ≤ 60 + (if a = nd then 2 else 0) → q.length < 60 → T.length + 2 * te_S f n nd ≤ 200 →
      (∀ h2 : jm_H, st_M h2 T → cl_M h2 (q ++ (hl_ (te_S f n) (fun i => g p (i + 2)) e i a).flatMap (fun q => tl_ g L CB (cd_ (te_S f n) g L PB CB k) q.1 q.2)) → tg_ h h2 → jm_BV E jm_SH jm_m_Mod_findCode 3 18 [some (jm_R 78), none, none, none] [] h2 K) →
      jm_BV E jm_SH jm_m_Mod_findCode 3 18 [some (jm_R 78), none, none, none] [] h K
  | 0, i, a, kk, l, s, q, h, he, hs, hsp, hsf, hak, hna, hni, hw, hT, hst, hl, hcap, hq60, hTc, hkk => by
    refine hkk h ?_ ?_ (fun _ _ _ => rfl)
    · simpa [hl_] using hst
    · simpa [hl_] using hl
  | e + 1, i, a, kk, l, s, q, h, he, hs, hsp, hsf, hak, hna, hni, hw, hT, hst, hl, hcap, hq60, hTc, hkk => by
    have hnd2 := (ht nd hnd).2
    obtain ⟨han, hk1, st1, st0⟩ := hl_step ht hq.1 hsp hsf (by omega) hs hw
    by_cases hh : 0 ≤ hd_ (g p (i + 2))
    · obtain ⟨y, y1, y2, y3, y4, y5, l2, y6, y7, y8⟩ := st1 hh
      have hna2 : ¬ a = nd := fun w => by
        have := hni w
        subst this
        exact ch_0 ho hpm hch hh
      rw [if_neg hna2] at hcap
      have ee : hl_ (te_S f n) (fun i => g p (i + 2)) (e + 1) i a = (a, y) :: hl_ (te_S f n) (fun i => g p (i + 2)) e (i + 1) (a + te_S f n a) := by
        show (if _ then _ else _) = _
        rw [if_pos (show 0 ≤ hd_ (g p (i + 2)) from hh)]
        show (a, (hd_ (g p (i + 2))).toNat) :: _ = _
        rw [y2]
        rfl
      have hCB := hq.2.2.2 a y han y1 y3
      have hCa := hq.1 a y
      have tlen := tl_len ht ho hq (k := k) han y1 hCB (by omega)
      -- how many wait below
      have hlen : ∀ (d i a kk l : Nat) (s : Int), 0 ≤ s → sp_ (fun i => g p (i + 2)) d l i → sp_ f kk l a → a + kk ≤ n → cw_ f (te_S f n) C (fun i => g p (i + 2)) d i a s < 1000000 → (hl_ (te_S f n) (fun i => g p (i + 2)) d i a).length ≤ kk := by
        intro d
        induction d with
        | zero => intro i a kk l s _ _ _ _ _; exact Nat.zero_le _
        | succ d ih =>
          intro i a kk l s hs hsp hsf hak hw
          obtain ⟨z0, z1, z2, z3⟩ := hl_step ht hq.1 hsp hsf hak hs hw
          by_cases hh : 0 ≤ hd_ (g p (i + 2))
          · obtain ⟨y, y1, y2, y3, y4, y5, l2, y6, y7, y8⟩ := z2 hh
            have hCa := hq.1 a y
            have := ih (i + 1) (a + te_S f n a) (kk - te_S f n a) l2 _ (by omega) y6 y7 (by omega) y8
            have ee : hl_ (te_S f n) (fun i => g p (i + 2)) (d + 1) i a = (a, (hd_ (g p (i + 2))).toNat) :: hl_ (te_S f n) (fun i => g p (i + 2)) d (i + 1) (a + te_S f n a) := by
              show (if _ then _ else _) = _
              rw [if_pos (show 0 ≤ hd_ (g p (i + 2)) from hh)]
            rw [ee]
            simp only [List.length_cons]
            omega
          · obtain ⟨l2, y6, y7, y8⟩ := z3 hh
            have := ih (i + 1) (a + 1) (kk - 1) l2 _ hs y6 y7 (by omega) y8
            have ee : hl_ (te_S f n) (fun i => g p (i + 2)) (d + 1) i a = hl_ (te_S f n) (fun i => g p (i + 2)) d (i + 1) (a + 1) := by
              show (if _ then _ else _) = _
              rw [if_neg (show ¬ 0 ≤ hd_ (g p (i + 2)) from hh)]
            rw [ee]
            omega
      have hl2 := hlen e (i + 1) (a + te_S f n a) (kk - te_S f n a) l2 _ (by omega) y6 y7 (by omega) y8
      rw [ee] at hst hkk
      have hst2 : st_M h ((T ++ ((hl_ (te_S f n) (fun i => g p (i + 2)) e (i + 1) (a + te_S f n a)).map hi_).reverse) ++ [((a : Int), (y : Int), -6)]) := by
        simpa [hi_] using hst
      refine HB a y _ q h han y1 hCB (by omega) hT hst2 hl (by omega) (by simp; omega) fun h2 c1 c2 c3 => ?_
      refine rm_heads ht ho hq hpm hch hnd hk HB e (i + 1) (a + te_S f n a) (kk - te_S f n a) l2 (s + C a y) _ h2 (by omega) (by omega) y6 y7 (by omega) (by omega) (by omega) y8 (hT.fr c3) c1 c2 ?_ ?_ hTc (fun h4 d1 d2 d3 => hkk h4 d1 ?_ (c3.tr d3))
      · rw [if_neg (by omega)]
        simp
        omega
      · simp
        omega
      · simpa using d2
    · obtain ⟨l2, y6, y7, y8⟩ := st0 hh
      have ee : hl_ (te_S f n) (fun i => g p (i + 2)) (e + 1) i a = hl_ (te_S f n) (fun i => g p (i + 2)) e (i + 1) (a + 1) := by
        show (if _ then _ else _) = _
        rw [if_neg (show ¬ 0 ≤ hd_ (g p (i + 2)) from hh)]
      rw [ee] at hst hkk
      refine rm_heads ht ho hq hpm hch hnd hk HB e (i + 1) (a + 1) (kk - 1) l2 s q h (by omega) hs y6 y7 (by omega) (by omega) (by omega) y8 hT hst hl ?_ hq60 hTc hkk
      rw [if_neg (by omega)]
      split at hcap <;> omega
/-- once a node's plain pattern is known: what is due, then its heads -/
theorem rm_core {k p a : Nat} {T : List (Int × Int × Int)} {l : List (Nat × Nat)} {h h1 : jm_H} {K : jm_H → Prop} (ho : pa_ok m g L) (hq : cq_ n m f (te_S f n) g L C PB CB) (hpm : p < m) (hch : ¬ ch_p g L p) (ha : a < n) (hk : te_S f n a ≤ k + 1) (hw : cw_ f (te_S f n) C (fun i => g p (i + 2)) (L p) 0 a (g p 1) < 1000000)
    (HB : ∀ (a b : Nat) (T : List (Int × Int × Int)) (l : List (Nat × Nat)) (h : jm_H), a < n → b < 2 → 0 ≤ CB a b → te_S f n a ≤ k → tk_M h n m f g L PB CB → st_M h (T ++ [((a : Int), (b : Int), -6)]) → cl_M h l → l.length + 2 * te_S f n a ≤ 60 → T.length + 2 * te_S f n a + 1 ≤ 199 → (∀ h2 : jm_H, st_M h2 T → cl_M h2 (l ++ tl_ g L CB (cd_ (te_S f n) g L PB CB k) a b) → tg_ h h2 → jm_BV E jm_SH jm_m_Mod_findCode 3 18 [some (jm_R 78), none, none, none] [] h2 K) → jm_BV E jm_SH jm_m_Mod_findCode 3 18 [some (jm_R 78), none, none, none] [] h K)
    (hT : tk_M h1 n m f g L PB CB) (hs : st_M h1 T) (hl : cl_M h1 l) (hcap : l.length + (2 * te_S f n a - 1) ≤ 60) (hcap2 : T.length + 2 * te_S f n a ≤ 199) (hf : tg_ h h1)
    (hkk : ∀ h2 : jm_H, st_M h2 T → cl_M h2 (l ++ ((hl_ (te_S f n) (fun i => g p (i + 2)) (L p) 0 a).flatMap (fun q => tl_ g L CB (cd_ (te_S f n) g L PB CB k) q.1 q.2) ++ [(p, a)])) → tg_ h h2 → jm_BV E jm_SH jm_m_Mod_findCode 3 18 [some (jm_R 78), none, none, none] [] h2 K) :
    jm_CV E jm_SH jm_m_Mod_later 0 [jm_R 78, jm_I a, jm_I (-1), jm_I p] h1 (fun h7 => jm_CV E jm_SH jm_m_Mod_laterParts 2 [jm_R 78, jm_I p, jm_I a] h7 (fun h8 => jm_BV E jm_SH jm_m_Mod_findCode 3 18 [some (jm_R 78), none, none, none] [] h8 K)) := by
  have ht := te_S_ok hT.1.2.1
  have hS := sp_pos (ht a ha).1
  have hSn := (ht a ha).2
  have hn := hT.1.2.1.1
  have hok := ho p hpm
  refine rm_later hs (by omega) fun h2 c1 c2 => ?_
  have hT2 := hT.fr c2.tg
  have hl2 := hl.fr c2
  refine jb_Mod_laterParts (rm_chain hT2.2.1 hpm (fun ch => absurd ch hch) (fun _ => ⟨fun _ => ?_, fun w => absurd rfl w⟩))
  rw [c1.1]
  refine rm_parts41 (h := h2) (nd := a) (T := T ++ [((a : Int), -1, (p : Int))]) ho hq.1 hpm (fun X h3 eX d1 d2 => ?_) (L p) 0 a (te_S f n a) 1 (g p 1) _ _ [] h2 rfl rfl rfl hok.2.1.1 hok.2.2.2 (ht a ha).1 hSn hw hT2.1 hT2.2.1 (by simpa using c1) sg_.rf (by simp; omega) (by simp)
  subst eX
  have hT3 := hT2.fr d2.tg
  refine rm_heads ht ho hq hpm hch ha hk HB (L p) 0 a (te_S f n a) 1 (g p 1) l h3 rfl hok.2.1.1 hok.2.2.2 (ht a ha).1 rfl (Nat.le_refl _) (fun _ => rfl) hw hT3 d1 (hl2.fr d2) ?_ (by omega) (by simp; omega) (fun h4 e1 e2 e3 => ?_)
  · rw [if_pos rfl]
    omega
  · have hlen := cd_len ht ho hq
    refine rm_due e1 (by omega) e2 ?_ (fun h5 g1 g2 g3 => hkk h5 g1 ?_ (((hf.tr c2.tg).tr d2.tg).tr (e3.tr g3)))
    · -- as long as a row of this node could be
      have walk : ∀ (d i a2 kk l : Nat) (s : Int), 0 ≤ s → sp_ (fun i => g p (i + 2)) d l i → sp_ f kk l a2 → a2 + kk = a + te_S f n a → a ≤ a2 → (a2 = a → i = 0) → cw_ f (te_S f n) C (fun i => g p (i + 2)) d i a2 s < 1000000 → ((hl_ (te_S f n) (fun i => g p (i + 2)) d i a2).flatMap (fun q => tl_ g L CB (cd_ (te_S f n) g L PB CB k) q.1 q.2)).length ≤ 2 * kk := by
        intro d
        induction d with
        | zero =>
          intro i a2 kk l s _ _ _ _ _ _ _
          show (List.flatMap _ []).length ≤ _
          simp
        | succ d ih =>
          intro i a2 kk l s hs hsp hsf he hna hni hw
          obtain ⟨han, hk1, st1, st0⟩ := hl_step ht hq.1 hsp hsf (by omega) hs hw
          by_cases hh : 0 ≤ hd_ (g p (i + 2))
          · obtain ⟨y, y1, y2, y3, y4, y5, l2, y6, y7, y8⟩ := st1 hh
            have hna2 : ¬ a2 = a := fun w => by
              have := hni w
              subst this
              exact ch_0 ho hpm hch hh
            have e : hl_ (te_S f n) (fun i => g p (i + 2)) (d + 1) i a2 = (a2, y) :: hl_ (te_S f n) (fun i => g p (i + 2)) d (i + 1) (a2 + te_S f n a2) := by
              show (if _ then _ else _) = _
              rw [if_pos (show 0 ≤ hd_ (g p (i + 2)) from hh)]
              show (a2, (hd_ (g p (i + 2))).toNat) :: _ = _
              rw [y2]
              rfl
            have hsC := hq.1 a2 y
            have r := ih (i + 1) (a2 + te_S f n a2) (kk - te_S f n a2) l2 _ (by omega) y6 y7 (by omega) (by omega) (by omega) y8
            have t := tl_len ht ho hq (k := k) han y1 (hq.2.2.2 a2 y han y1 y3) (by omega)
            rw [e]
            simp only [List.flatMap_cons, List.length_append]
            omega
          · obtain ⟨l2, y6, y7, y8⟩ := st0 hh
            have e : hl_ (te_S f n) (fun i => g p (i + 2)) (d + 1) i a2 = hl_ (te_S f n) (fun i => g p (i + 2)) d (i + 1) (a2 + 1) := by
              show (if _ then _ else _) = _
              rw [if_neg (show ¬ 0 ≤ hd_ (g p (i + 2)) from hh)]
            have r := ih (i + 1) (a2 + 1) (kk - 1) l2 _ hs y6 y7 (by omega) (by omega) (by omega) y8
            rw [e]
            omega
      have := walk (L p) 0 a (te_S f n a) 1 (g p 1) hok.2.1.1 hok.2.2.2 (ht a ha).1 rfl (Nat.le_refl _) (fun _ => rfl) hw
      simp only [List.length_append]
      omega
    · simpa using g2
/-- a node that waits to be plainly covered -/
def pi_P (E : jm_Env) (n m : Nat) (f : Nat → Int) (g : Nat → Nat → Int) (L : Nat → Nat) (PB CB : Nat → Nat → Int) (K : jm_H → Prop) (k : Nat) : Prop := ∀ (a b : Nat) (T : List (Int × Int × Int)) (l : List (Nat × Nat)) (h : jm_H), a < n → b < 2 → 0 ≤ PB a b → te_S f n a ≤ k → tk_M h n m f g L PB CB → st_M h (T ++ [((a : Int), 2 + (b : Int), -6)]) → cl_M h l → l.length + (2 * te_S f n a - 1) ≤ 60 → T.length + 2 * te_S f n a ≤ 199 → (∀ h2 : jm_H, st_M h2 T → cl_M h2 (l ++ cd_ (te_S f n) g L PB CB k a b) → tg_ h h2 → jm_BV E jm_SH jm_m_Mod_findCode 3 18 [some (jm_R 78), none, none, none] [] h2 K) → jm_BV E jm_SH jm_m_Mod_findCode 3 18 [some (jm_R 78), none, none, none] [] h K
/-- a node that waits to be covered -/
def pi_C (E : jm_Env) (n m : Nat) (f : Nat → Int) (g : Nat → Nat → Int) (L : Nat → Nat) (PB CB : Nat → Nat → Int) (K : jm_H → Prop) (k : Nat) : Prop := ∀ (a b : Nat) (T : List (Int × Int × Int)) (l : List (Nat × Nat)) (h : jm_H), a < n → b < 2 → 0 ≤ CB a b → te_S f n a ≤ k → tk_M h n m f g L PB CB → st_M h (T ++ [((a : Int), (b : Int), -6)]) → cl_M h l → l.length + 2 * te_S f n a ≤ 60 → T.length + 2 * te_S f n a + 1 ≤ 199 → (∀ h2 : jm_H, st_M h2 T → cl_M h2 (l ++ tl_ g L CB (cd_ (te_S f n) g L PB CB k) a b) → tg_ h h2 → jm_BV E jm_SH jm_m_Mod_findCode 3 18 [some (jm_R 78), none, none, none] [] h2 K) → jm_BV E jm_SH jm_m_Mod_findCode 3 18 [some (jm_R 78), none, none, none] [] h K
theorem rm_plainItem (ho : pa_ok m g L) (hq : cq_ n m f (te_S f n) g L C PB CB) {K : jm_H → Prop} {k : Nat} (HC : pi_C E n m f g L PB CB K k) : pi_P E n m f g L PB CB K (k + 1) := by
  intro a b T l h ha hb hp hk hT hs hl hcap hcap2 hkk
  have hn := hT.1.2.1.1
  have ht := te_S_ok hT.1.2.1
  obtain ⟨p1, p2, p3⟩ := hq.2.1 a b ha hb hp
  have v1 := (hT.2.2 a b ha hb).1
  rw [nb_p hp] at v1
  obtain ⟨s1, s2, s3, s4, s5⟩ := st_pop hs
  have s2' : h 94 T.length = (a : Int) := s2
  have s3' : h 95 T.length = 2 + (b : Int) := s3
  have hkk2 : ∀ h2 : jm_H, st_M h2 T → cl_M h2 (l ++ ((hl_ (te_S f n) (fun i => g (PB a b).toNat (i + 2)) (L (PB a b).toNat) 0 a).flatMap (fun q => tl_ g L CB (cd_ (te_S f n) g L PB CB k) q.1 q.2) ++ [((PB a b).toNat, a)])) → tg_ h h2 → jm_BV E jm_SH jm_m_Mod_findCode 3 18 [some (jm_R 78), none, none, none] [] h2 K := hkk
  refine jb_Mod_findCode_18 ?_
  rw [s1, jm_w (x := (T.length : Int) + 1 - 1) (by omega) (by omega), show (T.length : Int) + 1 - 1 = T.length by omega, jm_tn, s2', s3', jm_w (x := 2 * (a : Int)) (by omega) (by omega), jm_w (x := 2 * (a : Int) + (2 + (b : Int))) (by omega) (by omega), jm_w (x := 2 * (a : Int) + (2 + (b : Int)) - 2) (by omega) (by omega), show 2 * (a : Int) + (2 + (b : Int)) - 2 = ((2 * a + b : Nat) : Int) by omega, jm_tn, v1]
  refine ⟨fun w => by omega, fun _ => ⟨by omega, by omega, fun _ => ⟨fun _ => ⟨by omega, ?_⟩, fun w => by omega⟩, fun w => by omega⟩⟩
  obtain ⟨p, hpp⟩ : ∃ p : Nat, PB a b = (p : Int) := ⟨(PB a b).toNat, by omega⟩
  rw [hpp] at p1 p2 p3 hkk2 ⊢
  rw [jm_tn] at p2 p3 hkk2
  have e1 : sg_ h (jm_up h 78 22 T.length) := fun u v z => up_o (by omega)
  exact rm_core (k := k) ho hq (by omega) p2 ha hk p3 HC (hT.fr e1.tg) s5 (hl.fr e1) hcap hcap2 e1.tg hkk2
theorem rm_coverItem (ho : pa_ok m g L) (hq : cq_ n m f (te_S f n) g L C PB CB) {K : jm_H → Prop} {k : Nat} (HP : pi_P E n m f g L PB CB K (k + 1)) (HC : pi_C E n m f g L PB CB K k) : pi_C E n m f g L PB CB K (k + 1) := by
  intro x y T2 l2 h2 z1 z2 z3 z4 z5 z6 z7 z8 z9 z10
  have hn := z5.1.2.1.1
  have ht := te_S_ok z5.1.2.1
  have hS := sp_pos (ht x z1).1
  obtain ⟨c1, c2, c3⟩ := hq.2.2.1 x y z1 z2 z3
  have v2 := (z5.2.2 x y z1 z2).2
  rw [nb_p z3] at v2
  obtain ⟨t1, t2, t3, t4, t5⟩ := st_pop z6
  have t2' : h2 94 T2.length = (x : Int) := t2
  have t3' : h2 95 T2.length = (y : Int) := t3
  refine jb_Mod_findCode_18 ?_
  rw [t1, jm_w (x := (T2.length : Int) + 1 - 1) (by omega) (by omega), show (T2.length : Int) + 1 - 1 = T2.length by omega, jm_tn, t2', t3', jm_w (x := 2 * (x : Int)) (by omega) (by omega), jm_w (x := 2 * (x : Int) + (y : Int)) (by omega) (by omega), show 2 * (x : Int) + (y : Int) = ((2 * x + y : Nat) : Int) by omega, jm_tn, v2]
  refine ⟨fun w => by omega, fun _ => ⟨by omega, by omega, fun _ => ⟨fun w => by omega, fun _ => ⟨by omega, ?_⟩⟩, fun w => by omega⟩⟩
  have e2 : sg_ h2 (jm_up h2 78 22 T2.length) := fun u v z => up_o (by omega)
  have hT5 := z5.fr e2.tg
  unfold tl_ at z10
  obtain ⟨q, hqq⟩ : ∃ q : Nat, CB x y = (q : Int) := ⟨(CB x y).toNat, by omega⟩
  rw [hqq] at c1 c2 c3 z10 ⊢
  rw [jm_tn] at c2 c3 z10
  by_cases ch : ch_p g L q
  · have hbd := hd_b (g q 2)
    obtain ⟨w, hw⟩ : ∃ w : Nat, hd_ (g q 2) = (w : Int) := ⟨(hd_ (g q 2)).toNat, by have := ch.2; omega⟩
    have hwt : (hd_ (g q 2)).toNat = w := by omega
    rw [hwt] at c2 z10
    rw [if_pos ch] at z10
    have hm := z5.2.1.2.1
    refine rm_later t5 (by omega) fun h3 d1 d2 => ?_
    have hT6 := hT5.fr d2.tg
    obtain ⟨f0, f1, f2, f3⟩ := hT6.2.1.2.2 q (by omega)
    refine jb_Mod_laterParts (rm_chain hT6.2.1 (by omega) (fun _ => ⟨fun u => by omega, fun _ => ?_⟩) (fun nc => absurd ch nc))
    rw [jm_w (x := 12 * (q : Int)) (by omega) (by omega), show 12 * (q : Int) = ((12 * q : Nat) : Int) by omega, jm_tn]
    have e4 := f3 0 (by have := ch.1; omega)
    rw [Nat.add_zero] at e4
    rw [e4]
    refine ⟨by omega, rm_hd fun v u1 u2 => ?_⟩
    have ev : v = (w : Int) := by rw [← hw]; exact u1 ch.2
    subst ev
    rw [jm_w (x := 2 + (w : Int)) (by omega) (by omega)]
    refine rm_later d1 (by simp; omega) fun h4 d3 d4 => ?_
    have hl4 := ((z7.fr e2).fr d2).fr d4
    have hlen := cd_len ht ho hq (k + 1) x w z1 (by omega) (c2 ch) z4
    refine HP x w _ l2 h4 z1 (by omega) (c2 ch) z4 (hT6.fr d4.tg) d3 hl4 (by omega) (by simp; omega) (fun h5 g1 g2 g3 => ?_)
    refine rm_due g1 (by omega) g2 (by simp; omega) (fun h6 k1 k2 k3 => z10 h6 k1 ?_ (((e2.tr d2).tr d4).tg.tr (g3.tr k3)))
    simpa using k2
  · rw [if_neg ch] at z10
    have hPB : PB x y = (q : Int) := c3 ch
    obtain ⟨r1, r2, r3⟩ := hq.2.1 x y z1 z2 (by omega)
    rw [hPB, jm_tn] at r3
    have z11 : ∀ h6 : jm_H, st_M h6 T2 → cl_M h6 (l2 ++ ((hl_ (te_S f n) (fun i => g (PB x y).toNat (i + 2)) (L (PB x y).toNat) 0 x).flatMap (fun q => tl_ g L CB (cd_ (te_S f n) g L PB CB k) q.1 q.2) ++ [((PB x y).toNat, x)])) → tg_ h2 h6 → jm_BV E jm_SH jm_m_Mod_findCode 3 18 [some (jm_R 78), none, none, none] [] h6 K := z10
    rw [hPB, jm_tn] at z11
    exact rm_core (k := k) ho hq (by omega) ch z1 z4 r3 HC hT5 t5 (z7.fr e2) (by omega) (by omega) e2.tg z11
theorem rm_items (ho : pa_ok m g L) (hq : cq_ n m f (te_S f n) g L C PB CB) {K : jm_H → Prop} : ∀ k, pi_C E n m f g L PB CB K k
  | 0 => by
    intro a b T l h ha hb hp hk hT
    have := sp_pos ((te_S_ok hT.1.2.1) a ha).1
    omega
  | k + 1 => rm_coverItem ho hq (rm_plainItem ho hq (rm_items ho hq k)) (rm_items ho hq k)
theorem rm_findCode {h : jm_H} {K : jm_H → Prop} (ho : pa_ok m g L) (hq : cq_ n m f (te_S f n) g L C PB CB) (hT : tk_M h n m f g L PB CB) (hn : 0 < n) (hc : 0 ≤ CB 0 0) (hk : ∀ h2 : jm_H, cl_M h2 (tl_ g L CB (cd_ (te_S f n) g L PB CB n) 0 0) → tg_ h h2 → K h2) : jm_CV E jm_SH jm_m_Mod_findCode 3 [jm_R 78] h K := by
  have hn30 := hT.1.2.1.1
  have ht := te_S_ok hT.1.2.1
  have hS := (ht 0 hn).2
  have e0 : tg_ h (jm_up (jm_up h 78 25 0) 78 22 0) := fun u v z => by rw [up_o (by omega), up_o (by omega)]
  refine jb_Mod_findCode (rm_later (T := []) ⟨by rw [up_s]; rfl, fun j x hx => by simp at hx⟩ (by simp) fun h2 c1 c2 => ?_)
  have hl2 : cl_M h2 [] := ⟨by rw [c2 _ _ (by omega), up_o (by omega), up_s]; rfl, fun j x hx => by simp at hx⟩
  refine rm_items ho hq n 0 0 [] [] h2 hn (by omega) hc (by omega) ((hT.fr e0).fr c2.tg) c1 hl2 (by simp; omega) (by simp; omega) fun h3 d1 d2 d3 => ?_
  refine jb_Mod_findCode_18 ⟨fun _ => hk h3 (by simpa using d2) ((e0.tr c2.tg).tr d3), fun w => ?_⟩
  rw [d1.1] at w
  exact absurd w (by simp)
end MD
