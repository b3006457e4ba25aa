/-! COVER with chains; the class's -/
def co_v (g : Nat → Nat → Int) (L : Nat → Nat) (P B : Nat → Int) (b q : Nat) : Int := if ch_p g L q then g q 1 + P (hd_ (g q 2)).toNat else if B b = q then P b else 1000000
/-- the reference's way: one after the other -/
def co_ (g : Nat → Nat → Int) (L : Nat → Nat) (P B : Nat → Int) (b : Nat) : Nat → Int × Int
  | 0 => (1000000, -1)
  | q + 1 => if g q 0 = (b : Int) ∧ co_v g L P B b q < (co_ g L P B b q).1 then (co_v g L P B b q, (q : Int)) else co_ g L P B b q
/-- the class's way: chains alone, from the plain one on -/
def ck_ (g : Nat → Nat → Int) (L : Nat → Nat) (P B : Nat → Int) (b : Nat) : Nat → Int × Int
  | 0 => (P b, B b)
  | q + 1 => if ch_p g L q ∧ 0 ≤ B (hd_ (g q 2)).toNat ∧ g q 0 = (b : Int) ∧ (P (hd_ (g q 2)).toNat + g q 1 < (ck_ g L P B b q).1 ∨ (P (hd_ (g q 2)).toNat + g q 1 = (ck_ g L P B b q).1 ∧ (q : Int) < (ck_ g L P B b q).2)) then (P (hd_ (g q 2)).toNat + g q 1, (q : Int)) else ck_ g L P B b q
theorem co_b {g : Nat → Nat → Int} {L : Nat → Nat} {P B : Nat → Int} {b : Nat} : ∀ q, (co_ g L P B b q).1 ≤ 1000000 ∧ -1 ≤ (co_ g L P B b q).2 ∧ (co_ g L P B b q).2 < q ∧ ((co_ g L P B b q).2 = -1 → (co_ g L P B b q).1 = 1000000) ∧ (0 ≤ (co_ g L P B b q).2 → (co_ g L P B b q).1 < 1000000)
  | 0 => by
    unfold co_
    exact ⟨by simp, by simp, by simp, fun _ => rfl, fun w => absurd w (by simp)⟩
  | q + 1 => by
    have ih := co_b (g := g) (L := L) (P := P) (B := B) (b := b) q
    unfold co_
    split
    · rename_i w
      have := w.2
      refine ⟨?_, ?_, ?_, fun z => ?_, fun _ => ?_⟩
      · show co_v g L P B b q ≤ 1000000; omega
      · show (-1 : Int) ≤ (q : Int); omega
      · show (q : Int) < ((q + 1 : Nat) : Int); omega
      · have z2 : (q : Int) = -1 := z
        omega
      · show co_v g L P B b q < 1000000; omega
    · exact ⟨ih.1, ih.2.1, by omega, ih.2.2.2.1, ih.2.2.2.2⟩
/-- what plain ones are like -/
def pq_ (g : Nat → Nat → Int) (L : Nat → Nat) (m : Nat) (P B : Nat → Int) (b : Nat) : Prop := (0 ≤ P b ∧ P b ≤ 1000000) ∧ -1 ≤ B b ∧ B b < m ∧ (B b = -1 → P b = 1000000) ∧ (0 ≤ B b → P b < 1000000) ∧ (0 ≤ B b → ¬ ch_p g L (B b).toNat ∧ g (B b).toNat 0 = (b : Int))
theorem ck_co {g : Nat → Nat → Int} {L : Nat → Nat} {m : Nat} {P B : Nat → Int} {b : Nat} (hq : ∀ y, y < 2 → pq_ g L m P B y) (hb : b < 2) (hg : ∀ q, q < m → 0 ≤ g q 1) : ∀ q, q ≤ m → (B b < q → ck_ g L P B b q = co_ g L P B b q) ∧ ((q : Int) ≤ B b → ck_ g L P B b q = if (co_ g L P B b q).1 ≤ P b then co_ g L P B b q else (P b, B b))
  | 0, _ => by
    obtain ⟨h1, h2, h3, h4, h5, h6⟩ := hq b hb
    refine ⟨fun w => ?_, fun w => ?_⟩
    · have : B b = -1 := by omega
      show (P b, B b) = (1000000, -1)
      rw [h4 this, this]
    · have := h5 (by omega)
      rw [if_neg (by show ¬ (1000000 : Int) ≤ P b; omega)]
      rfl
  | q + 1, hqm => by
    obtain ⟨ih1, ih2⟩ := ck_co hq hb hg q (by omega)
    obtain ⟨h1, h2, h3, h4, h5, h6⟩ := hq b hb
    have cb := co_b (g := g) (L := L) (P := P) (B := B) (b := b) q
    have hgq := hg q (by omega)
    by_cases gb : g q 0 = (b : Int)
    · by_cases ch : ch_p g L q
      · have hbd := hd_b (g q 2)
        have hy : (hd_ (g q 2)).toNat < 2 := by have := ch.2; omega
        obtain ⟨k1, k2, k3, k4, k5, k6⟩ := hq _ hy
        have ev : co_v g L P B b q = P (hd_ (g q 2)).toNat + g q 1 := by
          unfold co_v
          rw [if_pos ch, Int.add_comm]
        have nB : ¬ B b = q := fun w => by
          have := (h6 (by omega)).1
          rw [w] at this
          exact this ch
        have o1 : P (hd_ (g q 2)).toNat + g q 1 < (co_ g L P B b q).1 → co_ g L P B b (q + 1) = (P (hd_ (g q 2)).toNat + g q 1, (q : Int)) := fun c => by
          show (if _ then _ else _) = _
          rw [ev, if_pos ⟨gb, c⟩]
        have o0 : ¬ P (hd_ (g q 2)).toNat + g q 1 < (co_ g L P B b q).1 → co_ g L P B b (q + 1) = co_ g L P B b q := fun c => by
          show (if _ then _ else _) = _
          rw [ev, if_neg (fun z => c z.2)]
        by_cases hB : 0 ≤ B (hd_ (g q 2)).toNat
        · have c1 : (P (hd_ (g q 2)).toNat + g q 1 < (ck_ g L P B b q).1 ∨ (P (hd_ (g q 2)).toNat + g q 1 = (ck_ g L P B b q).1 ∧ (q : Int) < (ck_ g L P B b q).2)) → ck_ g L P B b (q + 1) = (P (hd_ (g q 2)).toNat + g q 1, (q : Int)) := fun c => by
            show (if _ then _ else _) = _
            rw [if_pos ⟨ch, hB, gb, c⟩]
          have c0 : ¬ (P (hd_ (g q 2)).toNat + g q 1 < (ck_ g L P B b q).1 ∨ (P (hd_ (g q 2)).toNat + g q 1 = (ck_ g L P B b q).1 ∧ (q : Int) < (ck_ g L P B b q).2)) → ck_ g L P B b (q + 1) = ck_ g L P B b q := fun c => by
            show (if _ then _ else _) = _
            rw [if_neg (fun z => c z.2.2.2)]
          refine ⟨fun w => ?_, fun w => ?_⟩
          · rw [ih1 (by omega)] at c1 c0
            by_cases c : P (hd_ (g q 2)).toNat + g q 1 < (co_ g L P B b q).1
            · rw [c1 (Or.inl c), o1 c]
            · rw [c0 (by omega), o0 c]
          · have hP := h5 (by omega)
            rw [ih2 (by omega)] at c1 c0
            by_cases r : (co_ g L P B b q).1 ≤ P b
            · rw [if_pos r] at c1 c0
              by_cases c : P (hd_ (g q 2)).toNat + g q 1 < (co_ g L P B b q).1
              · rw [c1 (Or.inl c), o1 c, if_pos (by show P (hd_ (g q 2)).toNat + g q 1 ≤ P b; omega)]
              · rw [c0 (by omega), o0 c, if_pos r]
            · rw [if_neg r] at c1 c0
              have c1' : (P (hd_ (g q 2)).toNat + g q 1 < P b ∨ (P (hd_ (g q 2)).toNat + g q 1 = P b ∧ (q : Int) < B b)) → ck_ g L P B b (q + 1) = (P (hd_ (g q 2)).toNat + g q 1, (q : Int)) := c1
              have c0' : ¬ (P (hd_ (g q 2)).toNat + g q 1 < P b ∨ (P (hd_ (g q 2)).toNat + g q 1 = P b ∧ (q : Int) < B b)) → ck_ g L P B b (q + 1) = (P b, B b) := c0
              by_cases c : P (hd_ (g q 2)).toNat + g q 1 ≤ P b
              · rw [c1' (by omega), o1 (by omega), if_pos (by show P (hd_ (g q 2)).toNat + g q 1 ≤ P b; omega)]
              · rw [c0' (by omega)]
                by_cases c2 : P (hd_ (g q 2)).toNat + g q 1 < (co_ g L P B b q).1
                · rw [o1 c2, if_neg (by show ¬ P (hd_ (g q 2)).toNat + g q 1 ≤ P b; omega)]
                · rw [o0 c2, if_neg r]
        · have := k4 (by omega)
          have e1 : ck_ g L P B b (q + 1) = ck_ g L P B b q := by
            show (if _ then _ else _) = _
            rw [if_neg (fun z => hB z.2.1)]
          rw [e1, o0 (by omega)]
          exact ⟨fun w => ih1 (by omega), fun w => ih2 (by omega)⟩
      · have e1 : ck_ g L P B b (q + 1) = ck_ g L P B b q := by
          show (if _ then _ else _) = _
          rw [if_neg (fun z => ch z.1)]
        rw [e1]
        by_cases eB : B b = q
        · have ev : co_v g L P B b q = P b := by
            unfold co_v
            rw [if_neg ch, if_pos eB]
          refine ⟨fun w => ?_, fun w => by omega⟩
          rw [ih2 (by omega)]
          show _ = (if _ then _ else _)
          rw [ev]
          by_cases c : (co_ g L P B b q).1 ≤ P b
          · rw [if_pos c, if_neg (fun z => by have := z.2; omega)]
          · rw [if_neg c, if_pos ⟨gb, by omega⟩, eB]
        · have ev : co_v g L P B b q = 1000000 := by
            unfold co_v
            rw [if_neg ch, if_neg eB]
          have e2 : co_ g L P B b (q + 1) = co_ g L P B b q := by
            show (if _ then _ else _) = _
            rw [ev, if_neg (fun z => by have := z.2; omega)]
          rw [e2]
          exact ⟨fun w => ih1 (by omega), fun w => ih2 (by omega)⟩
    · have e1 : ck_ g L P B b (q + 1) = ck_ g L P B b q := by
        show (if _ then _ else _) = _
        rw [if_neg (fun z => gb z.2.2.1)]
      have e2 : co_ g L P B b (q + 1) = co_ g L P B b q := by
        show (if _ then _ else _) = _
        rw [if_neg (fun z => gb z.1)]
      rw [e1, e2]
      have nB : ¬ B b = q := fun w => by
        have := (h6 (by omega)).2
        rw [w] at this
        exact gb this
      exact ⟨fun w => ih1 (by omega), fun w => ih2 (by omega)⟩
theorem cw_ge {f : Nat → Int} {S : Nat → Nat} {C : Nat → Nat → Int} {t : Nat → Int} (hC : ∀ a b, 0 ≤ C a b) : ∀ (d i a : Nat) (s : Int), 0 ≤ s → 0 ≤ cw_ f S C t d i a s
  | 0, _, _, s, hs => by show 0 ≤ min s 1000000; omega
  | d + 1, i, a, s, hs => by
    unfold cw_
    split
    · have := hC a (hd_ (t i)).toNat
      exact cw_ge hC d _ _ _ (by omega)
    · split
      · exact cw_ge hC d _ _ _ hs
      · omega
theorem pl_q {f : Nat → Int} {S : Nat → Nat} {g : Nat → Nat → Int} {L : Nat → Nat} {C : Nat → Nat → Int} {a b m : Nat} (hC : ∀ a b, 0 ≤ C a b) (hg : ∀ q, q < m → 0 ≤ g q 1) : ∀ q, q ≤ m → 0 ≤ (pl_ f S g L C a b q).1 ∧ (0 ≤ (pl_ f S g L C a b q).2 → (¬ ch_p g L (pl_ f S g L C a b q).2.toNat ∧ g (pl_ f S g L C a b q).2.toNat 0 = (b : Int)) ∧ (pl_ f S g L C a b q).1 = cw_ f S C (fun i => g (pl_ f S g L C a b q).2.toNat (i + 2)) (L (pl_ f S g L C a b q).2.toNat) 0 a (g (pl_ f S g L C a b q).2.toNat 1))
  | 0, _ => ⟨by unfold pl_; simp, fun w => absurd w (by unfold pl_; simp)⟩
  | q + 1, hq => by
    have ih := pl_q (f := f) (S := S) (L := L) (a := a) (b := b) hC hg q (by omega)
    unfold pl_
    split
    · rename_i w
      exact ⟨cw_ge hC _ _ _ _ (hg q (by omega)), fun _ => ⟨⟨w.2.1, w.1⟩, rfl⟩⟩
    · exact ih
theorem pl_pq {f : Nat → Int} {S : Nat → Nat} {g : Nat → Nat → Int} {L : Nat → Nat} {C : Nat → Nat → Int} {a b m : Nat} (hC : ∀ a b, 0 ≤ C a b) (hg : ∀ q, q < m → 0 ≤ g q 1) : pq_ g L m (fun y => (pl_ f S g L C a y m).1) (fun y => (pl_ f S g L C a y m).2) b := by
  have h1 := pl_b (f := f) (S := S) (g := g) (L := L) (C := C) (a := a) (b := b) m
  have h2 := pl_q (f := f) (S := S) (g := g) (L := L) (C := C) (a := a) (b := b) hC hg m (Nat.le_refl _)
  exact ⟨⟨h2.1, h1.1⟩, h1.2.1, h1.2.2.1, h1.2.2.2.1, h1.2.2.2.2, fun w => (h2.2 w).1⟩
theorem co_ge {g : Nat → Nat → Int} {L : Nat → Nat} {P B : Nat → Int} {b m : Nat} (hP : ∀ y, 0 ≤ P y) (hg : ∀ q, q < m → 0 ≤ g q 1) : ∀ q, q ≤ m → 0 ≤ (co_ g L P B b q).1
  | 0, _ => by unfold co_; simp
  | q + 1, hq => by
    have ih := co_ge (g := g) (L := L) (P := P) (B := B) (b := b) hP hg q (by omega)
    unfold co_
    split
    · show 0 ≤ co_v g L P B b q
      unfold co_v
      have := hg q (by omega)
      have h1 := hP (hd_ (g q 2)).toNat
      have h2 := hP b
      split
      · omega
      · split <;> omega
    · exact ih
/-- all costs, once the last k nodes are done -/
noncomputable def cv_ (n m : Nat) (f : Nat → Int) (g : Nat → Nat → Int) (L : Nat → Nat) : Nat → Nat → Nat → (Int × Int) × (Int × Int)
  | 0 => fun _ _ => ((1000000, -1), (1000000, -1))
  | k + 1 => fun a b => if a = n - 1 - k then (pl_ f (te_S f n) g L (fun x y => (cv_ n m f g L k x y).2.1) a b m, co_ g L (fun y => (pl_ f (te_S f n) g L (fun x y => (cv_ n m f g L k x y).2.1) a y m).1) (fun y => (pl_ f (te_S f n) g L (fun x y => (cv_ n m f g L k x y).2.1) a y m).2) b m) else cv_ n m f g L k a b
theorem cv_b {n m : Nat} {f : Nat → Int} {g : Nat → Nat → Int} {L : Nat → Nat} (hg : ∀ q, q < m → 0 ≤ g q 1) : ∀ k a b, 0 ≤ (cv_ n m f g L k a b).2.1 ∧ (cv_ n m f g L k a b).2.1 ≤ 1000000
  | 0, _, _ => by unfold cv_; simp
  | k + 1, a, b => by
    unfold cv_
    split
    · refine ⟨co_ge (fun y => ?_) hg m (Nat.le_refl _), (co_b m).1⟩
      exact (pl_q (fun a b => (cv_b hg k a b).1) hg m (Nat.le_refl _)).1
    · exact cv_b hg k a b
section CN
variable {E : jm_Env} {h : jm_H} {n m : Nat} {f : Nat → Int} {g : Nat → Nat → Int} {L : Nat → Nat} {P B : Nat → Int}
theorem rc_chain2 {nd : Nat} {K : jm_H → Prop} (hnd : nd < 30) (hv : ∀ b, b < 2 → h 31 (2 * nd + b) = P b ∧ h 32 (2 * nd + b) = B b) (hk : ∀ h2 : jm_H, (∀ u v, ¬ ((u = 33 ∨ u = 34) ∧ (v = 2 * nd ∨ v = 2 * nd + 1)) → h2 u v = h u v) → (∀ b, b < 2 → h2 33 (2 * nd + b) = P b ∧ h2 34 (2 * nd + b) = B b) → jm_BV E jm_SH jm_m_Covering_coverWithChains 2 55 [some (jm_R 30), some (jm_I nd), some (jm_I 0), none, none, none] [] h2 K) :
    jm_BV E jm_SH jm_m_Covering_coverWithChains 2 2 [some (jm_R 30), some (jm_I nd), some (jm_I 0), none, none, none] [] h K := by
  have one : ∀ (b : Nat) (x : Int) (h1 : jm_H), b < 2 → x = b → h1 31 (2 * nd + b) = P b → h1 32 (2 * nd + b) = B b → (jm_BV E jm_SH jm_m_Covering_coverWithChains 2 2 [some (jm_R 30), some (jm_I nd), some (jm_I ((b : Int) + 1)), none, none, none] [] (jm_up (jm_up h1 33 (2 * nd + b) (P b)) 34 (2 * nd + b) (B b)) K) → jm_BV E jm_SH jm_m_Covering_coverWithChains 2 2 [some (jm_R 30), some (jm_I nd), some (jm_I x), none, none, none] [] h1 K := fun b x h1 hb hx e1 e2 k => by
    subst hx
    refine jb_Covering_coverWithChains_2 ⟨fun q => by omega, fun _ => rc_at hnd hb (rc_at hnd hb ⟨by omega, by omega, rc_at hnd hb (rc_at hnd hb ⟨by omega, by omega, ?_⟩)⟩)⟩
    rw [jm_tn, jm_w (by omega) (by omega), e1, up_o (by omega), e2]
    exact k
  refine one 0 _ _ (by omega) rfl (hv 0 (by omega)).1 (hv 0 (by omega)).2 (one 1 _ _ (by omega) rfl ?_ ?_ (jb_Covering_coverWithChains_2 ⟨fun _ => hk _ (fun u v z => ?_) (fun b hb => ?_), fun q => absurd (by decide) q⟩))
  · rw [up_o (by omega), up_o (by omega)]; exact (hv 1 (by omega)).1
  · rw [up_o (by omega), up_o (by omega)]; exact (hv 1 (by omega)).2
  · rw [up_o (by omega), up_o (by omega), up_o (by omega), up_o (by omega)]
  · rcases (show b = 0 ∨ b = 1 by omega) with rfl | rfl
    · constructor
      · rw [up_o (by omega), up_o (by omega), up_o (by omega), up_s]
      · rw [up_o (by omega), up_o (by omega), up_s]
    · constructor
      · rw [up_o (by omega), up_s]
      · rw [up_s]
theorem rc_chain55 {nd : Nat} {K : jm_H → Prop} (ho : pa_ok m g L) (hnd : nd < 30) (hq : ∀ y, y < 2 → pq_ g L m P B y)
    (hk : ∀ h2 : jm_H, (∀ u v, ¬ ((u = 33 ∨ u = 34) ∧ (v = 2 * nd ∨ v = 2 * nd + 1)) → h2 u v = h u v) → (∀ b, b < 2 → h2 33 (2 * nd + b) = (ck_ g L P B b m).1 ∧ h2 34 (2 * nd + b) = (ck_ g L P B b m).2) → K h2) :
    ∀ (d q : Nat) (x2 : Int) (h1 : jm_H), d + q = m → x2 = q → pa_C h1 m g L → (∀ b, b < 2 → h1 31 (2 * nd + b) = P b ∧ h1 32 (2 * nd + b) = B b) → (∀ u v, ¬ ((u = 33 ∨ u = 34) ∧ (v = 2 * nd ∨ v = 2 * nd + 1)) → h1 u v = h u v) → (∀ b, b < 2 → h1 33 (2 * nd + b) = (ck_ g L P B b q).1 ∧ h1 34 (2 * nd + b) = (ck_ g L P B b q).2) →
      jm_BV E jm_SH jm_m_Covering_coverWithChains 2 55 [some (jm_R 30), some (jm_I nd), some (jm_I x2), none, none, none] [] h1 K
  | 0, q, x2, h1, hd, hx, hp, hv, hf, hw => by
    have : q = m := by omega
    subst this
    exact jb_Covering_coverWithChains_55 ⟨fun _ => hk h1 hf hw, fun w => by rw [hp.1] at w; omega⟩
  | d + 1, q, x2, h1, hd, hx, hp, hv, hf, hw => by
    subst hx
    have hm := hp.2.1
    have hqm : q < m := by omega
    obtain ⟨e0, e1, e2, e3⟩ := hp.2.2 q hqm
    have hok := ho q hqm
    obtain ⟨b, hb2⟩ : ∃ b : Nat, g q 0 = (b : Int) := ⟨(g q 0).toNat, by omega⟩
    have hbl : b < 2 := by omega
    obtain ⟨w1, w2⟩ := hw b hbl
    have stay : (∀ b2, b2 < 2 → ck_ g L P B b2 (q + 1) = ck_ g L P B b2 q) → jm_BV E jm_SH jm_m_Covering_coverWithChains 2 55 [some (jm_R 30), some (jm_I nd), some (jm_I (jm_w32 ((q : Int) + 1))), none, none, none] [] h1 K := fun w => by
      rw [jm_w (by omega) (by omega)]
      exact rc_chain55 ho hnd hq hk d (q + 1) _ h1 (by omega) (by omega) hp hv hf (fun b2 hb3 => by rw [w b2 hb3]; exact hw b2 hb3)
    refine jb_Covering_coverWithChains_55 ⟨fun w => by rw [hp.1] at w; omega, fun _ => rc_chain hp hqm (fun ch => ⟨fun z => absurd ch.2 (by omega), fun _ => ?_⟩) (fun w v hv0 => ⟨fun _ => stay (fun b2 _ => ?_), fun z => by omega⟩)⟩
    · have hbd := hd_b (g q 2)
      obtain ⟨y, hy⟩ : ∃ y : Nat, hd_ (g q 2) = (y : Int) := ⟨(hd_ (g q 2)).toNat, by have := ch.2; omega⟩
      have hyl : y < 2 := by omega
      have hyt : (hd_ (g q 2)).toNat = y := by omega
      obtain ⟨v1, v2⟩ := hv y hyl
      obtain ⟨⟨p1, p2⟩, p3, p4, p5, p6, p7⟩ := hq y hyl
      rw [hy]
      refine rc_at hnd hyl ⟨by omega, ?_⟩
      rw [jm_tn, v2]
      refine ⟨fun hB => rc_at hnd hyl ⟨by omega, by omega, by omega, ?_⟩, fun hB => stay (fun b2 _ => ?_)⟩
      · rw [jm_tn, jm_tn, e0, hb2, v1, e1, jm_w (x := P y + g q 1) (by omega) (by omega)]
        refine rc_at hnd hbl ⟨by omega, ?_⟩
        rw [jm_tn, w1, w2]
        have put : (P y + g q 1 < (ck_ g L P B b q).1 ∨ (P y + g q 1 = (ck_ g L P B b q).1 ∧ (q : Int) < (ck_ g L P B b q).2)) → jm_BV E jm_SH jm_m_Covering_coverWithChains 2 167 [some (jm_R 30), some (jm_I nd), some (jm_I q), none, some (jm_I (P y + g q 1)), some (jm_I ((2 * nd + b : Nat) : Int))] [] h1 K := fun c => by
          refine jb_Covering_coverWithChains_167 ⟨by omega, by omega, ?_⟩
          rw [jm_tn, jm_w (by omega) (by omega)]
          refine rc_chain55 ho hnd hq hk d (q + 1) _ _ (by omega) (by omega) (hp.fr fun u v z1 z2 => ?_) (fun b2 hb3 => ?_) (fun u v z1 => ?_) (fun b2 hb3 => ?_)
          · rw [up_o (by omega), up_o (by omega)]
          · rw [up_o (by omega), up_o (by omega), up_o (by omega), up_o (by omega)]
            exact hv b2 hb3
          · rw [up_o (by omega), up_o (by omega)]
            exact hf u v z1
          · by_cases eb : b2 = b
            · subst eb
              have e : ck_ g L P B b2 (q + 1) = (P y + g q 1, (q : Int)) := by
                show (if _ then _ else _) = _
                rw [hyt, if_pos ⟨ch, hB, hb2, c⟩]
              rw [e]
              constructor
              · rw [up_o (by omega), up_s]
              · rw [up_s]
            · have e : ck_ g L P B b2 (q + 1) = ck_ g L P B b2 q := by
                show (if _ then _ else _) = _
                rw [if_neg (fun u => eb (by have := u.2.2.1; omega))]
              rw [e, up_o (by omega), up_o (by omega), up_o (by omega), up_o (by omega)]
              exact hw b2 hb3
        have no : ¬ (P y + g q 1 < (ck_ g L P B b q).1 ∨ (P y + g q 1 = (ck_ g L P B b q).1 ∧ (q : Int) < (ck_ g L P B b q).2)) → ∀ b2, b2 < 2 → ck_ g L P B b2 (q + 1) = ck_ g L P B b2 q := fun c b2 _ => by
          show (if _ then _ else _) = _
          rw [hyt, if_neg]
          rintro ⟨u1, u2, u3, u4⟩
          have : b2 = b := by omega
          subst this
          exact c u4
        refine ⟨fun c => put (Or.inl c), fun c => ⟨by omega, fun c2 => stay (no (by omega)), fun c2 => ⟨by omega, fun c3 => stay (no (by omega)), fun c3 => put (Or.inr ⟨c2, by omega⟩)⟩⟩⟩
      · show (if _ then _ else _) = _
        rw [hyt, if_neg (fun u => hB u.2.1)]
    · show (if _ then _ else _) = _
      rw [if_neg (fun u => w u.1)]
theorem rc_withChains {nd : Nat} {K : jm_H → Prop} (hp : pa_C h m g L) (ho : pa_ok m g L) (hnd : nd < 30) (hq : ∀ y, y < 2 → pq_ g L m P B y) (hv : ∀ b, b < 2 → h 31 (2 * nd + b) = P b ∧ h 32 (2 * nd + b) = B b)
    (hk : ∀ h2 : jm_H, (∀ u v, ¬ ((u = 33 ∨ u = 34) ∧ (v = 2 * nd ∨ v = 2 * nd + 1)) → h2 u v = h u v) → (∀ b, b < 2 → h2 33 (2 * nd + b) = (co_ g L P B b m).1 ∧ h2 34 (2 * nd + b) = (co_ g L P B b m).2) → K h2) : jm_CV E jm_SH jm_m_Covering_coverWithChains 2 [jm_R 30, jm_I nd] h K := by
  refine jb_Covering_coverWithChains (rc_chain2 hnd hv fun h2 c1 c2 => ?_)
  refine rc_chain55 (h := h2) ho hnd hq (fun h3 d1 d2 => hk h3 (fun u v z => (d1 u v z).trans (c1 u v z)) (fun b hb => ?_)) m 0 _ h2 (by omega) rfl (hp.fr fun u v z1 z2 => c1 u v (by omega)) (fun b hb => ?_) (fun _ _ _ => rfl) c2
  · have := (ck_co hq hb (fun q hq => (ho q hq).2.1.1) m (Nat.le_refl _)).1 (hq b hb).2.2.1
    rw [← this]
    exact d2 b hb
  · rw [c1 _ _ (by omega), c1 _ _ (by omega)]
    exact hv b hb
/-- the class's cells of all costs -/
def cv_C (h : jm_H) (n m : Nat) (f : Nat → Int) (g : Nat → Nat → Int) (L : Nat → Nat) (k : Nat) : Prop := ∀ a b, n - k ≤ a → a < n → b < 2 → h 31 (2 * a + b) = (cv_ n m f g L k a b).1.1 ∧ h 32 (2 * a + b) = (cv_ n m f g L k a b).1.2 ∧ h 33 (2 * a + b) = (cv_ n m f g L k a b).2.1 ∧ h 34 (2 * a + b) = (cv_ n m f g L k a b).2.2
theorem rc_refresh23 {K : jm_H → Prop} (ho : pa_ok m g L) (hk : ∀ h2 : jm_H, (∀ u v, ¬ (31 ≤ u ∧ u ≤ 34) → h2 u v = h u v) → cv_C h2 n m f g L n → (n = 0 → K (jm_up h2 30 8 0)) ∧ (0 < n → jm_CV E jm_SH jm_m_Covering_tell 32 [jm_R 30, jm_I 0, jm_I 0, jm_I 0] (jm_up h2 30 8 0) K)) :
    ∀ (i k : Nat) (x1 : Int) (h1 : jm_H), i + k = n → x1 = (i : Int) - 1 → te_C h1 n f → pa_C h1 m g L → cv_C h1 n m f g L k → (∀ u v, ¬ (31 ≤ u ∧ u ≤ 34) → h1 u v = h u v) → jm_BV E jm_SH jm_m_Covering_refresh 33 23 [some (jm_R 30), some (jm_I x1)] [] h1 K
  | 0, k, x1, h1, hi, hx, hc, hp, hv, hf => by
    have : k = n := by omega
    subst this
    obtain ⟨k0, k1⟩ := hk h1 hf hv
    refine jb_Covering_refresh_23 ⟨fun _ => ?_, fun w => by omega⟩
    rw [hc.1]
    exact ⟨fun w => k0 (by omega), fun w => k1 (by omega)⟩
  | i + 1, k, x1, h1, hi, hx, hc, hp, hv, hf => by
    have hx2 : x1 = (i : Int) := by omega
    subst hx2
    have hn := hc.2.1.1
    have hg : ∀ q, q < m → 0 ≤ g q 1 := fun q hq => (ho q hq).2.1.1
    have ei : n - 1 - k = i := by omega
    refine jb_Covering_refresh_23 ⟨fun w => by omega, fun _ => ?_⟩
    refine rc_plain (C := fun x y => (cv_ n m f g L k x y).2.1) hc hp ho (by omega) (fun a b z1 z2 z3 => ⟨(hv a b (by omega) z2 z3).2.2.1, cv_b hg k a b⟩) fun h2 c1 c2 => ?_
    have hp2 := hp.fr (h2 := h2) fun u v z1 z2 => c1 u v (by omega)
    refine rc_withChains hp2 ho (by omega) (fun y _ => pl_pq (fun a b => (cv_b hg k a b).1) hg) c2 fun h3 d1 d2 => ?_
    rw [jm_w (by omega) (by omega)]
    refine rc_refresh23 ho hk i (k + 1) _ h3 (by omega) (by omega) (hc.fr fun u v z1 z2 => ?_) (hp2.fr fun u v z1 z2 => d1 u v (by omega)) (fun a b z1 z2 z3 => ?_) (fun u v z => ?_)
    · rw [d1 u v (by omega), c1 u v (by omega)]
    · by_cases ea : a = i
      · subst ea
        have e : cv_ n m f g L (k + 1) a b = (pl_ f (te_S f n) g L (fun x y => (cv_ n m f g L k x y).2.1) a b m, co_ g L (fun y => (pl_ f (te_S f n) g L (fun x y => (cv_ n m f g L k x y).2.1) a y m).1) (fun y => (pl_ f (te_S f n) g L (fun x y => (cv_ n m f g L k x y).2.1) a y m).2) b m) := by
          show (if a = n - 1 - k then _ else _) = _
          rw [if_pos ei.symm]
        rw [e, d1 31 _ (by omega), d1 32 _ (by omega)]
        exact ⟨(c2 b z3).1, (c2 b z3).2, (d2 b z3).1, (d2 b z3).2⟩
      · have e : cv_ n m f g L (k + 1) a b = cv_ n m f g L k a b := by
          show (if a = n - 1 - k then _ else _) = _
          rw [if_neg (by omega)]
        rw [e, d1 31 _ (by omega), d1 32 _ (by omega), d1 33 _ (by omega), d1 34 _ (by omega), c1 31 _ (by omega), c1 32 _ (by omega), c1 33 _ (by omega), c1 34 _ (by omega)]
        exact hv a b (by omega) z2 z3
    · rw [d1 u v (by omega), c1 u v (by omega)]
      exact hf u v z
end CN
