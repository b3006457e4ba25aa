/-! THE ROW: r l i is line l (0 op, 1 set, 2 one, 3 two, 4 wait, 5 weight) of instruction i; the class's contracts -/
theorem jm_w {x : Int} (h1 : -2147483648 ≤ x) (h2 : x < 2147483648) : jm_w32 x = x := jm_w32_id ⟨h1, h2⟩
theorem jm_tn (n : Nat) : Int.toNat (n : Int) = n := rfl
/-- what an instruction may hold -/
def rw_ok (n : Nat) (r : Nat → Nat → Int) : Prop := ∀ i, i < n → (0 ≤ r 0 i ∧ r 0 i ≤ 6) ∧ (0 ≤ r 1 i ∧ r 1 i ≤ 5) ∧ (0 ≤ r 2 i ∧ r 2 i ≤ 5) ∧ (0 ≤ r 3 i ∧ r 3 i ≤ 5) ∧ (1 ≤ r 4 i ∧ r 4 i ≤ 5) ∧ (1 ≤ r 5 i ∧ r 5 i ≤ 100)
def rw_C (h : jm_H) (n : Nat) (r : Nat → Nat → Int) : Prop := h 37 3 = n ∧ n ≤ 12 ∧ ∀ i, i < n → h 39 i = r 0 i ∧ h 40 i = r 1 i ∧ h 41 i = r 2 i ∧ h 42 i = r 3 i ∧ h 43 i = r 4 i ∧ h 44 i = r 5 i
def rw_us (r : Nat → Nat → Int) (i : Nat) (g : Int) : Prop := r 2 i = g ∨ (r 0 i < 5 ∧ r 3 i = g)
/-- the last place below n where s is g; -1: none -/
def rw_last (s : Nat → Int) (g : Int) : Nat → Int
  | 0 => -1
  | n + 1 => if s n = g then (n : Int) else rw_last s g n
theorem rw_last_lt (s : Nat → Int) (g : Int) : ∀ n, -1 ≤ rw_last s g n ∧ rw_last s g n < n
  | 0 => by simp [rw_last]
  | n + 1 => by
    have := rw_last_lt s g n
    unfold rw_last
    split <;> omega
section RW
variable {E : jm_Env} {h : jm_H} {n : Nat} {r : Nat → Nat → Int}
theorem rc_hasSecond {x : Int} {K : Int → jm_H → Prop} (k1 : x < 5 → K 1 h) (k0 : ¬ x < 5 → K 0 h) : jm_CI E jm_SH jm_m_Row_hasSecond 0 [jm_I x] h K :=
  jb_Row_hasSecond ⟨fun q => k0 (by omega), fun q => k1 (by omega)⟩
theorem rc_uses {i : Nat} {g : Int} {K : Int → jm_H → Prop} (hr : rw_C h n r) (hi : i < n) (k1 : rw_us r i g → K 1 h) (k0 : ¬ rw_us r i g → K 0 h) : jm_CI E jm_SH jm_m_Row_uses 1 [jm_R 37, jm_I i, jm_I g] h K := by
  obtain ⟨h1, h2, h3⟩ := hr
  obtain ⟨e0, e1, e2, e3, -, -⟩ := h3 i hi
  have hb : (0 : Int) ≤ (i : Int) ∧ (i : Int) < 12 := by omega
  refine jb_Row_uses ⟨hb, fun q => k1 (Or.inl ?_), fun q => ⟨hb, ?_⟩⟩
  · rw [jm_tn, e2] at q; exact q
  · rw [jm_tn, e2] at q
    rw [jm_tn, e0]
    refine rc_hasSecond (fun q5 => ⟨fun z => by omega, fun _ => ⟨hb, ?_⟩⟩) (fun q5 => ⟨fun _ => k0 ?_, fun z => absurd rfl z⟩)
    · rw [e3]
      exact ⟨fun q3 => k0 (fun z => z.elim q (fun z => q3 z.2)), fun q3 => k1 (Or.inr ⟨q5, q3⟩)⟩
    · exact fun z => z.elim q (fun z => q5 z.1)
/-- must i stay ahead of k -/
def rw_cl (r : Nat → Nat → Int) (i k : Nat) : Prop := r 1 i = r 1 k ∨ rw_us r k (r 1 i) ∨ rw_us r i (r 1 k)
theorem rc_clash {i k : Nat} {K : Int → jm_H → Prop} (hr : rw_C h n r) (hi : i < n) (hk : k < n) (k1 : rw_cl r i k → K 1 h) (k0 : ¬ rw_cl r i k → K 0 h) : jm_CI E jm_SH jm_m_Row_clash 2 [jm_R 37, jm_I i, jm_I k] h K := by
  have hr0 := hr
  obtain ⟨h1, h2, h3⟩ := hr
  obtain ⟨-, e1, -⟩ := h3 i hi
  obtain ⟨-, f1, -⟩ := h3 k hk
  refine jb_Row_clash ⟨by omega, by omega, ?_⟩
  rw [jm_tn, jm_tn, e1, f1]
  refine ⟨fun q => k1 (Or.inl q), fun q => ?_⟩
  refine rc_uses hr0 hk (fun u => ⟨fun _ => k1 (Or.inr (Or.inl u)), fun z => by omega⟩) (fun u => ⟨fun z => absurd rfl z, fun _ => ?_⟩)
  refine rc_uses hr0 hi (fun v => ⟨fun z => by omega, fun _ => k1 (Or.inr (Or.inr v))⟩) (fun v => ⟨fun _ => k0 ?_, fun z => absurd rfl z⟩)
  rintro (z | z | z)
  · exact q z
  · exact u z
  · exact v z
theorem rc_setter4 {g : Int} {K : Int → jm_H → Prop} (hr : rw_C h n r) : ∀ (i : Nat) (x : Int), i ≤ n → x = (i : Int) - 1 → K (rw_last (r 1) g i) h → jm_BI E jm_SH jm_m_Row_setterAhead 0 4 [some (jm_R 37), none, some (jm_I g), some (jm_I x)] [] h K
  | 0, x, _, hx, hk => by
    refine jb_Row_setterAhead_4 ⟨fun _ => hk, fun q => ?_⟩
    subst hx
    exact absurd (by decide) q
  | i + 1, x, hi, hx, hk => by
    have hn := hr.2.1
    have e1 := (hr.2.2 i (by omega)).2.1
    have hx2 : x = (i : Int) := by omega
    subst hx2
    refine jb_Row_setterAhead_4 ⟨fun q => by omega, fun q => ⟨by omega, ?_⟩⟩
    rw [jm_tn, e1]
    unfold rw_last at hk
    refine ⟨fun q => ?_, fun q => ?_⟩
    · rw [if_neg q] at hk
      rw [jm_w (by omega) (by omega)]
      exact rc_setter4 hr i _ (by omega) (by omega) hk
    · rw [if_pos q] at hk
      exact hk
theorem rc_setter {i : Nat} {g : Int} {K : Int → jm_H → Prop} (hr : rw_C h n r) (hi : i ≤ n) (hk : K (rw_last (r 1) g i) h) : jm_CI E jm_SH jm_m_Row_setterAhead 0 [jm_R 37, jm_I i, jm_I g] h K := by
  have hn := hr.2.1
  refine jb_Row_setterAhead ?_
  rw [jm_w (by omega) (by omega)]
  exact rc_setter4 hr i _ hi rfl hk
def rw_s1 (r : Nat → Nat → Int) (i : Nat) : Int := rw_last (r 1) (r 2 i) i
def rw_s2 (r : Nat → Nat → Int) (i : Nat) : Int := if r 0 i < 5 then rw_last (r 1) (r 3 i) i else -1
theorem rw_s1_lt (r : Nat → Nat → Int) (i : Nat) : -1 ≤ rw_s1 r i ∧ rw_s1 r i < i := rw_last_lt _ _ _
theorem rw_s2_lt (r : Nat → Nat → Int) (i : Nat) : -1 ≤ rw_s2 r i ∧ rw_s2 r i < i := by
  unfold rw_s2
  split
  · exact rw_last_lt _ _ _
  · omega
theorem rc_first {i : Nat} {K : Int → jm_H → Prop} (hr : rw_C h n r) (hi : i < n) (hk : K (rw_s1 r i) h) : jm_CI E jm_SH jm_m_Row_firstSetter 1 [jm_R 37, jm_I i] h K := by
  have hn := hr.2.1
  refine jb_Row_firstSetter ⟨by omega, ?_⟩
  rw [jm_tn, (hr.2.2 i hi).2.2.1]
  exact rc_setter hr (by omega) hk
theorem rc_second {i : Nat} {K : Int → jm_H → Prop} (hr : rw_C h n r) (hi : i < n) (hk : K (rw_s2 r i) h) : jm_CI E jm_SH jm_m_Row_secondSetter 1 [jm_R 37, jm_I i] h K := by
  have hn := hr.2.1
  have e := hr.2.2 i hi
  refine jb_Row_secondSetter ⟨by omega, ?_⟩
  rw [jm_tn, e.1]
  unfold rw_s2 at hk
  refine rc_hasSecond (fun q => ⟨fun z => by omega, fun _ => ⟨by omega, ?_⟩⟩) (fun q => ⟨fun _ => ?_, fun z => absurd rfl z⟩)
  · rw [if_pos q] at hk
    rw [e.2.2.2.1]
    exact rc_setter hr (by omega) hk
  · rw [if_neg q] at hk
    exact hk
/-! cycles as written -/
def rw_rd (r : Nat → Nat → Int) (f : Nat → Int) (s : Int) : Int := if s < 0 then 0 else f s.toNat + r 4 s.toNat
def rw_nx (f : Nat → Int) : Nat → Int
  | 0 => 0
  | i + 1 => f i + 1
/-- the cycle of i, those below it being f -/
def rw_at (r : Nat → Nat → Int) (f : Nat → Int) (i : Nat) : Int := max (rw_nx f i) (max (rw_rd r f (rw_s1 r i)) (rw_rd r f (rw_s2 r i)))
def rw_cy (r : Nat → Nat → Int) : Nat → Nat → Int
  | 0 => fun _ => 0
  | i + 1 => fun j => if j = i then rw_at r (rw_cy r i) i else rw_cy r i j
theorem rw_rd_congr {r : Nat → Nat → Int} {f g : Nat → Int} {i : Nat} {s : Int} (hs : s < i) (hfg : ∀ j, j < i → f j = g j) : rw_rd r f s = rw_rd r g s := by
  unfold rw_rd
  split
  · rfl
  · rw [hfg s.toNat (by omega)]
theorem rw_nx_congr {f g : Nat → Int} {i : Nat} (hfg : ∀ j, j < i → f j = g j) : rw_nx f i = rw_nx g i := by
  cases i with
  | zero => rfl
  | succ i => show f i + 1 = g i + 1; rw [hfg i (by omega)]
theorem rw_at_congr {r : Nat → Nat → Int} {f g : Nat → Int} {i : Nat} (hfg : ∀ j, j < i → f j = g j) : rw_at r f i = rw_at r g i := by
  unfold rw_at
  rw [rw_nx_congr hfg, rw_rd_congr (rw_s1_lt r i).2 hfg, rw_rd_congr (rw_s2_lt r i).2 hfg]
theorem rw_cy_lt {r : Nat → Nat → Int} (hr : rw_ok n r) : ∀ i, i ≤ n → ∀ j, j < i → 0 ≤ rw_cy r i j ∧ rw_cy r i j ≤ 6 * j
  | 0, _, j, hj => by omega
  | i + 1, hi, j, hj => by
    have ih := rw_cy_lt hr i (by omega)
    unfold rw_cy
    by_cases e : j = i
    · subst e
      rw [if_pos rfl]
      have hrd : ∀ s : Int, s < j → 0 ≤ rw_rd r (rw_cy r j) s ∧ rw_rd r (rw_cy r j) s ≤ 6 * j := by
        intro s hs
        unfold rw_rd
        split
        · omega
        · have h1 := ih s.toNat (by omega)
          have h2 := (hr s.toNat (by omega)).2.2.2.2.1
          omega
      have h1 := hrd _ (rw_s1_lt r j).2
      have h2 := hrd _ (rw_s2_lt r j).2
      have h3 : 0 ≤ rw_nx (rw_cy r j) j ∧ rw_nx (rw_cy r j) j ≤ 6 * j := by
        cases j with
        | zero => simp [rw_nx]
        | succ j =>
          have := ih j (by omega)
          show 0 ≤ rw_cy r (j + 1) j + 1 ∧ rw_cy r (j + 1) j + 1 ≤ 6 * ((j + 1 : Nat) : Int)
          omega
      unfold rw_at
      omega
    · rw [if_neg e]
      exact ih j (by omega)
theorem rw_cy_step {r : Nat → Nat → Int} {i m j : Nat} (hj : j < i) (hm : i ≤ m) : rw_cy r m j = rw_cy r i j := by
  induction m with
  | zero => omega
  | succ m ih =>
    by_cases e : i = m + 1
    · rw [e]
    · have h1 : i ≤ m := by omega
      show (if j = m then _ else rw_cy r m j) = _
      rw [if_neg (by omega), ih h1]
theorem rc_readyAt {s : Int} {K : Int → jm_H → Prop} {f : Nat → Int} {i : Nat} (hr : rw_C h n r) (ho : rw_ok n r) (hi : i ≤ n) (hs : s < i) (hf : ∀ j, j < i → h 45 j = f j) (hb : ∀ j, j < i → 0 ≤ f j ∧ f j ≤ 1000) (hk : K (rw_rd r f s) h) : jm_CI E jm_SH jm_m_Row_readyAt 0 [jm_R 37, jm_I s] h K := by
  have hn := hr.2.1
  unfold rw_rd at hk
  refine jb_Row_readyAt ⟨fun q => ⟨by omega, by omega, ?_⟩, fun q => ?_⟩
  · rw [if_neg (by omega)] at hk
    have h1 := hb s.toNat (by omega)
    have h2 := (ho s.toNat (by omega)).2.2.2.2.1
    rw [hf _ (by omega), (hr.2.2 s.toNat (by omega)).2.2.2.2.1, jm_w (by omega) (by omega)]
    exact hk
  · rw [if_pos (by omega)] at hk
    exact hk
theorem rw_C.off {h h' : jm_H} {n : Nat} {r : Nat → Nat → Int} (hr : rw_C h n r) (e : ∀ a b, a = 37 ∨ (39 ≤ a ∧ a ≤ 44) → h' a b = h a b) : rw_C h' n r := by
  obtain ⟨h1, h2, h3⟩ := hr
  refine ⟨by rw [e 37 3 (Or.inl rfl)]; exact h1, h2, fun i hi => ?_⟩
  obtain ⟨e0, e1, e2, e3, e4, e5⟩ := h3 i hi
  exact ⟨by rw [e 39 i (by omega)]; exact e0, by rw [e 40 i (by omega)]; exact e1, by rw [e 41 i (by omega)]; exact e2, by rw [e 42 i (by omega)]; exact e3, by rw [e 43 i (by omega)]; exact e4, by rw [e 44 i (by omega)]; exact e5⟩
theorem rc_findCycles4 {K : jm_H → Prop} (ho : rw_ok n r) : ∀ (m i : Nat) (x y : Int) (h1 : jm_H), m = n - i → i ≤ n → rw_C h1 n r → x = rw_nx (rw_cy r i) i → y = i → (∀ j, j < i → h1 45 j = rw_cy r i j) → (∀ a b, a ≠ 45 → h1 a b = h a b) →
    (∀ h2 : jm_H, (∀ j, j < n → h2 45 j = rw_cy r n j) → (∀ a b, a ≠ 45 → h2 a b = h a b) → K h2) → jm_BV E jm_SH jm_m_Row_findCycles 2 4 [some (jm_R 37), some (jm_I x), some (jm_I y)] [] h1 K
  | m, i, x, y, h1, hm, hi, hr, hx, hy, hc, hf, hk => by
    have hn := hr.2.1
    subst hy
    refine jb_Row_findCycles_4 ⟨fun q => ?_, fun q => ?_⟩
    · rw [hr.1] at q
      have : i = n := by omega
      subst this
      exact hk h1 hc hf
    · rw [hr.1] at q
      have hin : i < n := by omega
      have hb : ∀ j, j < i → 0 ≤ rw_cy r i j ∧ rw_cy r i j ≤ 1000 := fun j hj => by
        have := rw_cy_lt ho i hi j hj
        omega
      refine rc_first hr hin ?_
      refine rc_readyAt hr ho hi (rw_s1_lt r i).2 hc hb ?_
      refine rc_second hr hin ?_
      refine rc_readyAt hr ho hi (rw_s2_lt r i).2 hc hb ⟨by omega, ?_⟩
      have hv := rw_cy_lt ho (i + 1) (by omega) i (by omega)
      have e1 : rw_cy r (i + 1) i = max x (max (rw_rd r (rw_cy r i) (rw_s1 r i)) (rw_rd r (rw_cy r i) (rw_s2 r i))) := by
        show (if i = i then _ else _) = _
        rw [if_pos rfl, hx]
        rfl
      rw [← e1, jm_tn, jm_w (by omega) (by omega), jm_w (by omega) (by omega)]
      match m, hm with
      | 0, hm => omega
      | m + 1, hm =>
        refine rc_findCycles4 ho m (i + 1) _ _ _ (by omega) (by omega) (hr.off fun a b ha => ?_) rfl (by omega) (fun j hj => ?_) (fun a b ha => ?_) hk
        · unfold jm_up
          rw [if_neg (by omega)]
        · unfold jm_up
          rw [if_pos rfl]
          by_cases e : j = i
          · rw [if_pos e, e]
          · rw [if_neg e, hc j (by omega)]
            show _ = if j = i then _ else _
            rw [if_neg e]
        · unfold jm_up
          rw [if_neg ha]
          exact hf a b ha
theorem rc_findCycles {K : jm_H → Prop} (hr : rw_C h n r) (ho : rw_ok n r) (hk : ∀ h2 : jm_H, (∀ j, j < n → h2 45 j = rw_cy r n j) → (∀ a b, a ≠ 45 → h2 a b = h a b) → K h2) : jm_CV E jm_SH jm_m_Row_findCycles 2 [jm_R 37] h K :=
  jb_Row_findCycles (rc_findCycles4 ho n 0 0 0 h rfl (by omega) hr rfl rfl (fun j hj => by omega) (fun _ _ _ => rfl) hk)
theorem rc_cycleOf {i : Nat} {K : Int → jm_H → Prop} (hr : rw_C h n r) (ho : rw_ok n r) (hi : i < n) (hk : ∀ h2 : jm_H, (∀ a b, a ≠ 45 → h2 a b = h a b) → K (rw_cy r n i) h2) : jm_CI E jm_SH jm_m_Row_cycleOf 3 [jm_R 37, jm_I i] h K := by
  have hn := hr.2.1
  refine jb_Row_cycleOf (rc_findCycles hr ho fun h2 e1 e2 => ⟨by omega, ?_⟩)
  rw [jm_tn, e1 i hi]
  exact hk h2 e2
/-- the greatest of cycle and wait of those below i -/
def rw_end (c w : Nat → Int) : Nat → Int
  | 0 => 0
  | i + 1 => max (rw_end c w i) (c i + w i)
theorem rw_end_b {c w : Nat → Int} {b : Int} : ∀ i, 0 ≤ b → (∀ j, j < i → 0 ≤ c j + w j ∧ c j + w j ≤ b) → 0 ≤ rw_end c w i ∧ rw_end c w i ≤ b
  | 0, hb, _ => by simp [rw_end, hb]
  | i + 1, hb, hh => by
    have := rw_end_b i hb (fun j hj => hh j (by omega))
    have h2 := hh i (by omega)
    show 0 ≤ max _ _ ∧ max _ _ ≤ b
    omega
theorem rc_end8 {K : Int → jm_H → Prop} (ho : rw_ok n r) (hr : rw_C h n r) (hc : ∀ j, j < n → h 45 j = rw_cy r n j) : ∀ (m i : Nat) (x y : Int), m = n - i → i ≤ n → x = rw_end (rw_cy r n) (r 4) i → y = i → K (rw_end (rw_cy r n) (r 4) n) h → jm_BI E jm_SH jm_m_Row_endAsWritten 3 8 [some (jm_R 37), some (jm_I x), some (jm_I y)] [] h K
  | m, i, x, y, hm, hi, hx, hy, hk => by
    have hn := hr.2.1
    subst hy
    refine jb_Row_endAsWritten_8 ⟨fun q => ?_, fun q => ⟨?_, ?_, ?_⟩⟩
    · rw [hr.1] at q
      have : i = n := by omega
      subst this
      rw [hx]
      exact hk
    all_goals rw [hr.1] at q
    · omega
    · omega
    · have h1 := rw_cy_lt ho n (by omega) i (by omega)
      have h2 := (ho i (by omega)).2.2.2.2.1
      rw [jm_tn, hc i (by omega), (hr.2.2 i (by omega)).2.2.2.2.1, jm_w (by omega) (by omega), jm_w (by omega) (by omega)]
      match m, hm with
      | 0, hm => omega
      | m + 1, hm => exact rc_end8 ho hr hc m (i + 1) _ _ (by omega) (by omega) (by rw [hx]; rfl) (by omega) hk
theorem rc_end {K : Int → jm_H → Prop} (hr : rw_C h n r) (ho : rw_ok n r) (hk : ∀ h2 : jm_H, (∀ a b, a ≠ 45 → h2 a b = h a b) → K (rw_end (rw_cy r n) (r 4) n) h2) : jm_CI E jm_SH jm_m_Row_endAsWritten 3 [jm_R 37] h K :=
  jb_Row_endAsWritten (rc_findCycles hr ho fun h2 e1 e2 => rc_end8 ho (hr.off fun a b ha => e2 a b (by omega)) e1 n 0 _ _ (by omega) (by omega) rfl rfl (hk h2 e2))
end RW
