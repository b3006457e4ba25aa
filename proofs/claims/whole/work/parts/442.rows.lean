/-! SHORTEST: rows of at most three, and which of them need not be tried -/
abbrev in_I : Type := Nat × Nat × Nat × Nat
def vi_ (c : in_I) : Prop := c.1 < 7 ∧ c.2.1 < 3 ∧ c.2.2.1 < 3 ∧ c.2.2.2 < 3 ∧ (5 ≤ c.1 → c.2.2.2 = 0)
def ev_ (c : in_I) (s : Nat → Nat) : Nat → Nat := fun q => if q = c.2.1 then wo_ (c.1 : Nat) (s c.2.2.1) (s c.2.2.2) else s q
def fr_ : List in_I → (Nat → Nat) → Nat → Nat
  | [], s => s
  | c :: l, s => fr_ l (ev_ c s)
def kc_ (c : in_I) : Nat := if c.1 < 5 then 27 * c.1 + 9 * c.2.1 + 3 * c.2.2.1 + c.2.2.2 else 135 + 9 * (c.1 - 5) + 3 * c.2.1 + c.2.2.1
def nm_ : List in_I → Nat → Nat
  | [], a => a
  | c :: l, a => nm_ l (153 * a + kc_ c)
def sf_e (s s2 : List in_I) : Prop := ∀ a w, a < 16 → w < 16 → fr_ s (i0_ a w) 0 = fr_ s2 (i0_ a w) 0
/-- something shorter, or ahead of it, does the same -/
def RD_ (s : List in_I) : Prop := ∃ s2, (∀ c ∈ s2, vi_ c) ∧ sf_e s s2 ∧ (s2.length < s.length ∨ (s2.length = s.length ∧ nm_ s2 0 < nm_ s 0))
def iN_ (op x y : Nat) : Prop := (op = 0 ∧ x ≤ y) ∨ (op = 1 ∧ x ≠ y) ∨ ((op = 2 ∨ op = 3 ∨ op = 4) ∧ x < y) ∨ op = 6
def iF_ (op x y : Nat) : Prop := (op = 1 → y ≠ 2) ∧ ((op = 2 ∨ op = 3 ∨ op = 4) → x = 0 ∧ y = 1)
def rd_ (c : in_I) (q : Nat) : Prop := c.2.2.1 = q ∨ (c.1 < 5 ∧ c.2.2.2 = q)
theorem kc_lt {c : in_I} (h : vi_ c) : kc_ c < 153 := by
  obtain ⟨h1, h2, h3, h4, h5⟩ := h
  unfold kc_
  split <;> omega
theorem wo_0 (a b : Nat) : wo_ ((0 : Nat) : Int) a b = (a + b) % 16 := rfl
theorem wo_1 (a b : Nat) : wo_ ((1 : Nat) : Int) a b = (a + 16 - b) % 16 := rfl
theorem wo_2 (a b : Nat) : wo_ ((2 : Nat) : Int) a b = a &&& b := rfl
theorem wo_3 (a b : Nat) : wo_ ((3 : Nat) : Int) a b = a ||| b := rfl
theorem wo_4 (a b : Nat) : wo_ ((4 : Nat) : Int) a b = a ^^^ b := rfl
theorem wo_5 (a b : Nat) : wo_ ((5 : Nat) : Int) a b = (2 * a) % 16 := rfl
theorem wo_6 (a b : Nat) : wo_ ((6 : Nat) : Int) a b = 15 - a := rfl
/-- a row's second source counts only if it has one -/
theorem wo_y {op a b b2 : Nat} (h1 : op < 7) (h2 : ¬ op < 5) : wo_ (op : Nat) a b = wo_ (op : Nat) a b2 := by
  rcases (show op = 5 ∨ op = 6 by omega) with rfl | rfl
  · rw [wo_5, wo_5]
  · rw [wo_6, wo_6]
theorem wo_cong {c : in_I} {s s2 : Nat → Nat} (hv : vi_ c) (h : ∀ q, rd_ c q → s q = s2 q) : wo_ (c.1 : Nat) (s c.2.2.1) (s c.2.2.2) = wo_ (c.1 : Nat) (s2 c.2.2.1) (s2 c.2.2.2) := by
  rw [h _ (Or.inl rfl)]
  by_cases q : c.1 < 5
  · rw [h _ (Or.inr ⟨q, rfl⟩)]
  · exact wo_y hv.1 q
def mp_ (g : Nat → Nat) (c : in_I) : in_I := (c.1, c.2.1, g c.2.2.1, if c.1 < 5 then g c.2.2.2 else 0)
theorem mp_vi {g : Nat → Nat} {c : in_I} (hv : vi_ c) (hg : ∀ q, q < 3 → g q < 3) : vi_ (mp_ g c) := by
  obtain ⟨h1, h2, h3, h4, h5⟩ := hv
  refine ⟨h1, h2, hg _ h3, ?_, fun z => ?_⟩
  · show (if c.1 < 5 then g c.2.2.2 else 0) < 3
    split
    · exact hg _ h4
    · omega
  · show (if c.1 < 5 then g c.2.2.2 else 0) = 0
    have z2 : 5 ≤ c.1 := z
    rw [if_neg (by omega)]
theorem mp_wo {g : Nat → Nat} {c : in_I} {s s2 : Nat → Nat} (hv : vi_ c) (h : ∀ q, q < 3 → s2 (g q) = s q) : wo_ (c.1 : Nat) (s c.2.2.1) (s c.2.2.2) = wo_ ((mp_ g c).1 : Nat) (s2 (mp_ g c).2.2.1) (s2 (mp_ g c).2.2.2) := by
  show _ = wo_ (c.1 : Nat) (s2 (g c.2.2.1)) (s2 (if c.1 < 5 then g c.2.2.2 else 0))
  rw [h _ hv.2.2.1]
  by_cases q : c.1 < 5
  · rw [if_pos q, h _ hv.2.2.2.1]
  · exact wo_y hv.1 q
/-- what is not new: something ahead of it does the same, or it makes 0, or it copies -/
theorem nN_ {c : in_I} (hv : vi_ c) (h : ¬ iN_ c.1 c.2.2.1 c.2.2.2) : (∃ c2, vi_ c2 ∧ kc_ c2 < kc_ c ∧ ∀ s, ev_ c2 s = ev_ c s) ∨ (∀ u, wo_ (c.1 : Nat) u u = 0) ∧ c.2.2.1 = c.2.2.2 ∧ 1 ≤ c.1 ∨ (∀ u, wo_ (c.1 : Nat) u u = u) ∧ c.2.2.1 = c.2.2.2 ∧ 1 ≤ c.1 := by
  obtain ⟨op, t, x, y⟩ := c
  obtain ⟨h1, h2, h3, h4, h5⟩ := hv
  simp only at h1 h2 h3 h4 h5 h ⊢
  have swap : ∀ o : Nat, o < 5 → op = o → y < x → (∀ a b, wo_ (o : Nat) a b = wo_ (o : Nat) b a) → ∃ c2, vi_ c2 ∧ kc_ c2 < kc_ (op, t, x, y) ∧ ∀ s, ev_ c2 s = ev_ (op, t, x, y) s := fun o ho e hxy hc => by
    subst e
    refine ⟨(op, t, y, x), ⟨by simpa using h1, by simpa using h2, by simpa using h4, by simpa using h3, fun z => by simp only at z; omega⟩, ?_, fun s => ?_⟩
    · unfold kc_
      simp only
      rw [if_pos ho, if_pos ho]
      omega
    · funext q
      unfold ev_
      simp only
      split
      · exact hc _ _
      · rfl
  rcases (show op = 0 ∨ op = 1 ∨ op = 2 ∨ op = 3 ∨ op = 4 ∨ op = 5 ∨ op = 6 by omega) with e | e | e | e | e | e | e
  · exact Or.inl (swap 0 (by omega) e (by have : ¬ x ≤ y := fun z => h (Or.inl ⟨e, z⟩); omega) (fun a b => by rw [wo_0, wo_0, Nat.add_comm]))
  · have hxy : x = y := Classical.byContradiction fun z => h (Or.inr (Or.inl ⟨e, z⟩))
    subst e
    exact Or.inr (Or.inl ⟨fun u => by rw [wo_1]; omega, hxy, by omega⟩)
  · by_cases q : x = y
    · subst e
      exact Or.inr (Or.inr ⟨fun u => by rw [wo_2, Nat.and_self], q, by omega⟩)
    · exact Or.inl (swap 2 (by omega) e (by have : ¬ x < y := fun z => h (Or.inr (Or.inr (Or.inl ⟨Or.inl e, z⟩))); omega) (fun a b => by rw [wo_2, wo_2, Nat.and_comm]))
  · by_cases q : x = y
    · subst e
      exact Or.inr (Or.inr ⟨fun u => by rw [wo_3, Nat.or_self], q, by omega⟩)
    · exact Or.inl (swap 3 (by omega) e (by have : ¬ x < y := fun z => h (Or.inr (Or.inr (Or.inl ⟨Or.inr (Or.inl e), z⟩))); omega) (fun a b => by rw [wo_3, wo_3, Nat.or_comm]))
  · by_cases q : x = y
    · subst e
      exact Or.inr (Or.inl ⟨fun u => by rw [wo_4, Nat.xor_self], q, by omega⟩)
    · exact Or.inl (swap 4 (by omega) e (by have : ¬ x < y := fun z => h (Or.inr (Or.inr (Or.inl ⟨Or.inr (Or.inr e), z⟩))); omega) (fun a b => by rw [wo_4, wo_4, Nat.xor_comm]))
  · subst e
    refine Or.inl ⟨(0, t, x, x), ⟨by simp, by simpa using h2, by simpa using h3, by simpa using h3, fun z => by simp at z⟩, ?_, fun s => ?_⟩
    · unfold kc_
      simp only
      rw [if_pos (by omega), if_neg (by omega)]
      omega
    · funext q
      unfold ev_
      simp only
      split
      · show (s x + s x) % 16 = (2 * s x) % 16
        omega
      · rfl
  · exact absurd (Or.inr (Or.inr (Or.inr e))) h
/-- at first register 2 is 0 -/
theorem nF_ {c : in_I} (hv : vi_ c) (h : ¬ (iN_ c.1 c.2.2.1 c.2.2.2 ∧ iF_ c.1 c.2.2.1 c.2.2.2)) : ∃ c2, vi_ c2 ∧ kc_ c2 < kc_ c ∧ ∀ s : Nat → Nat, s 2 = 0 → (∀ q, s q < 16) → ev_ c2 s = ev_ c s := by
  have zero : 1 ≤ c.1 → (∀ s : Nat → Nat, s 2 = 0 → (∀ q, s q < 16) → wo_ (c.1 : Nat) (s c.2.2.1) (s c.2.2.2) = 0) → ∃ c2, vi_ c2 ∧ kc_ c2 < kc_ c ∧ ∀ s : Nat → Nat, s 2 = 0 → (∀ q, s q < 16) → ev_ c2 s = ev_ c s := fun ho hz => by
    refine ⟨(0, c.2.1, 2, 2), ⟨by simp, hv.2.1, by simp, by simp, fun z => by simp at z⟩, ?_, fun s h2 hs => ?_⟩
    · have := hv.2.1
      unfold kc_
      simp only
      rw [if_pos (by omega)]
      split <;> omega
    · funext q
      unfold ev_
      simp only
      split
      · rw [hz s h2 hs]
        show (s 2 + s 2) % 16 = 0
        rw [h2]
      · rfl
  have copy : 1 ≤ c.1 → (∀ s : Nat → Nat, s 2 = 0 → (∀ q, s q < 16) → wo_ (c.1 : Nat) (s c.2.2.1) (s c.2.2.2) = s c.2.2.1) → ∃ c2, vi_ c2 ∧ kc_ c2 < kc_ c ∧ ∀ s : Nat → Nat, s 2 = 0 → (∀ q, s q < 16) → ev_ c2 s = ev_ c s := fun ho hz => by
    refine ⟨(0, c.2.1, c.2.2.1, 2), ⟨by simp, hv.2.1, hv.2.2.1, by simp, fun z => by simp at z⟩, ?_, fun s h2 hs => ?_⟩
    · have := hv.2.1
      have := hv.2.2.1
      unfold kc_
      simp only
      rw [if_pos (by omega)]
      split <;> omega
    · funext q
      unfold ev_
      simp only
      split
      · rw [hz s h2 hs]
        show (s c.2.2.1 + s 2) % 16 = _
        have := hs c.2.2.1
        rw [h2]
        omega
      · rfl
  by_cases hN : iN_ c.1 c.2.2.1 c.2.2.2
  · have hF : ¬ iF_ c.1 c.2.2.1 c.2.2.2 := fun z => h ⟨hN, z⟩
    obtain ⟨op, t, x, y⟩ := c
    obtain ⟨h1, h2, h3, h4, h5⟩ := hv
    simp only at h1 h2 h3 h4 h5 hN hF zero copy ⊢
    unfold iF_ at hF
    unfold iN_ at hN
    rcases (show op = 0 ∨ op = 1 ∨ op = 2 ∨ op = 3 ∨ op = 4 ∨ op = 5 ∨ op = 6 by omega) with e | e | e | e | e | e | e
    · exact absurd ⟨fun z => by omega, fun z => by omega⟩ hF
    · have hy : y = 2 := Classical.byContradiction fun z => hF ⟨fun _ => z, fun z => by omega⟩
      subst e
      subst hy
      exact copy (by omega) (fun s z1 z2 => by
        have := z2 x
        rw [wo_1, z1]
        omega)
    · have hy : y = 2 := by
        have : ¬ (x = 0 ∧ y = 1) := fun z => hF ⟨fun w => by omega, fun _ => z⟩
        omega
      subst e
      subst hy
      exact zero (by omega) (fun s z1 z2 => by rw [wo_2, z1, Nat.and_zero])
    · have hy : y = 2 := by
        have : ¬ (x = 0 ∧ y = 1) := fun z => hF ⟨fun w => by omega, fun _ => z⟩
        omega
      subst e
      subst hy
      exact copy (by omega) (fun s z1 z2 => by rw [wo_3, z1, Nat.or_zero])
    · have hy : y = 2 := by
        have : ¬ (x = 0 ∧ y = 1) := fun z => hF ⟨fun w => by omega, fun _ => z⟩
        omega
      subst e
      subst hy
      exact copy (by omega) (fun s z1 z2 => by rw [wo_4, z1, Nat.xor_zero])
    · exact absurd ⟨fun z => by omega, fun z => by omega⟩ hF
    · exact absurd ⟨fun z => by omega, fun z => by omega⟩ hF
  · rcases nN_ hv hN with ⟨c2, a1, a2, a3⟩ | ⟨a1, a2, a3⟩ | ⟨a1, a2, a3⟩
    · exact ⟨c2, a1, a2, fun s _ _ => a3 s⟩
    · exact zero a3 (fun s _ _ => by rw [a2]; exact a1 _)
    · exact copy a3 (fun s _ _ => by rw [a2]; exact a1 _)
theorem ev_s (c : in_I) (s : Nat → Nat) : ev_ c s c.2.1 = wo_ (c.1 : Nat) (s c.2.2.1) (s c.2.2.2) := by
  unfold ev_
  rw [if_pos rfl]
theorem ev_o {c : in_I} {s : Nat → Nat} {q : Nat} (h : q ≠ c.2.1) : ev_ c s q = s q := by
  unfold ev_
  rw [if_neg h]
theorem ev_t0 {c : in_I} (s : Nat → Nat) (h : c.2.1 = 0) : ev_ c s 0 = wo_ (c.1 : Nat) (s c.2.2.1) (s c.2.2.2) := by
  rw [← h]
  exact ev_s c s
theorem i0_2 (a w : Nat) : i0_ a w 2 = 0 := rfl
/-- what one row of one, two, three must be -/
def P1_ (c : in_I) : Prop := c.2.1 = 0 ∧ iN_ c.1 c.2.2.1 c.2.2.2 ∧ iF_ c.1 c.2.2.1 c.2.2.2
def P2_ (c d : in_I) : Prop := (iN_ c.1 c.2.2.1 c.2.2.2 ∧ iF_ c.1 c.2.2.1 c.2.2.2) ∧ iN_ d.1 d.2.2.1 d.2.2.2 ∧ d.2.1 = 0 ∧ rd_ d c.2.1
def P3_ (c d e : in_I) : Prop := (iN_ c.1 c.2.2.1 c.2.2.2 ∧ iF_ c.1 c.2.2.1 c.2.2.2) ∧ iN_ d.1 d.2.2.1 d.2.2.2 ∧ iN_ e.1 e.2.2.1 e.2.2.2 ∧ e.2.1 = 0 ∧ rd_ e d.2.1 ∧ (rd_ d c.2.1 ∨ (d.2.1 ≠ c.2.1 ∧ rd_ e c.2.1))
theorem pr_1 {c : in_I} (hc : vi_ c) (h : ¬ P1_ c) : RD_ [c] := by
  by_cases ht : c.2.1 = 0
  · obtain ⟨c2, a1, a2, a3⟩ := nF_ hc (fun z => h ⟨ht, z⟩)
    refine ⟨[c2], by simpa using a1, fun a w ha hw => ?_, Or.inr ⟨rfl, by simpa [nm_] using a2⟩⟩
    show ev_ c _ 0 = ev_ c2 _ 0
    rw [a3 _ (i0_2 a w) (i0_lt ha hw)]
  · refine ⟨[], by simp, fun a w ha hw => ?_, Or.inl (by simp)⟩
    show ev_ c _ 0 = _
    rw [ev_o (by omega)]
    rfl
theorem pr_2 {c d : in_I} (hc : vi_ c) (hd : vi_ d) (h : ¬ P2_ c d) : RD_ [c, d] := by
  by_cases h1 : iN_ c.1 c.2.2.1 c.2.2.2 ∧ iF_ c.1 c.2.2.1 c.2.2.2
  case neg =>
    obtain ⟨c2, a1, a2, a3⟩ := nF_ hc h1
    refine ⟨[c2, d], by simpa using ⟨a1, hd⟩, fun a w ha hw => ?_, Or.inr ⟨rfl, by simp [nm_]; omega⟩⟩
    show ev_ d (ev_ c _) 0 = ev_ d (ev_ c2 _) 0
    rw [a3 _ (i0_2 a w) (i0_lt ha hw)]
  by_cases ht : d.2.1 = 0
  case neg =>
    refine ⟨[c], by simpa using hc, fun a w ha hw => ?_, Or.inl (by simp)⟩
    show ev_ d (ev_ c _) 0 = ev_ c _ 0
    rw [ev_o (by omega)]
  by_cases h2 : iN_ d.1 d.2.2.1 d.2.2.2
  case neg =>
    rcases nN_ hd h2 with ⟨d2, a1, a2, a3⟩ | ⟨a1, a2, a3⟩ | ⟨a1, a2, a3⟩
    · refine ⟨[c, d2], by simpa using ⟨hc, a1⟩, fun a w ha hw => ?_, Or.inr ⟨rfl, by simp [nm_]; omega⟩⟩
      show ev_ d (ev_ c _) 0 = ev_ d2 (ev_ c _) 0
      rw [a3]
    · refine ⟨[d], by simpa using hd, fun a w ha hw => ?_, Or.inl (by simp)⟩
      show ev_ d (ev_ c _) 0 = ev_ d _ 0
      rw [ev_t0 _ ht, ev_t0 _ ht, a2, a1, a1]
    · by_cases x0 : d.2.2.2 = 0
      · refine ⟨[c], by simpa using hc, fun a w ha hw => ?_, Or.inl (by simp)⟩
        show ev_ d (ev_ c _) 0 = ev_ c _ 0
        rw [ev_t0 _ ht, a2, a1, x0]
      · by_cases x1 : d.2.2.2 = c.2.1
        · refine ⟨[(c.1, 0, c.2.2.1, c.2.2.2)], by simpa [vi_] using ⟨hc.1, hc.2.2.1, hc.2.2.2.1, hc.2.2.2.2⟩, fun a w ha hw => ?_, Or.inl (by simp)⟩
          show ev_ d (ev_ c _) 0 = ev_ (c.1, 0, c.2.2.1, c.2.2.2) _ 0
          rw [ev_t0 _ ht, a2, a1, x1, ev_s, ev_t0 _ rfl]
        · refine ⟨[d], by simpa using hd, fun a w ha hw => ?_, Or.inl (by simp)⟩
          show ev_ d (ev_ c _) 0 = ev_ d _ 0
          rw [ev_t0 _ ht, ev_t0 _ ht, a2, a1, a1, ev_o x1]
  have h3 : ¬ rd_ d c.2.1 := fun z => h ⟨h1, h2, ht, z⟩
  refine ⟨[d], by simpa using hd, fun a w ha hw => ?_, Or.inl (by simp)⟩
  show ev_ d (ev_ c _) 0 = ev_ d _ 0
  rw [ev_t0 _ ht, ev_t0 _ ht]
  exact wo_cong hd (fun q hq => ev_o (fun z => h3 (by rw [← z]; exact hq)))
theorem pr_3 {c d e : in_I} (hc : vi_ c) (hd : vi_ d) (he : vi_ e) (h : ¬ P3_ c d e) : RD_ [c, d, e] := by
  by_cases h1 : iN_ c.1 c.2.2.1 c.2.2.2 ∧ iF_ c.1 c.2.2.1 c.2.2.2
  case neg =>
    obtain ⟨c2, a1, a2, a3⟩ := nF_ hc h1
    refine ⟨[c2, d, e], by simpa using ⟨a1, hd, he⟩, fun a w ha hw => ?_, Or.inr ⟨rfl, by simp [nm_]; omega⟩⟩
    show ev_ e (ev_ d (ev_ c _)) 0 = ev_ e (ev_ d (ev_ c2 _)) 0
    rw [a3 _ (i0_2 a w) (i0_lt ha hw)]
  by_cases ht : e.2.1 = 0
  case neg =>
    refine ⟨[c, d], by simpa using ⟨hc, hd⟩, fun a w ha hw => ?_, Or.inl (by simp)⟩
    show ev_ e (ev_ d (ev_ c _)) 0 = ev_ d (ev_ c _) 0
    rw [ev_o (by omega)]
  by_cases h3 : iN_ e.1 e.2.2.1 e.2.2.2
  case neg =>
    rcases nN_ he h3 with ⟨d2, a1, a2, a3⟩ | ⟨a1, a2, a3⟩ | ⟨a1, a2, a3⟩
    · refine ⟨[c, d, d2], by simpa using ⟨hc, hd, a1⟩, fun a w ha hw => ?_, Or.inr ⟨rfl, by simp [nm_]; omega⟩⟩
      show ev_ e (ev_ d (ev_ c _)) 0 = ev_ d2 (ev_ d (ev_ c _)) 0
      rw [a3]
    · refine ⟨[e], by simpa using he, fun a w ha hw => ?_, Or.inl (by simp)⟩
      show ev_ e (ev_ d (ev_ c _)) 0 = ev_ e _ 0
      rw [ev_t0 _ ht, ev_t0 _ ht, a2, a1, a1]
    · by_cases x0 : e.2.2.2 = 0
      · refine ⟨[c, d], by simpa using ⟨hc, hd⟩, fun a w ha hw => ?_, Or.inl (by simp)⟩
        show ev_ e (ev_ d (ev_ c _)) 0 = ev_ d (ev_ c _) 0
        rw [ev_t0 _ ht, a2, a1, x0]
      · by_cases x1 : e.2.2.2 = d.2.1
        · refine ⟨[c, (d.1, 0, d.2.2.1, d.2.2.2)], by simpa [vi_] using ⟨hc, hd.1, hd.2.2.1, hd.2.2.2.1, hd.2.2.2.2⟩, fun a w ha hw => ?_, Or.inl (by simp)⟩
          show ev_ e (ev_ d (ev_ c _)) 0 = ev_ (d.1, 0, d.2.2.1, d.2.2.2) (ev_ c _) 0
          rw [ev_t0 _ ht, a2, a1, x1, ev_s, ev_t0 _ rfl]
        · refine ⟨[c, e], by simpa using ⟨hc, he⟩, fun a w ha hw => ?_, Or.inl (by simp)⟩
          show ev_ e (ev_ d (ev_ c _)) 0 = ev_ e (ev_ c _) 0
          rw [ev_t0 _ ht, ev_t0 _ ht, a2, a1, a1, ev_o x1]
  by_cases h4 : rd_ e d.2.1
  case neg =>
    refine ⟨[c, e], by simpa using ⟨hc, he⟩, fun a w ha hw => ?_, Or.inl (by simp)⟩
    show ev_ e (ev_ d (ev_ c _)) 0 = ev_ e (ev_ c _) 0
    rw [ev_t0 _ ht, ev_t0 _ ht]
    exact wo_cong he (fun q hq => ev_o (fun z => h4 (by rw [← z]; exact hq)))
  by_cases h2 : iN_ d.1 d.2.2.1 d.2.2.2
  case neg =>
    rcases nN_ hd h2 with ⟨d2, a1, a2, a3⟩ | ⟨a1, a2, a3⟩ | ⟨a1, a2, a3⟩
    · have k1 := kc_lt a1
      have k2 := kc_lt hd
      refine ⟨[c, d2, e], by simpa using ⟨hc, a1, he⟩, fun a w ha hw => ?_, Or.inr ⟨rfl, by simp [nm_]; omega⟩⟩
      show ev_ e (ev_ d (ev_ c _)) 0 = ev_ e (ev_ d2 (ev_ c _)) 0
      rw [a3]
    · -- 0 in between
      have hz : ∀ s : Nat → Nat, ev_ d s d.2.1 = 0 := fun s => by rw [ev_s, a2, a1]
      by_cases x1 : c.2.1 = 2
      · by_cases x2 : d.2.1 = 2
        · refine ⟨[e], by simpa using he, fun a w ha hw => ?_, Or.inl (by simp)⟩
          show ev_ e (ev_ d (ev_ c _)) 0 = ev_ e _ 0
          rw [ev_t0 _ ht, ev_t0 _ ht]
          refine wo_cong he (fun q hq => ?_)
          by_cases q2 : q = 2
          · rw [q2, ← x2, hz, x2]
            rfl
          · rw [ev_o (by omega), ev_o (by omega)]
        · refine ⟨[(c.1, d.2.1, c.2.2.1, c.2.2.2), mp_ (fun q => if q = d.2.1 then 2 else if q = 2 then d.2.1 else q) e], ?_, fun a w ha hw => ?_, Or.inl (by simp)⟩
          · have m1 := mp_vi (g := fun q => if q = d.2.1 then 2 else if q = 2 then d.2.1 else q) he (fun q hq => by
              have := hd.2.1
              split
              · omega
              · split <;> omega)
            intro x hx
            simp only [List.mem_cons, List.not_mem_nil, or_false] at hx
            rcases hx with rfl | rfl
            · exact ⟨hc.1, hd.2.1, hc.2.2.1, hc.2.2.2.1, hc.2.2.2.2⟩
            · exact m1
          · show ev_ e (ev_ d (ev_ c _)) 0 = ev_ (mp_ _ e) (ev_ (c.1, d.2.1, c.2.2.1, c.2.2.2) _) 0
            rw [ev_t0 _ ht, ev_t0 _ (show (mp_ _ e).2.1 = 0 from ht)]
            refine mp_wo he (fun q hq => ?_)
            by_cases q1 : q = d.2.1
            · rw [if_pos q1, q1, hz]
              exact ev_o (c := (c.1, d.2.1, c.2.2.1, c.2.2.2)) (s := i0_ a w) (show (2 : Nat) ≠ d.2.1 from fun z => x2 z.symm)
            · rw [if_neg q1]
              by_cases q2 : q = 2
              · rw [if_pos q2, ev_o (c := d) (s := ev_ c _) q1, q2]
                have t1 : ev_ c (i0_ a w) 2 = wo_ (c.1 : Nat) (i0_ a w c.2.2.1) (i0_ a w c.2.2.2) := by rw [← ev_s, x1]
                rw [t1]
                exact ev_s (c.1, d.2.1, c.2.2.1, c.2.2.2) (i0_ a w)
              · rw [if_neg q2, ev_o (c := d) (s := ev_ c _) q1, ev_o (c := c) (by omega)]
                exact ev_o (c := (c.1, d.2.1, c.2.2.1, c.2.2.2)) (s := i0_ a w) q1
      · refine ⟨[c, mp_ (fun q => if q = d.2.1 then 2 else q) e], ?_, fun a w ha hw => ?_, Or.inl (by simp)⟩
        · have m1 := mp_vi (g := fun q => if q = d.2.1 then 2 else q) he (fun q hq => by
            split <;> omega)
          intro x hx
          simp only [List.mem_cons, List.not_mem_nil, or_false] at hx
          rcases hx with rfl | rfl
          · exact hc
          · exact m1
        · show ev_ e (ev_ d (ev_ c _)) 0 = ev_ (mp_ _ e) (ev_ c _) 0
          rw [ev_t0 _ ht, ev_t0 _ (show (mp_ _ e).2.1 = 0 from ht)]
          refine mp_wo he (fun q hq => ?_)
          by_cases q1 : q = d.2.1
          · rw [if_pos q1, q1, hz, ev_o (fun z => x1 z.symm), i0_2]
          · rw [if_neg q1, ev_o (s := ev_ c _) q1]
    · -- a copy in between
      have hz : ∀ s : Nat → Nat, ev_ d s d.2.1 = s d.2.2.1 := fun s => by rw [ev_s, a2, a1]
      refine ⟨[c, mp_ (fun q => if q = d.2.1 then d.2.2.1 else q) e], ?_, fun a w ha hw => ?_, Or.inl (by simp)⟩
      · have m1 := mp_vi (g := fun q => if q = d.2.1 then d.2.2.1 else q) he (fun q hq => by
          have := hd.2.2.1
          split <;> omega)
        intro x hx
        simp only [List.mem_cons, List.not_mem_nil, or_false] at hx
        rcases hx with rfl | rfl
        · exact hc
        · exact m1
      · show ev_ e (ev_ d (ev_ c _)) 0 = ev_ (mp_ _ e) (ev_ c _) 0
        rw [ev_t0 _ ht, ev_t0 _ (show (mp_ _ e).2.1 = 0 from ht)]
        refine mp_wo he (fun q hq => ?_)
        by_cases q1 : q = d.2.1
        · rw [if_pos q1, q1, hz]
        · rw [if_neg q1, ev_o (s := ev_ c _) q1]
  have h5 : ¬ (rd_ d c.2.1 ∨ (d.2.1 ≠ c.2.1 ∧ rd_ e c.2.1)) := fun z => h ⟨h1, h2, h3, ht, h4, z⟩
  refine ⟨[d, e], by simpa using ⟨hd, he⟩, fun a w ha hw => ?_, Or.inl (by simp)⟩
  show ev_ e (ev_ d (ev_ c _)) 0 = ev_ e (ev_ d _) 0
  rw [ev_t0 _ ht, ev_t0 _ ht]
  refine wo_cong he (fun q hq => ?_)
  by_cases q1 : q = d.2.1
  · rw [q1, ev_s, ev_s]
    exact wo_cong hd (fun q2 hq2 => ev_o (fun z => h5 (Or.inl (by rw [← z]; exact hq2))))
  · rw [ev_o (c := d) q1, ev_o (c := d) q1, ev_o (c := c) (fun z => h5 (Or.inr ⟨fun y => q1 (by rw [z, y]), by rw [← z]; exact hq⟩))]
