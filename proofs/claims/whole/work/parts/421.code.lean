/-! CODE: what it says -/
theorem cv_out {n m : Nat} {f : Nat → Int} {g : Nat → Nat → Int} {L : Nat → Nat} : ∀ k a b, n ≤ a → k ≤ n → cv_ n m f g L k a b = ((1000000, -1), (1000000, -1))
  | 0, _, _, _, _ => rfl
  | k + 1, a, b, h, hk => by
    show (if a = n - 1 - k then _ else _) = _
    rw [if_neg (by omega)]
    exact cv_out k a b h (by omega)
theorem cv_top {n m : Nat} {f : Nat → Int} {g : Nat → Nat → Int} {L : Nat → Nat} {k a b : Nat} : ∀ j, n - k ≤ a → a < n → k + j ≤ n → cv_ n m f g L (k + j) a b = cv_ n m f g L k a b
  | 0, _, _, _ => rfl
  | j + 1, h1, h2, h3 => by
    have ih := cv_top (m := m) (f := f) (g := g) (L := L) (b := b) j h1 h2 (by omega)
    rw [← ih]
    show (if a = n - 1 - (k + j) then _ else _) = _
    rw [if_neg (by omega)]
    rfl
theorem pl_congr {f : Nat → Int} {S : Nat → Nat} {g : Nat → Nat → Int} {L : Nat → Nat} {C C2 : Nat → Nat → Int} {a b m : Nat} (ho : pa_ok m g L) (e : ∀ x y, a < x → C x y = C2 x y) : ∀ q, q ≤ m → pl_ f S g L C a b q = pl_ f S g L C2 a b q
  | 0, _ => rfl
  | q + 1, hq => by
    unfold pl_
    rw [pl_congr ho e q (by omega)]
    by_cases ch : ch_p g L q
    · rw [if_neg (fun z => z.2.1 ch), if_neg (fun z => z.2.1 ch)]
    · have h0 : ¬ 0 ≤ hd_ ((fun i => g q (i + 2)) 0) := ch_0 ho (by omega) ch
      rw [cw_congr0 (t := fun i => g q (i + 2)) (i := 0) h0 e]
/-- the costs, each from those behind it -/
theorem cv_eq {n m : Nat} {f : Nat → Int} {g : Nat → Nat → Int} {L : Nat → Nat} (ho : pa_ok m g L) {a b : Nat} (ha : a < n) : cv_ n m f g L n a b = (pl_ f (te_S f n) g L (fun x y => (cv_ n m f g L n x y).2.1) a b m, co_ g L (fun y => (cv_ n m f g L n a y).1.1) (fun y => (cv_ n m f g L n a y).1.2) b m) := by
  obtain ⟨k, hk⟩ : ∃ k, k + 1 + a = n := ⟨n - 1 - a, by omega⟩
  have ag : ∀ x y, a < x → (cv_ n m f g L k x y).2.1 = (cv_ n m f g L n x y).2.1 := fun x y hx => by
    by_cases hx2 : x < n
    · rw [show n = k + (n - k) by omega]
      rw [show k + (n - k) = n by omega]
      have := cv_top (m := m) (f := f) (g := g) (L := L) (k := k) (a := x) (b := y) (n := n) (n - k) (by omega) hx2 (by omega)
      rw [show k + (n - k) = n by omega] at this
      rw [this]
    · rw [cv_out k x y (by omega) (by omega), cv_out n x y (by omega) (by omega)]
  have st : ∀ b, cv_ n m f g L n a b = (pl_ f (te_S f n) g L (fun x y => (cv_ n m f g L n x y).2.1) a b m, co_ g L (fun y => (pl_ f (te_S f n) g L (fun x y => (cv_ n m f g L n x y).2.1) a y m).1) (fun y => (pl_ f (te_S f n) g L (fun x y => (cv_ n m f g L n x y).2.1) a y m).2) b m) := fun b => by
    have t := cv_top (m := m) (f := f) (g := g) (L := L) (k := k + 1) (a := a) (b := b) (n := n) (n - (k + 1)) (by omega) ha (by omega)
    rw [show k + 1 + (n - (k + 1)) = n by omega] at t
    rw [t]
    show (if a = n - 1 - k then _ else _) = _
    rw [if_pos (by omega)]
    have e : ∀ y, pl_ f (te_S f n) g L (fun x y => (cv_ n m f g L k x y).2.1) a y m = pl_ f (te_S f n) g L (fun x y => (cv_ n m f g L n x y).2.1) a y m := fun y => pl_congr ho ag m (Nat.le_refl _)
    rw [e b, show (fun y => (pl_ f (te_S f n) g L (fun x y => (cv_ n m f g L k x y).2.1) a y m).1) = fun y => (pl_ f (te_S f n) g L (fun x y => (cv_ n m f g L n x y).2.1) a y m).1 from funext fun y => by rw [e y], show (fun y => (pl_ f (te_S f n) g L (fun x y => (cv_ n m f g L k x y).2.1) a y m).2) = fun y => (pl_ f (te_S f n) g L (fun x y => (cv_ n m f g L n x y).2.1) a y m).2 from funext fun y => by rw [e y]]
  rw [show (fun y => (cv_ n m f g L n a y).1.1) = fun y => (pl_ f (te_S f n) g L (fun x y => (cv_ n m f g L n x y).2.1) a y m).1 from funext fun y => by rw [st y], show (fun y => (cv_ n m f g L n a y).1.2) = fun y => (pl_ f (te_S f n) g L (fun x y => (cv_ n m f g L n x y).2.1) a y m).2 from funext fun y => by rw [st y]]
  exact st b
theorem co_q {g : Nat → Nat → Int} {L : Nat → Nat} {m : Nat} {P B : Nat → Int} {b : Nat} (hq : ∀ y, y < 2 → pq_ g L m P B y) (hb : b < 2) (hg : ∀ q, q < m → 0 ≤ g q 1) : ∀ q, q ≤ m → 0 ≤ (co_ g L P B b q).2 → (ch_p g L (co_ g L P B b q).2.toNat → 0 ≤ B (hd_ (g (co_ g L P B b q).2.toNat 2)).toNat) ∧ (¬ ch_p g L (co_ g L P B b q).2.toNat → B b = (co_ g L P B b q).2)
  | 0, _, w => absurd w (by unfold co_; simp)
  | q + 1, hqm, w => by
    have cb := co_b (g := g) (L := L) (P := P) (B := B) (b := b) q
    unfold co_ at w ⊢
    by_cases c : g q 0 = (b : Int) ∧ co_v g L P B b q < (co_ g L P B b q).1
    · rw [if_pos c]
      have c2 := c.2
      show (ch_p g L q → 0 ≤ B (hd_ (g q 2)).toNat) ∧ (¬ ch_p g L q → B b = q)
      unfold co_v at c2
      refine ⟨fun ch => ?_, fun ch => ?_⟩
      · rw [if_pos ch] at c2
        have hbd := hd_b (g q 2)
        obtain ⟨k1, k2, k3, k4, k5, k6⟩ := hq (hd_ (g q 2)).toNat (by have := ch.2; omega)
        have := hg q (by omega)
        rcases Int.lt_or_le (B (hd_ (g q 2)).toNat) 0 with z | z
        · have := k4 (by omega)
          omega
        · exact z
      · rw [if_neg ch] at c2
        by_cases e : B b = q
        · exact e
        · rw [if_neg e] at c2
          omega
    · rw [if_neg c] at w ⊢
      exact co_q hq hb hg q (by omega) w
theorem cw_s {f : Nat → Int} {S : Nat → Nat} {C : Nat → Nat → Int} {t : Nat → Int} (hC : ∀ a b, 0 ≤ C a b) : ∀ (d i a : Nat) (s : Int), cw_ f S C t d i a s < 1000000 → s < 1000000
  | 0, _, _, s, h => by
    have h2 : min s 1000000 < 1000000 := h
    omega
  | d + 1, i, a, s, h => by
    unfold cw_ at h
    split at h
    · have := cw_s hC d _ _ _ h
      have := hC a (hd_ (t i)).toNat
      omega
    · split at h
      · exact cw_s hC d _ _ _ h
      · omega
/-- how the costs hang together -/
def cq_ (n m : Nat) (f : Nat → Int) (S : Nat → Nat) (g : Nat → Nat → Int) (L : Nat → Nat) (C PB CB : Nat → Nat → Int) : Prop :=
  (∀ a b, 0 ≤ C a b) ∧ (∀ a b, a < n → b < 2 → 0 ≤ PB a b → PB a b < m ∧ ¬ ch_p g L (PB a b).toNat ∧ cw_ f S C (fun i => g (PB a b).toNat (i + 2)) (L (PB a b).toNat) 0 a (g (PB a b).toNat 1) < 1000000) ∧
  (∀ a b, a < n → b < 2 → 0 ≤ CB a b → CB a b < m ∧ (ch_p g L (CB a b).toNat → 0 ≤ PB a (hd_ (g (CB a b).toNat 2)).toNat) ∧ (¬ ch_p g L (CB a b).toNat → PB a b = CB a b)) ∧ ∀ a b, a < n → b < 2 → C a b < 1000000 → 0 ≤ CB a b
theorem cv_cq {n m : Nat} {f : Nat → Int} {g : Nat → Nat → Int} {L : Nat → Nat} (ho : pa_ok m g L) : cq_ n m f (te_S f n) g L (fun a b => (cv_ n m f g L n a b).2.1) (fun a b => (cv_ n m f g L n a b).1.2) (fun a b => (cv_ n m f g L n a b).2.2) := by
  have hg : ∀ q, q < m → 0 ≤ g q 1 := fun q hq => (ho q hq).2.1.1
  have hC : ∀ a b, 0 ≤ (cv_ n m f g L n a b).2.1 := fun a b => (cv_b hg n a b).1
  have e1 : ∀ a b, a < n → (cv_ n m f g L n a b).1 = pl_ f (te_S f n) g L (fun x y => (cv_ n m f g L n x y).2.1) a b m := fun a b ha => by
    have := cv_eq (n := n) (f := f) (b := b) ho ha
    rw [this]
  have e2 : ∀ a b, a < n → (cv_ n m f g L n a b).2 = co_ g L (fun y => (cv_ n m f g L n a y).1.1) (fun y => (cv_ n m f g L n a y).1.2) b m := fun a b ha => by
    have := cv_eq (n := n) (f := f) (b := b) ho ha
    rw [this]
  have hpq : ∀ a b, a < n → pq_ g L m (fun y => (cv_ n m f g L n a y).1.1) (fun y => (cv_ n m f g L n a y).1.2) b := fun a b ha => by
    have := pl_pq (f := f) (S := te_S f n) (L := L) (a := a) (b := b) hC hg
    unfold pq_ at this ⊢
    simp only [e1 a _ ha]
    exact this
  refine ⟨hC, fun a b ha hb w => ?_, fun a b ha hb w => ?_, fun a b ha hb w => ?_⟩
  · have h1 := pl_b (f := f) (S := te_S f n) (g := g) (L := L) (C := fun x y => (cv_ n m f g L n x y).2.1) (a := a) (b := b) m
    have h2 := pl_q (f := f) (S := te_S f n) (L := L) (a := a) (b := b) hC hg m (Nat.le_refl _)
    simp only [e1 a b ha] at w ⊢
    have h3 := h2.2 w
    refine ⟨h1.2.2.1, h3.1.1, ?_⟩
    rw [← h3.2]
    exact h1.2.2.2.2 w
  · have h1 := co_b (g := g) (L := L) (P := fun y => (cv_ n m f g L n a y).1.1) (B := fun y => (cv_ n m f g L n a y).1.2) (b := b) m
    simp only [e2 a b ha] at w ⊢
    exact ⟨h1.2.2.1, co_q (fun y _ => hpq a y ha) hb hg m (Nat.le_refl _) w⟩
  · have h1 := co_b (g := g) (L := L) (P := fun y => (cv_ n m f g L n a y).1.1) (B := fun y => (cv_ n m f g L n a y).1.2) (b := b) m
    simp only [e2 a b ha] at w ⊢
    rcases Int.lt_or_le (co_ g L (fun y => (cv_ n m f g L n a y).1.1) (fun y => (cv_ n m f g L n a y).1.2) b m).2 0 with z | z
    · have := h1.2.2.2.1 (by omega)
      omega
    · exact z
/-- where a pattern has heads -/
def hl_ (S : Nat → Nat) (t : Nat → Int) : Nat → Nat → Nat → List (Nat × Nat)
  | 0, _, _ => []
  | d + 1, i, a => if 0 ≤ hd_ (t i) then (a, (hd_ (t i)).toNat) :: hl_ S t d (i + 1) (a + S a) else hl_ S t d (i + 1) (a + 1)
def tl_ (g : Nat → Nat → Int) (L : Nat → Nat) (CB : Nat → Nat → Int) (pl : Nat → Nat → List (Nat × Nat)) (x y : Nat) : List (Nat × Nat) := if ch_p g L (CB x y).toNat then pl x (hd_ (g (CB x y).toNat 2)).toNat ++ [((CB x y).toNat, x)] else pl x y
/-- the rows of a plainly covered node -/
def cd_ (S : Nat → Nat) (g : Nat → Nat → Int) (L : Nat → Nat) (PB CB : Nat → Nat → Int) : Nat → Nat → Nat → List (Nat × Nat)
  | 0, _, _ => []
  | k + 1, a, b => (hl_ S (fun i => g (PB a b).toNat (i + 2)) (L (PB a b).toNat) 0 a).flatMap (fun q => tl_ g L CB (cd_ S g L PB CB k) q.1 q.2) ++ [((PB a b).toNat, a)]
/-- the depth of a node -/
def dp_ (f : Nat → Int) (j : Nat) : Nat := match ws_ f j with | none => 0 | some s => s.length
theorem wk_cl_len : ∀ {s s2 : List (Nat × Nat)}, wk_cl s = some s2 → s2.length ≤ s.length
  | [], s2, e => by cases e
  | (a, L) :: s, s2, e => by
    unfold wk_cl at e
    by_cases q : 2 ≤ L
    · rw [if_pos q] at e
      cases e
      simp
    · rw [if_neg q] at e
      have := wk_cl_len e
      simp
      omega
theorem dp_12 {p : Int} {f : Nat → Int} {n : Nat} (h : wk_ p f n 0 (some []) = -6) : ∀ i, i ≤ n → wk_ p f (n - i) i (ws_ f i) = -6 ∧ dp_ f i ≤ 12
  | 0, _ => ⟨h, by show ([] : List (Nat × Nat)).length ≤ 12; simp⟩
  | i + 1, hi => by
    obtain ⟨h1, h2⟩ := dp_12 h i (by omega)
    obtain ⟨k, hk⟩ : ∃ k, n - i = k + 1 := ⟨n - i - 1, by omega⟩
    rw [hk] at h1
    rw [show n - (i + 1) = k by omega]
    unfold dp_ at h2 ⊢
    cases hw : ws_ f i with
    | none =>
      rw [hw] at h1
      have h3 : (i : Int) = -6 := h1
      omega
    | some s =>
      rw [hw] at h1 h2
      have h2' : s.length ≤ 12 := h2
      have e : ws_ f (i + 1) = if 0 < pt_ (f i) then some ((i, pt_ (f i)) :: s) else wk_cl s := by
        show (match ws_ f i with | none => none | some s => _) = _
        rw [hw]
      rw [e]
      unfold wk_ at h1
      by_cases q : 0 < pt_ (f i)
      · rw [if_pos q] at h1 ⊢
        by_cases q2 : s.length < 12
        · rw [if_pos q2] at h1
          exact ⟨h1, by show ((i, pt_ (f i)) :: s).length ≤ 12; simp; omega⟩
        · rw [if_neg q2] at h1
          omega
      · rw [if_neg q] at h1 ⊢
        split at h1
        · refine ⟨h1, ?_⟩
          cases hc : wk_cl s with
          | none => exact Nat.zero_le _
          | some s2 =>
            have := wk_cl_len hc
            show s2.length ≤ 12
            omega
        · omega
theorem dp_pp {f : Nat → Int} {n : Nat} {S : Nat → Nat} (h0 : sp_ f n 1 0) (h : tr_ f n S) {i j : Nat} (hi : i < n) (hp : pp_ f S i j) : dp_ f j = dp_ f i + 1 := by
  have hps := tr_parts h hi
  obtain ⟨w1, -⟩ := ws_some h0 i (by omega)
  unfold dp_
  cases hw : ws_ f i with
  | none =>
    rw [hw] at w1
    obtain ⟨k, hk⟩ : ∃ k, n - i = k + 1 := ⟨n - i - 1, by omega⟩
    rw [hk] at w1
    exact w1.elim
  | some s =>
    have e : ws_ f (i + 1) = if 0 < pt_ (f i) then some ((i, pt_ (f i)) :: s) else wk_cl s := by
      show (match ws_ f i with | none => none | some s => _) = _
      rw [hw]
    rcases hp with ⟨rfl, q⟩ | ⟨rfl, q⟩
    · rw [if_pos (by omega)] at e
      rw [e]
      rfl
    · rw [q, if_pos (by omega)] at e
      have hin := hps.2.1 (by omega)
      have := ws_tree _ (i + 1) _ (h (i + 1) hin).1 e
      have e1 : wk_cl ((i, 2) :: s) = some ((i, 1) :: s) := by
        show (if 2 ≤ 2 then _ else _) = _
        rw [if_pos (by omega)]
      rw [this, e1]
      rfl
/-- inside a node all is deeper -/
theorem dp_in {f : Nat → Int} {n : Nat} {S : Nat → Nat} (h0 : sp_ f n 1 0) (h : tr_ f n S) : ∀ (m i j : Nat), S i = m → i < n → i < j → j < i + S i → dp_ f i < dp_ f j := by
  intro m
  induction m using Nat.strongRecOn with
  | ind m ih =>
    intro i j hm hi hij hj
    obtain ⟨t0, t1, t2, t3⟩ := tr_parts h hi
    have hpt := pt_b (f i)
    rcases (show pt_ (f i) = 0 ∨ pt_ (f i) = 1 ∨ pt_ (f i) = 2 by omega) with q | q | q
    · have := t0 q; omega
    · have e := t2 q
      have hin := t1 (by omega)
      have d1 := dp_pp h0 h hi (Or.inl ⟨rfl, by omega⟩)
      by_cases ej : j = i + 1
      · subst ej; omega
      · have := ih (S (i + 1)) (by omega) (i + 1) j rfl hin (by omega) (by omega)
        omega
    · obtain ⟨e1, e2⟩ := t3 q
      have hin := t1 (by omega)
      have hs1 := sp_pos (h (i + 1) hin).1
      have d1 := dp_pp h0 h hi (Or.inl ⟨rfl, by omega⟩)
      have d2 := dp_pp h0 h hi (Or.inr ⟨rfl, q⟩)
      by_cases ej : j = i + 1
      · subst ej; omega
      · by_cases ej2 : j < i + 1 + S (i + 1)
        · have := ih (S (i + 1)) (by omega) (i + 1) j rfl hin (by omega) ej2
          omega
        · by_cases ej3 : j = i + 1 + S (i + 1)
          · subst ej3; omega
          · have := ih (S (i + 1 + S (i + 1))) (by omega) (i + 1 + S (i + 1)) j rfl e1 (by omega) (by omega)
            omega
/-- one step of a pattern over a node: what it says of the heads -/
theorem hl_step {n p : Nat} {f : Nat → Int} {S : Nat → Nat} {g : Nat → Nat → Int} {C : Nat → Nat → Int} (ht : tr_ f n S) (hC : ∀ a b, 0 ≤ C a b) {d i a k l : Nat} {s : Int} (hsp : sp_ (fun i => g p (i + 2)) (d + 1) l i) (hsf : sp_ f k l a) (hak : a + k ≤ n) (hs : 0 ≤ s) (hw : cw_ f S C (fun i => g p (i + 2)) (d + 1) i a s < 1000000) :
    a < n ∧ 1 ≤ k ∧ (0 ≤ hd_ (g p (i + 2)) → ∃ b : Nat, b < 2 ∧ hd_ (g p (i + 2)) = (b : Int) ∧ C a b < 1000000 ∧ 1 ≤ S a ∧ S a ≤ k ∧ ∃ l2, sp_ (fun i => g p (i + 2)) d l2 (i + 1) ∧ sp_ f (k - S a) l2 (a + S a) ∧ cw_ f S C (fun i => g p (i + 2)) d (i + 1) (a + S a) (s + C a b) < 1000000) ∧
    (¬ 0 ≤ hd_ (g p (i + 2)) → ∃ l2, sp_ (fun i => g p (i + 2)) d l2 (i + 1) ∧ sp_ f (k - 1) l2 (a + 1) ∧ cw_ f S C (fun i => g p (i + 2)) d (i + 1) (a + 1) s < 1000000) := by
  cases l with
  | zero => exact hsp.elim
  | succ l =>
    obtain ⟨han, hSk, hst⟩ := cw_hd ht hsf hak
    have hsp2 : sp_ (fun i => g p (i + 2)) d (l + pt_ (g p (i + 2))) (i + 1) := hsp
    have hk1 := sp_pos hsf
    unfold cw_ at hw
    refine ⟨han, hk1, fun q => ?_, fun q => ?_⟩
    · have hbd := hd_b (g p (i + 2))
      obtain ⟨b, hb⟩ : ∃ b : Nat, hd_ (g p (i + 2)) = (b : Int) := ⟨(hd_ (g p (i + 2))).toNat, by omega⟩
      rw [if_pos q] at hw
      have hw2 : cw_ f S C (fun i => g p (i + 2)) d (i + 1) (a + S a) (s + C a b) < 1000000 := by
        have e : (hd_ (g p (i + 2))).toNat = b := by omega
        rw [e] at hw
        exact hw
      have := cw_s hC _ _ _ _ hw2
      have := hC a b
      rw [hd_pt q] at hsp2
      exact ⟨b, by omega, hb, by omega, sp_pos (ht a han).1, hSk, l, hsp2, hst, hw2⟩
    · rw [if_neg q] at hw
      split at hw
      · rename_i w
        have hsf2 : sp_ f (k - 1) (l + pt_ (f a)) (a + 1) := by
          have : k - 1 + 1 = k := by omega
          rw [← this] at hsf
          exact hsf
        rw [ft_pt w] at hsp2
        exact ⟨_, hsp2, hsf2, hw⟩
      · omega
