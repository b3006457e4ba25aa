/-! TREES as signs: m signs from a on are just l trees -/
def sp_ (f : Nat → Int) : Nat → Nat → Nat → Prop
  | 0, l, _ => l = 0
  | _ + 1, 0, _ => False
  | m + 1, l + 1, a => sp_ f m (l + pt_ (f a)) (a + 1)
theorem sp_one {f : Nat → Int} : ∀ {m m2 l a : Nat}, sp_ f m l a → sp_ f m2 l a → m = m2
  | 0, 0, _, _, _, _ => rfl
  | 0, m2 + 1, l, a, h1, h2 => by
    have : l = 0 := h1
    subst this
    exact h2.elim
  | m + 1, 0, l, a, h1, h2 => by
    have : l = 0 := h2
    subst this
    exact h1.elim
  | m + 1, m2 + 1, 0, a, h1, h2 => h1.elim
  | m + 1, m2 + 1, l + 1, a, h1, h2 => by
    have := sp_one (m := m) (m2 := m2) h1 h2
    omega
/-- the first l of l + k trees -/
theorem sp_split {f : Nat → Int} : ∀ {m l k a : Nat}, sp_ f m (l + k) a → ∃ m1, m1 ≤ m ∧ sp_ f m1 l a ∧ sp_ f (m - m1) k (a + m1)
  | m, 0, k, a, h => ⟨0, by omega, rfl, by simpa using h⟩
  | 0, l + 1, k, a, h => by
    have : l + 1 + k = 0 := h
    omega
  | m + 1, l + 1, k, a, h => by
    have h2 : sp_ f m ((l + pt_ (f a)) + k) (a + 1) := by
      have e : l + 1 + k = (l + k) + 1 := by omega
      rw [e] at h
      have h3 : sp_ f m (l + k + pt_ (f a)) (a + 1) := h
      have e2 : l + k + pt_ (f a) = (l + pt_ (f a)) + k := by omega
      rw [e2] at h3
      exact h3
    obtain ⟨m1, a1, a2, a3⟩ := sp_split h2
    refine ⟨m1 + 1, by omega, a2, ?_⟩
    rw [show m + 1 - (m1 + 1) = m - m1 by omega, show a + (m1 + 1) = a + 1 + m1 by omega]
    exact a3
theorem sp_join {f : Nat → Int} : ∀ {m l m2 k a : Nat}, sp_ f m l a → sp_ f m2 k (a + m) → sp_ f (m + m2) (l + k) a
  | 0, l, m2, k, a, h1, h2 => by
    have : l = 0 := h1
    subst this
    simpa using h2
  | m + 1, 0, m2, k, a, h1, h2 => h1.elim
  | m + 1, l + 1, m2, k, a, h1, h2 => by
    have h3 := sp_join (m := m) (m2 := m2) (k := k) h1 (by rw [show a + 1 + m = a + (m + 1) by omega]; exact h2)
    rw [show m + 1 + m2 = (m + m2) + 1 by omega, show l + 1 + k = (l + k) + 1 by omega]
    show sp_ f (m + m2) (l + k + pt_ (f a)) (a + 1)
    rw [show l + k + pt_ (f a) = l + pt_ (f a) + k by omega]
    exact h3
/-- behind i of them -/
theorem sp_suf {f : Nat → Int} : ∀ {i m l a : Nat}, sp_ f m l a → i < m → ∃ k, sp_ f (m - i) (k + 1) (a + i)
  | 0, m, l, a, h, hi => by
    cases m with
    | zero => omega
    | succ m =>
      cases l with
      | zero => exact h.elim
      | succ l => exact ⟨l, by simpa using h⟩
  | i + 1, 0, l, a, h, hi => by omega
  | i + 1, m + 1, 0, a, h, hi => h.elim
  | i + 1, m + 1, l + 1, a, h, hi => by
    obtain ⟨k, hk⟩ := sp_suf (i := i) (m := m) (f := f) h (by omega)
    refine ⟨k, ?_⟩
    rw [show m + 1 - (i + 1) = m - i by omega, show a + (i + 1) = a + 1 + i by omega]
    exact hk
/-- how many trees are still to come: behind a part that has begun; at the innermost -/
def wk_rI : List (Nat × Nat) → Nat
  | [] => 0
  | (_, L) :: s => (L - 1) + wk_rI s
def wk_rT : Option (List (Nat × Nat)) → Nat
  | none => 0
  | some [] => 1
  | some ((_, L) :: s) => L + wk_rI s
def wk_pos (s : List (Nat × Nat)) : Prop := ∀ q ∈ s, 1 ≤ q.2
theorem wk_cl_r : ∀ (s : List (Nat × Nat)), wk_rT (wk_cl s) = wk_rI s
  | [] => rfl
  | (a, L) :: s => by
    unfold wk_cl
    by_cases q : 2 ≤ L
    · rw [if_pos q]
      rfl
    · rw [if_neg q, wk_cl_r s]
      show wk_rI s = (L - 1) + wk_rI s
      omega
theorem wk_cl_pos : ∀ {s s2 : List (Nat × Nat)}, wk_pos s → wk_cl s = some s2 → wk_pos s2
  | [], s2, h, e => by cases e
  | (a, L) :: s, s2, h, e => by
    unfold wk_cl at e
    have h2 : wk_pos s := fun q hq => h q (List.mem_cons_of_mem _ hq)
    by_cases q : 2 ≤ L
    · rw [if_pos q] at e
      cases e
      intro x hx
      rcases List.mem_cons.mp hx with rfl | hx
      · show 1 ≤ L - 1
        omega
      · exact h2 x hx
    · rw [if_neg q] at e
      exact wk_cl_pos h2 e
/-- no fault: the signs are just what is still to come -/
theorem wk_sp {p : Int} {f : Nat → Int} : ∀ (m i : Nat) (s : Option (List (Nat × Nat))), (∀ s2, s = some s2 → wk_pos s2) → wk_ p f m i s = -6 → sp_ f m (wk_rT s) i
  | 0, i, none, hp, h => rfl
  | 0, i, some s, hp, h => by
    have h2 : (i : Int) = -6 := h
    omega
  | m + 1, i, none, hp, h => by
    have h2 : (i : Int) = -6 := h
    omega
  | m + 1, i, some s, hp, h => by
    have hps := hp s rfl
    have hr : wk_rT (some s) = wk_rI s + 1 := by
      cases s with
      | nil => rfl
      | cons x s =>
        obtain ⟨a, L⟩ := x
        have := hps (a, L) List.mem_cons_self
        show L + wk_rI s = (L - 1) + wk_rI s + 1
        have h1 : 1 ≤ L := this
        omega
    rw [hr]
    show sp_ f m (wk_rI s + pt_ (f i)) (i + 1)
    unfold wk_ at h
    by_cases q : 0 < pt_ (f i)
    · rw [if_pos q] at h
      by_cases q2 : s.length < 12
      · rw [if_pos q2] at h
        have := wk_sp m (i + 1) _ (fun s2 e => by
          cases e
          intro x hx
          rcases List.mem_cons.mp hx with rfl | hx
          · exact q
          · exact hps x hx) h
        have e : wk_rT (some ((i, pt_ (f i)) :: s)) = pt_ (f i) + wk_rI s := rfl
        rw [e, Nat.add_comm] at this
        exact this
      · rw [if_neg q2] at h
        omega
    · rw [if_neg q] at h
      split at h
      · have := wk_sp m (i + 1) _ (fun s2 e => wk_cl_pos hps e) h
        rw [wk_cl_r] at this
        rw [show pt_ (f i) = 0 by omega]
        exact this
      · omega
/-- a tree of n signs; S: the size of each node -/
def tr_ (f : Nat → Int) (n : Nat) (S : Nat → Nat) : Prop := ∀ i, i < n → sp_ f (S i) 1 i ∧ i + S i ≤ n
theorem tr_ex {f : Nat → Int} {n : Nat} (h : sp_ f n 1 0) : ∃ S, tr_ f n S := by
  have key : ∀ i, ∃ m, i < n → sp_ f m 1 i ∧ i + m ≤ n := by
    intro i
    by_cases hi : i < n
    · obtain ⟨k, hk⟩ := sp_suf h hi
      rw [Nat.zero_add, Nat.add_comm k 1] at hk
      obtain ⟨m1, a1, a2, -⟩ := sp_split hk
      exact ⟨m1, fun _ => ⟨a2, by omega⟩⟩
    · exact ⟨0, fun w => absurd w hi⟩
  exact ⟨fun i => Classical.choose (key i), fun i hi => Classical.choose_spec (key i) hi⟩
theorem sp_pos {f : Nat → Int} {m l a : Nat} (h : sp_ f m (l + 1) a) : 0 < m := by
  cases m with
  | zero => exact absurd h (by show ¬ l + 1 = 0; omega)
  | succ m => omega
/-- a node's parts -/
theorem tr_parts {f : Nat → Int} {n : Nat} {S : Nat → Nat} (h : tr_ f n S) {i : Nat} (hi : i < n) : (pt_ (f i) = 0 → S i = 1) ∧ (1 ≤ pt_ (f i) → i + 1 < n) ∧ (pt_ (f i) = 1 → S i = 1 + S (i + 1)) ∧ (pt_ (f i) = 2 → i + 1 + S (i + 1) < n ∧ S i = 1 + S (i + 1) + S (i + 1 + S (i + 1))) := by
  obtain ⟨h1, h2⟩ := h i hi
  obtain ⟨m, hm⟩ : ∃ m, S i = m + 1 := ⟨S i - 1, by have := sp_pos h1; omega⟩
  rw [hm] at h1 h2 ⊢
  have h3 : sp_ f m (0 + pt_ (f i)) (i + 1) := h1
  rw [Nat.zero_add] at h3
  refine ⟨fun q => ?_, fun q => ?_, fun q => ?_, fun q => ?_⟩
  · rw [q] at h3
    cases m with
    | zero => rfl
    | succ m => exact h3.elim
  · obtain ⟨k, hk⟩ : ∃ k, pt_ (f i) = k + 1 := ⟨pt_ (f i) - 1, by omega⟩
    rw [hk] at h3
    have := sp_pos h3
    omega
  · rw [q] at h3
    have hp := sp_pos h3
    have := sp_one h3 (h (i + 1) (by omega)).1
    omega
  · rw [q] at h3
    obtain ⟨m1, a1, a2, a3⟩ := sp_split (l := 1) (k := 1) h3
    have hp := sp_pos h3
    have e1 := sp_one a2 (h (i + 1) (by omega)).1
    have hp2 := sp_pos a3
    subst e1
    have e2 := sp_one a3 (h (i + 1 + S (i + 1)) (by omega)).1
    omega
