/-! whose part a node is -/
theorem ws_tree {f : Nat → Int} : ∀ (m j : Nat) (s : List (Nat × Nat)), sp_ f m 1 j → ws_ f j = some s → ws_ f (j + m) = wk_cl s := by
  intro m
  induction m using Nat.strongRecOn with
  | ind m ih =>
    intro j s h hw
    obtain ⟨k, rfl⟩ : ∃ k, m = k + 1 := ⟨m - 1, by have := sp_pos h; omega⟩
    have h3 : sp_ f k (0 + pt_ (f j)) (j + 1) := h
    rw [Nat.zero_add] at h3
    have e : ws_ f (j + 1) = if 0 < pt_ (f j) then some ((j, pt_ (f j)) :: s) else wk_cl s := by
      show (match ws_ f j with | none => none | some s => _) = _
      rw [hw]
    have hpt := pt_b (f j)
    rcases (show pt_ (f j) = 0 ∨ pt_ (f j) = 1 ∨ pt_ (f j) = 2 by omega) with q | q | q
    · rw [q] at h3
      have hk : k = 0 := by
        cases k with
        | zero => rfl
        | succ k => exact h3.elim
      subst hk
      rw [e, if_neg (by omega)]
    · rw [q] at h3 e
      rw [if_pos (by omega)] at e
      have := ih k (by omega) (j + 1) _ h3 e
      rw [show j + (k + 1) = j + 1 + k by omega, this]
      show (if 2 ≤ 1 then _ else _) = _
      rw [if_neg (by omega)]
    · rw [q] at h3 e
      rw [if_pos (by omega)] at e
      obtain ⟨m1, a1, a2, a3⟩ := sp_split (l := 1) (k := 1) h3
      have w1 := ih m1 (by omega) (j + 1) _ a2 e
      have e1 : wk_cl ((j, 2) :: s) = some ((j, 1) :: s) := by
        show (if 2 ≤ 2 then _ else _) = _
        rw [if_pos (by omega)]
      rw [e1] at w1
      have w2 := ih (k - m1) (by have := sp_pos a2; omega) (j + 1 + m1) _ a3 w1
      rw [show j + (k + 1) = j + 1 + m1 + (k - m1) by omega, w2]
      show (if 2 ≤ 1 then _ else _) = _
      rw [if_neg (by omega)]
/-- ahead of each sign of a tree something is open -/
theorem ws_some {f : Nat → Int} {n : Nat} (h : sp_ f n 1 0) : ∀ i, i ≤ n → sp_ f (n - i) (wk_rT (ws_ f i)) i ∧ ∀ s, ws_ f i = some s → wk_pos s
  | 0, hi => ⟨h, fun s e => by
      have : ([] : List (Nat × Nat)) = s := Option.some.inj e
      subst this
      intro q hq
      cases hq⟩
  | i + 1, hi => by
    obtain ⟨h1, h2⟩ := ws_some h i (by omega)
    obtain ⟨k, hk⟩ : ∃ k, n - i = k + 1 := ⟨n - i - 1, by omega⟩
    rw [hk] at h1
    cases hw : ws_ f i with
    | none =>
      rw [hw] at h1
      exact h1.elim
    | some s =>
      rw [hw] at h1
      have hps := h2 s hw
      have hr : wk_rT (some s) = wk_rI s + 1 := by
        cases s with
        | nil => rfl
        | cons x s =>
          obtain ⟨a, L⟩ := x
          have h1 : 1 ≤ L := hps (a, L) List.mem_cons_self
          show L + wk_rI s = (L - 1) + wk_rI s + 1
          omega
      rw [hr] at h1
      have h3 : sp_ f k (wk_rI s + pt_ (f i)) (i + 1) := h1
      have e : ws_ f (i + 1) = if 0 < pt_ (f i) then some ((i, pt_ (f i)) :: s) else wk_cl s := by
        show (match ws_ f i with | none => none | some s => _) = _
        rw [hw]
      rw [e, show n - (i + 1) = k by omega]
      by_cases q : 0 < pt_ (f i)
      · rw [if_pos q]
        refine ⟨?_, fun s2 e2 => ?_⟩
        · show sp_ f k (pt_ (f i) + wk_rI s) (i + 1)
          rw [Nat.add_comm]
          exact h3
        · cases e2
          intro x hx
          rcases List.mem_cons.mp hx with rfl | hx
          · exact q
          · exact hps x hx
      · rw [if_neg q]
        refine ⟨?_, fun s2 e2 => wk_cl_pos hps e2⟩
        rw [wk_cl_r]
        rw [show pt_ (f i) = 0 by omega] at h3
        exact h3
/-- j is a part of i -/
def pp_ (f : Nat → Int) (S : Nat → Nat) (i j : Nat) : Prop := (j = i + 1 ∧ 1 ≤ pt_ (f i)) ∨ (j = i + 1 + S (i + 1) ∧ pt_ (f i) = 2)
theorem pp_p {f : Nat → Int} {n : Nat} {S : Nat → Nat} (h0 : sp_ f n 1 0) (h : tr_ f n S) {i j : Nat} (hi : i < n) (hp : pp_ f S i j) : wk_p f j = i ∧ j < n ∧ i < j := by
  have hps := tr_parts h hi
  obtain ⟨w1, -⟩ := ws_some h0 i (by omega)
  cases hw : ws_ f i with
  | none =>
    rw [hw] at w1
    obtain ⟨k, hk⟩ : ∃ k, n - i = k + 1 := ⟨n - i - 1, by omega⟩
    rw [hk] at w1
    exact w1.elim
  | some s =>
    have e : ws_ f (i + 1) = if 0 < pt_ (f i) then some ((i, pt_ (f i)) :: s) else wk_cl s := by
      show (match ws_ f i with | none => none | some s => _) = _
      rw [hw]
    rcases hp with ⟨rfl, q⟩ | ⟨rfl, q⟩
    · rw [if_pos (by omega)] at e
      refine ⟨?_, hps.2.1 q, by omega⟩
      unfold wk_p
      rw [e]
      rfl
    · rw [q, if_pos (by omega)] at e
      have hin := hps.2.1 (by omega)
      have := ws_tree _ (i + 1) _ (h (i + 1) hin).1 e
      refine ⟨?_, (hps.2.2.2 q).1, by omega⟩
      unfold wk_p
      rw [this]
      show wk_o (if 2 ≤ 2 then _ else _) = _
      rw [if_pos (by omega)]
      rfl
/-- every node but the first is a part -/
theorem pp_ex {f : Nat → Int} {n : Nat} {S : Nat → Nat} (h : tr_ f n S) : ∀ (m i j : Nat), S i = m → i < n → i < j → j < i + S i → ∃ k, k < n ∧ pp_ f S k j := by
  intro m
  induction m using Nat.strongRecOn with
  | ind m ih =>
    intro i j hm hi hij hj
    obtain ⟨t0, t1, t2, t3⟩ := tr_parts h hi
    have hpt := pt_b (f i)
    rcases (show pt_ (f i) = 0 ∨ pt_ (f i) = 1 ∨ pt_ (f i) = 2 by omega) with q | q | q
    · have := t0 q; omega
    · have e := t2 q
      have hin := t1 (by omega)
      by_cases ej : j = i + 1
      · exact ⟨i, hi, Or.inl ⟨ej, by omega⟩⟩
      · exact ih (S (i + 1)) (by omega) (i + 1) j rfl hin (by omega) (by omega)
    · obtain ⟨e1, e2⟩ := t3 q
      have hin := t1 (by omega)
      have hs1 := sp_pos (h (i + 1) hin).1
      by_cases ej : j = i + 1
      · exact ⟨i, hi, Or.inl ⟨ej, by omega⟩⟩
      · by_cases ej2 : j < i + 1 + S (i + 1)
        · exact ih (S (i + 1)) (by omega) (i + 1) j rfl hin (by omega) ej2
        · by_cases ej3 : j = i + 1 + S (i + 1)
          · exact ⟨i, hi, Or.inr ⟨ej3, q⟩⟩
          · exact ih (S (i + 1 + S (i + 1))) (by omega) (i + 1 + S (i + 1)) j rfl e1 (by omega) (by omega)
theorem wk_p0 (f : Nat → Int) : wk_p f 0 = -1 := rfl
/-- what a node needs -/
def nd_ (f : Nat → Int) (n : Nat) (S N : Nat → Nat) : Prop := ∀ i, i < n → (pt_ (f i) = 0 → N i = 1) ∧ (pt_ (f i) = 1 → N i = N (i + 1)) ∧ (pt_ (f i) = 2 → N i = if N (i + 1) = N (i + 1 + S (i + 1)) then N (i + 1) + 1 else max (N (i + 1)) (N (i + 1 + S (i + 1))))
theorem nd_b {f : Nat → Int} {n : Nat} {S N : Nat → Nat} (h : tr_ f n S) (hn : nd_ f n S N) : ∀ (m i : Nat), S i = m → i < n → 1 ≤ N i ∧ N i ≤ S i := by
  intro m
  induction m using Nat.strongRecOn with
  | ind m ih =>
    intro i hm hi
    obtain ⟨t0, t1, t2, t3⟩ := tr_parts h hi
    obtain ⟨n0, n1, n2⟩ := hn i hi
    have hpt := pt_b (f i)
    rcases (show pt_ (f i) = 0 ∨ pt_ (f i) = 1 ∨ pt_ (f i) = 2 by omega) with q | q | q
    · have := t0 q
      have := n0 q
      omega
    · have := t2 q
      have := n1 q
      have := ih (S (i + 1)) (by omega) (i + 1) rfl (t1 (by omega))
      omega
    · obtain ⟨e1, e2⟩ := t3 q
      have e3 := n2 q
      have hin := t1 (by omega)
      have hs1 := sp_pos (h (i + 1) hin).1
      have hs2 := sp_pos (h _ e1).1
      have a1 := ih (S (i + 1)) (by omega) (i + 1) rfl hin
      have a2 := ih (S (i + 1 + S (i + 1))) (by omega) _ rfl e1
      by_cases c : N (i + 1) = N (i + 1 + S (i + 1))
      · rw [if_pos c] at e3
        omega
      · rw [if_neg c] at e3
        omega
theorem nd_one {f : Nat → Int} {n : Nat} {S N N2 : Nat → Nat} (h : tr_ f n S) (h1 : nd_ f n S N) (h2 : nd_ f n S N2) : ∀ (m i : Nat), S i = m → i < n → N i = N2 i := by
  intro m
  induction m using Nat.strongRecOn with
  | ind m ih =>
    intro i hm hi
    obtain ⟨t0, t1, t2, t3⟩ := tr_parts h hi
    obtain ⟨n0, n1, n2⟩ := h1 i hi
    obtain ⟨m0, m1, m2⟩ := h2 i hi
    have hpt := pt_b (f i)
    rcases (show pt_ (f i) = 0 ∨ pt_ (f i) = 1 ∨ pt_ (f i) = 2 by omega) with q | q | q
    · rw [n0 q, m0 q]
    · have := t2 q
      rw [n1 q, m1 q]
      exact ih (S (i + 1)) (by omega) (i + 1) rfl (t1 (by omega))
    · obtain ⟨e1, e2⟩ := t3 q
      have hin := t1 (by omega)
      have hs1 := sp_pos (h (i + 1) hin).1
      have hs2 := sp_pos (h _ e1).1
      rw [n2 q, m2 q, ih (S (i + 1)) (by omega) (i + 1) rfl hin, ih (S (i + 1 + S (i + 1))) (by omega) _ rfl e1]
