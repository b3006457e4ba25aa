/-! THE BEST ORDER: what it is -/
theorem im_len (f : Nat → Nat) : ∀ (b : Nat) (L : List Nat), L.Nodup → (∀ x ∈ L, ∃ q, q < b ∧ f q = x) → L.length ≤ b
  | 0, L, _, h => by
    cases L with
    | nil => simp
    | cons x L =>
      obtain ⟨q, hq, -⟩ := h x (by simp)
      omega
  | b + 1, L, hn, h => by
    have h1 := im_len f b (L.erase (f b)) (hn.erase _) (fun x hx => by
      obtain ⟨q, hq, e⟩ := h x (List.mem_of_mem_erase hx)
      refine ⟨q, ?_, e⟩
      have : q ≠ b := fun w => by
        subst w
        rw [← e] at hx
        exact (hn.not_mem_erase) hx
      omega)
    by_cases q : f b ∈ L
    · rw [List.length_erase_of_mem q] at h1
      omega
    · rw [List.erase_of_not_mem q] at h1
      omega
theorem rw_last_spec (f : Nat → Int) (g : Int) : ∀ n, (rw_last f g n = -1 ∧ ∀ j, j < n → f j ≠ g) ∨ ∃ j : Nat, j < n ∧ rw_last f g n = j ∧ f j = g ∧ ∀ j', j < j' → j' < n → f j' ≠ g
  | 0 => Or.inl ⟨rfl, fun j hj => by omega⟩
  | n + 1 => by
    by_cases q : f n = g
    · refine Or.inr ⟨n, by omega, ?_, q, fun j' a b => by omega⟩
      show (if _ then _ else _) = _
      rw [if_pos q]
    · have e : rw_last f g (n + 1) = rw_last f g n := by
        show (if _ then _ else _) = _
        rw [if_neg q]
      rw [e]
      rcases rw_last_spec f g n with ⟨a, b⟩ | ⟨j, a, b, c, d⟩
      · refine Or.inl ⟨a, fun j hj => ?_⟩
        by_cases w : j = n
        · rw [w]; exact q
        · exact b j (by omega)
      · refine Or.inr ⟨j, by omega, b, c, fun j' z1 z2 => ?_⟩
        by_cases w : j' = n
        · rw [w]; exact q
        · exact d j' z1 (by omega)
theorem rw_last_congr {f f2 : Nat → Int} {g : Int} : ∀ n, (∀ j, j < n → f j = f2 j) → rw_last f g n = rw_last f2 g n
  | 0, _ => rfl
  | n + 1, e => by
    show (if _ then _ else _) = (if _ then _ else _)
    rw [e n (by omega), rw_last_congr n (fun j hj => e j (by omega))]
theorem rw_end_congr {c c2 w w2 : Nat → Int} : ∀ n, (∀ j, j < n → c j = c2 j ∧ w j = w2 j) → rw_end c w n = rw_end c2 w2 n
  | 0, _ => rfl
  | n + 1, e => by
    show max _ _ = max _ _
    rw [rw_end_congr n (fun j hj => e j (by omega)), (e n (by omega)).1, (e n (by omega)).2]
theorem rw_end_ge {c w : Nat → Int} : ∀ n j, j < n → c j + w j ≤ rw_end c w n
  | 0, j, h => by omega
  | n + 1, j, h => by
    show _ ≤ max _ _
    by_cases q : j = n
    · subst q; omega
    · have := rw_end_ge (c := c) (w := w) n j (by omega)
      omega
theorem rw_end_le {c w : Nat → Int} {z : Int} (h0 : 0 ≤ z) : ∀ n, (∀ j, j < n → c j + w j ≤ z) → rw_end c w n ≤ z
  | 0, _ => h0
  | n + 1, h => by
    have a := rw_end_le h0 n (fun j hj => h j (by omega))
    have b := h n (by omega)
    show max _ _ ≤ z
    omega
theorem rw_end_0 {c w : Nat → Int} : ∀ n, 0 ≤ rw_end c w n
  | 0 => Int.le_refl _
  | n + 1 => by
    have := rw_end_0 (c := c) (w := w) n
    show 0 ≤ max _ _
    omega
/-- the cycles of the first p of an order -/
def oc_ (r : Nat → Nat → Int) (o : Nat → Nat) : Nat → Nat → Int
  | 0 => fun _ => 0
  | p + 1 => fun j => if j = p then od_at r o (oc_ r o p) p else oc_ r o p j
def oe_ (r : Nat → Nat → Int) (o : Nat → Nat) (p : Nat) : Int := rw_end (oc_ r o p) (fun q => r 4 (o q)) p
/-- the first p of an order: each once, none ahead of what must lead -/
def vo_ (r : Nat → Nat → Int) (n : Nat) (o : Nat → Nat) (p : Nat) : Prop := ∀ q, q < p → o q < n ∧ (∀ q2, q2 < q → o q2 ≠ o q) ∧ ∀ k, k < o q → rw_cl r k (o q) → ∃ q2, q2 < q ∧ o q2 = k
theorem vo_.le {r : Nat → Nat → Int} {n : Nat} {o : Nat → Nat} {p p2 : Nat} (h : vo_ r n o p) (hp : p2 ≤ p) : vo_ r n o p2 := fun q hq => h q (by omega)
theorem vo_.congr {r : Nat → Nat → Int} {n : Nat} {o o2 : Nat → Nat} {p : Nat} (h : vo_ r n o p) (e : ∀ q, q < p → o q = o2 q) : vo_ r n o2 p := fun q hq => by
  obtain ⟨a, b, c⟩ := h q hq
  rw [e q hq] at a b c
  refine ⟨a, fun q2 h2 => ?_, fun k hk hc => ?_⟩
  · rw [← e q2 (by omega)]; exact b q2 h2
  · obtain ⟨q2, z1, z2⟩ := c k hk hc
    exact ⟨q2, z1, by rw [← e q2 (by omega)]; exact z2⟩
theorem vo_.inj {r : Nat → Nat → Int} {n : Nat} {o : Nat → Nat} {p : Nat} (h : vo_ r n o p) {a b : Nat} (ha : a < p) (hb : b < p) (e : o a = o b) : a = b := by
  rcases Nat.lt_trichotomy a b with q | q | q
  · exact absurd e ((h b hb).2.1 a q)
  · exact q
  · exact absurd e.symm ((h a ha).2.1 b q)
theorem vo_.surj {r : Nat → Nat → Int} {n : Nat} {o : Nat → Nat} (h : vo_ r n o n) {k : Nat} (hk : k < n) : ∃ q, q < n ∧ o q = k := by
  apply Classical.byContradiction
  intro hno
  have hL : (k :: (List.range n).map o).Nodup := by
    rw [List.nodup_cons]
    refine ⟨fun hm => ?_, ?_⟩
    · obtain ⟨q, hq, e⟩ := List.mem_map.mp hm
      exact hno ⟨q, List.mem_range.mp hq, e⟩
    · unfold List.Nodup
      rw [List.pairwise_map]
      refine List.Pairwise.imp_of_mem (R := fun a b => a < b) (fun {a b} ha hb hlt e => ?_) List.pairwise_lt_range
      have := h.inj (List.mem_range.mp ha) (List.mem_range.mp hb) e
      omega
  have := im_len (fun q => q) n _ hL (fun x hx => by
    rcases List.mem_cons.mp hx with rfl | hx
    · exact ⟨x, hk, rfl⟩
    · obtain ⟨q, hq, e⟩ := List.mem_map.mp hx
      exact ⟨x, by rw [← e]; exact (h q (List.mem_range.mp hq)).1, rfl⟩)
  simp at this
  omega
theorem od_at_congr {r : Nat → Nat → Int} {o o2 : Nat → Nat} {c c2 : Nat → Int} {p : Nat} (e : ∀ q, q ≤ p → o q = o2 q) (f : ∀ q, q < p → c q = c2 q) : od_at r o c p = od_at r o2 c2 p := by
  have hl : ∀ g, od_ls r o g p = od_ls r o2 g p := fun g => rw_last_congr p (fun j hj => by rw [e j (by omega)])
  have hr : ∀ g, od_rd r o c (od_ls r o g p) = od_rd r o2 c2 (od_ls r o2 g p) := fun g => by
    rw [hl g]
    have hb := od_ls_lt r o2 g p
    unfold od_rd
    split
    · rfl
    · rw [f _ (by omega), e _ (by omega)]
  unfold od_at
  rw [rw_nx_congr f, e p (Nat.le_refl _), hr, hr]
theorem oc_congr {r : Nat → Nat → Int} {o o2 : Nat → Nat} : ∀ p, (∀ q, q < p → o q = o2 q) → ∀ j, j < p → oc_ r o p j = oc_ r o2 p j
  | 0, _, j, h => by omega
  | p + 1, e, j, h => by
    have ih := oc_congr (r := r) p (fun q hq => e q (by omega))
    show (if _ then _ else _) = (if _ then _ else _)
    by_cases q : j = p
    · rw [if_pos q, if_pos q]
      exact od_at_congr (fun q hq => e q (by omega)) ih
    · rw [if_neg q, if_neg q]
      exact ih j (by omega)
theorem oc_step {r : Nat → Nat → Int} {o : Nat → Nat} {p m j : Nat} (hj : j < p) (hm : p ≤ m) : oc_ r o m j = oc_ r o p j := by
  induction m with
  | zero => omega
  | succ m ih =>
    by_cases e : p = m + 1
    · rw [e]
    · have h1 : p ≤ m := by omega
      show (if j = m then _ else oc_ r o m j) = _
      rw [if_neg (by omega), ih h1]
theorem oc_at {r : Nat → Nat → Int} {o : Nat → Nat} {p m : Nat} (hm : p < m) : oc_ r o m p = od_at r o (oc_ r o m) p := by
  rw [oc_step (show p < p + 1 by omega) hm]
  show (if p = p then _ else _) = _
  rw [if_pos rfl]
  exact od_at_congr (fun _ _ => rfl) (fun q hq => (oc_step hq (by omega)).symm)
theorem oc_b {r : Nat → Nat → Int} {n : Nat} {o : Nat → Nat} (ho : rw_ok n r) : ∀ p, (∀ q, q < p → o q < n) → ∀ j, j < p → 0 ≤ oc_ r o p j ∧ oc_ r o p j ≤ 6 * j
  | 0, _, j, h => by omega
  | p + 1, hn, j, h => by
    have ih := oc_b (o := o) ho p (fun q hq => hn q (by omega))
    show 0 ≤ (if j = p then od_at r o (oc_ r o p) p else oc_ r o p j) ∧ (if j = p then od_at r o (oc_ r o p) p else oc_ r o p j) ≤ _
    by_cases q : j = p
    · subst q
      rw [if_pos rfl]
      have hnx : 0 ≤ rw_nx (oc_ r o j) j ∧ rw_nx (oc_ r o j) j ≤ 6 * j := by
        cases j with
        | zero => simp [rw_nx]
        | succ j =>
          have := ih j (by omega)
          show 0 ≤ oc_ r o (j + 1) j + 1 ∧ oc_ r o (j + 1) j + 1 ≤ 6 * ((j + 1 : Nat) : Int)
          omega
      have hrd : ∀ g, od_rd r o (oc_ r o j) (od_ls r o g j) ≤ 6 * j := fun g => by
        have hl := od_ls_lt r o g j
        unfold od_rd
        split
        · omega
        · have h1 := ih (od_ls r o g j).toNat (by omega)
          have h2 := (ho _ (hn (od_ls r o g j).toNat (by omega))).2.2.2.2.1
          omega
      have h1 := hrd (r 2 (o j))
      have h2 := hrd (r 3 (o j))
      refine ⟨?_, (od_at_le hnx.1 _).mpr ⟨hnx.2, h1, fun _ => h2⟩⟩
      unfold od_at
      omega
    · rw [if_neg q]
      exact ih j (by omega)
theorem oc_inc {r : Nat → Nat → Int} {o : Nat → Nat} {m : Nat} : ∀ (d q : Nat), q + d < m → oc_ r o m q + d ≤ oc_ r o m (q + d)
  | 0, q, h => by simp
  | d + 1, q, h => by
    have ih := oc_inc (r := r) (o := o) (m := m) d q (by omega)
    have e := oc_at (r := r) (o := o) (show q + d + 1 < m by omega)
    have : rw_nx (oc_ r o m) (q + d + 1) = oc_ r o m (q + d) + 1 := rfl
    have h2 : rw_nx (oc_ r o m) (q + d + 1) ≤ od_at r o (oc_ r o m) (q + d + 1) := by
      unfold od_at
      omega
    show _ ≤ oc_ r o m (q + d + 1)
    omega
theorem oe_step {r : Nat → Nat → Int} {o : Nat → Nat} {p : Nat} : oe_ r o (p + 1) = max (oe_ r o p) (oc_ r o (p + 1) p + r 4 (o p)) := by
  show max (rw_end (oc_ r o (p + 1)) (fun q => r 4 (o q)) p) _ = _
  rw [rw_end_congr (c2 := oc_ r o p) (w2 := fun q => r 4 (o q)) p (fun j hj => ⟨oc_step hj (by omega), rfl⟩)]
  rfl
theorem oe_congr {r : Nat → Nat → Int} {o o2 : Nat → Nat} {p : Nat} (e : ∀ q, q < p → o q = o2 q) : oe_ r o p = oe_ r o2 p :=
  rw_end_congr p (fun j hj => ⟨oc_congr p e j hj, by rw [e j hj]⟩)
theorem oe_mono {r : Nat → Nat → Int} {o : Nat → Nat} {p : Nat} : ∀ m, p ≤ m → oe_ r o p ≤ oe_ r o m
  | 0, h => by
    have : p = 0 := by omega
    rw [this]
    exact Int.le_refl _
  | m + 1, h => by
    by_cases e : p = m + 1
    · rw [e]; exact Int.le_refl _
    · have := oe_mono (r := r) (o := o) m (show p ≤ m by omega)
      rw [oe_step]
      omega
theorem oe_b {r : Nat → Nat → Int} {n : Nat} {o : Nat → Nat} {p : Nat} (ho : rw_ok n r) (hn : ∀ q, q < p → o q < n) (hp : p ≤ 12) : 0 ≤ oe_ r o p ∧ oe_ r o p ≤ 100 := by
  refine ⟨rw_end_0 p, rw_end_le (by omega) p (fun j hj => ?_)⟩
  have h1 := oc_b ho p hn j hj
  have h2 := (ho _ (hn j hj)).2.2.2.2.1
  omega
/-- in every allowed order the same ones set an instruction's sources -/
theorem vo_set {r : Nat → Nat → Int} {n : Nat} {o : Nat → Nat} {p : Nat} {g : Int} (h : vo_ r n o (p + 1)) (hu : rw_us r (o p) g) : (rw_last (r 1) g (o p) = -1 ∧ od_ls r o g p = -1) ∨ ∃ q0 : Nat, q0 < p ∧ rw_last (r 1) g (o p) = (o q0 : Nat) ∧ od_ls r o g p = (q0 : Int) := by
  have lt : ∀ q, q < p → r 1 (o q) = g → o q < o p := fun q hq e => by
    rcases Nat.lt_trichotomy (o q) (o p) with z | z | z
    · exact z
    · have := h.inj (show q < p + 1 by omega) (show p < p + 1 by omega) z
      omega
    · obtain ⟨q2, z1, z2⟩ := (h q (by omega)).2.2 (o p) z (Or.inr (Or.inr (by
        show rw_us r (o p) (r 1 (o q))
        rw [e]
        exact hu)))
      have := h.inj (show q2 < p + 1 by omega) (show p < p + 1 by omega) z2
      omega
  rcases rw_last_spec (r 1) g (o p) with ⟨a, b⟩ | ⟨j, a, b, c, d⟩
  · refine Or.inl ⟨a, ?_⟩
    rcases rw_last_spec (fun q => r 1 (o q)) g p with ⟨a2, -⟩ | ⟨q, a2, b2, c2, -⟩
    · exact a2
    · exact absurd c2 (b _ (lt q a2 c2))
  · obtain ⟨q0, z1, z2⟩ := (h p (by omega)).2.2 j a (Or.inr (Or.inl (by
      show rw_us r (o p) (r 1 j)
      rw [c]
      exact hu)))
    refine Or.inr ⟨q0, z1, by rw [b, z2], ?_⟩
    rcases rw_last_spec (fun q => r 1 (o q)) g p with ⟨-, b2⟩ | ⟨q, a2, b2, c2, d2⟩
    · exact absurd (show r 1 (o q0) = g by rw [z2]; exact c) (b2 q0 z1)
    · have hq : q = q0 := by
        rcases Nat.lt_trichotomy q q0 with w | w | w
        · exact absurd (show r 1 (o q0) = g by rw [z2]; exact c) (d2 q0 w z1)
        · exact w
        · have l1 := lt q a2 c2
          have l2 : o q < j := by
            rcases Nat.lt_trichotomy (o q) j with y | y | y
            · exact y
            · have := h.inj (show q < p + 1 by omega) (show q0 < p + 1 by omega) (by rw [y, z2])
              omega
            · exact absurd c2 (d (o q) y l1)
          obtain ⟨q2, y1, y2⟩ := (h q0 (by omega)).2.2 (o q) (by rw [z2]; exact l2) (Or.inl (by
            show r 1 (o q) = r 1 (o q0)
            rw [c2, z2, c]))
          have := h.inj (show q2 < p + 1 by omega) (show q < p + 1 by omega) y2
          omega
      rw [← hq]
      exact b2
/-- when a setter is ready, by instruction -/
def rdy_ (r : Nat → Nat → Int) (s : Nat → Int) (k : Int) : Int := if k < 0 then 0 else s k.toNat + r 4 k.toNat
theorem vo_rd {r : Nat → Nat → Int} {n : Nat} {o : Nat → Nat} {p : Nat} {g : Int} {c s : Nat → Int} (h : vo_ r n o (p + 1)) (hu : rw_us r (o p) g) (hs : ∀ q, q < p → s (o q) = c q) : od_rd r o c (od_ls r o g p) = rdy_ r s (rw_last (r 1) g (o p)) := by
  rcases vo_set h hu with ⟨a, b⟩ | ⟨q0, a, b, d⟩
  · rw [a, b]
    rfl
  · rw [b, d]
    unfold od_rd rdy_
    rw [if_neg (by omega), if_neg (by omega), jm_tn, jm_tn, hs q0 a]
theorem vo_at {r : Nat → Nat → Int} {n : Nat} {o : Nat → Nat} {p : Nat} {c s : Nat → Int} (h : vo_ r n o (p + 1)) (hs : ∀ q, q < p → s (o q) = c q) : od_at r o c p = max (rw_nx c p) (max (rdy_ r s (rw_s1 r (o p))) (rdy_ r s (rw_s2 r (o p)))) := by
  unfold od_at
  rw [vo_rd h (Or.inl rfl) hs]
  by_cases q : r 0 (o p) < 5
  · rw [if_pos q, vo_rd h (Or.inr ⟨q, rfl⟩) hs]
    unfold rw_s1 rw_s2
    rw [if_pos q]
  · rw [if_neg q]
    unfold rw_s1 rw_s2
    rw [if_neg q]
    rfl
/-- the cycle of an instruction among the first p -/
noncomputable def os_ (r : Nat → Nat → Int) (o : Nat → Nat) (p k : Nat) : Int := oc_ r o p (Classical.epsilon fun q => q < p ∧ o q = k)
theorem os_eq {r : Nat → Nat → Int} {n : Nat} {o : Nat → Nat} {p q : Nat} (h : vo_ r n o p) (hq : q < p) : os_ r o p (o q) = oc_ r o p q := by
  have hx := Classical.epsilon_spec (p := fun x => x < p ∧ o x = o q) ⟨q, hq, rfl⟩
  unfold os_
  rw [h.inj hx.1 hq hx.2]
/-- how long it takes from the start of each, at least -/
def tv_ (r : Nat → Nat → Int) (n : Nat) (t : Nat → Int) : Prop := ∀ i, i < n → (0 ≤ t i ∧ t i ≤ 10 * ((n : Int) - i)) ∧ ∀ z : Int, r 4 i ≤ z → (∀ k, i < k → k < n → rw_cl r i k → t k + (if rw_s1 r k = i ∨ rw_s2 r k = i then r 4 i else 1) ≤ z) → t i ≤ z
theorem tv_le {r : Nat → Nat → Int} {n : Nat} {o : Nat → Nat} {t : Nat → Int} (ho : rw_ok n r) (ht : tv_ r n t) (h : vo_ r n o n) : ∀ (d q : Nat), q < n → o q + d + 1 = n → oc_ r o n q + t (o q) ≤ oe_ r o n := by
  intro d
  induction d using Nat.strongRecOn with
  | ind d ih =>
    intro q hq hd
    have hge := rw_end_ge (c := oc_ r o n) (w := fun q => r 4 (o q)) n
    have := (ht (o q) (by omega)).2 (oe_ r o n - oc_ r o n q) (by
      have h1 : oc_ r o n q + r 4 (o q) ≤ oe_ r o n := hge q hq
      omega) (fun k k1 k2 k3 => by
      obtain ⟨q2, z1, z2⟩ := h.surj k2
      obtain ⟨q3, z3, z4⟩ := (h q2 z1).2.2 (o q) (by rw [z2]; exact k1) (by rw [z2]; exact k3)
      have e3 : q3 = q := h.inj (by omega) hq z4
      subst e3
      have h2 := ih (n - 1 - k) (by omega) q2 z1 (by omega)
      rw [z2] at h2
      have h3 := oc_inc (r := r) (o := o) (m := n) (q2 - q3) q3 (by omega)
      rw [show q3 + (q2 - q3) = q2 by omega] at h3
      split
      · rename_i w
        have h4 := vo_at (c := oc_ r o n) (s := os_ r o n) (h.le (show q2 + 1 ≤ n by omega)) (fun q hq => os_eq h (by omega))
        rw [← oc_at z1, z2] at h4
        have : rdy_ r (os_ r o n) (o q3 : Nat) = oc_ r o n q3 + r 4 (o q3) := by
          unfold rdy_
          rw [if_neg (by omega), jm_tn, os_eq h hq]
        have h5 : oc_ r o n q3 + r 4 (o q3) ≤ oc_ r o n q2 := by
          rcases w with w | w <;> rw [w] at h4 <;> omega
        omega
      · omega)
    omega
/-- those that are left start one behind the other -/
theorem vo_left {r : Nat → Nat → Int} {n : Nat} {o : Nat → Nat} {p : Nat} {v : Int} {L : List Nat} (hp : p ≤ n) (hn : L.Nodup) (h0 : L ≠ []) (hL : ∀ x ∈ L, ∃ q, p ≤ q ∧ q < n ∧ o q = x ∧ oc_ r o n q + v ≤ oe_ r o n) (h00 : ∀ j, j < n → 0 ≤ oc_ r o n j) : rw_nx (oc_ r o n) p - 1 + L.length + v ≤ oe_ r o n := by
  have hlen : 0 < L.length := List.length_pos_iff.mpr h0
  have : ∃ x ∈ L, ∃ q, p + L.length ≤ q + 1 ∧ q < n ∧ oc_ r o n q + v ≤ oe_ r o n := by
    apply Classical.byContradiction
    intro hno
    have := im_len (fun q => o (p + q)) (L.length - 1) L hn (fun x hx => by
      obtain ⟨q, a, b, c, d⟩ := hL x hx
      refine ⟨q - p, ?_, by rw [show p + (q - p) = q by omega]; exact c⟩
      apply Classical.byContradiction
      intro w
      exact hno ⟨x, hx, q, by omega, b, d⟩)
    omega
  obtain ⟨x, -, q, a, b, c⟩ := this
  have hx : rw_nx (oc_ r o n) p + ((q - p : Nat) : Int) ≤ oc_ r o n q := by
    cases p with
    | zero =>
      have h1 := oc_inc (r := r) (o := o) (m := n) q 0 (by omega)
      have h2 := h00 0 (by omega)
      show (0 : Int) + _ ≤ _
      rw [Nat.zero_add] at h1
      omega
    | succ p =>
      have h1 := oc_inc (r := r) (o := o) (m := n) (q - p) p (by omega)
      rw [show p + (q - p) = q by omega] at h1
      show oc_ r o n p + 1 + _ ≤ _
      omega
  omega
