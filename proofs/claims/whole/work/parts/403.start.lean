/-! when an instruction of an order starts: the reference's startOf; as written -/
def od_rd (r : Nat → Nat → Int) (o : Nat → Nat) (c : Nat → Int) (s : Int) : Int := if s < 0 then 0 else c s.toNat + r 4 (o s.toNat)
/-- the last place below p that sets register g -/
def od_ls (r : Nat → Nat → Int) (o : Nat → Nat) (g : Int) (p : Nat) : Int := rw_last (fun q => r 1 (o q)) g p
def od_at (r : Nat → Nat → Int) (o : Nat → Nat) (c : Nat → Int) (p : Nat) : Int :=
  max (rw_nx c p) (max (od_rd r o c (od_ls r o (r 2 (o p)) p)) (if r 0 (o p) < 5 then od_rd r o c (od_ls r o (r 3 (o p)) p) else 0))
/-- what the first k registers ask -/
def od_acc (r : Nat → Nat → Int) (o : Nat → Nat) (c : Nat → Int) (p : Nat) : Nat → Int
  | 0 => rw_nx c p
  | k + 1 => if r 2 (o p) = k ∨ (r 0 (o p) < 5 ∧ r 3 (o p) = k) then max (od_acc r o c p k) (od_rd r o c (od_ls r o k p)) else od_acc r o c p k
theorem od_rd_b {r : Nat → Nat → Int} {o : Nat → Nat} {c : Nat → Int} {n p : Nat} {b : Int} (ho : rw_ok n r) (hn : ∀ q, q < p → o q < n) (hc : ∀ q, q < p → 0 ≤ c q ∧ c q ≤ b) (hb : 0 ≤ b) {s : Int} (hs : s < p) : 0 ≤ od_rd r o c s ∧ od_rd r o c s ≤ b + 5 := by
  unfold od_rd
  split
  · omega
  · have h1 := hc s.toNat (by omega)
    have h2 := (ho _ (hn s.toNat (by omega))).2.2.2.2.1
    omega
theorem od_ls_lt (r : Nat → Nat → Int) (o : Nat → Nat) (g : Int) (p : Nat) : -1 ≤ od_ls r o g p ∧ od_ls r o g p < p := rw_last_lt _ _ _
theorem od_nx_b {c : Nat → Int} {p : Nat} {b : Int} (hb : 0 ≤ b) (hc : ∀ q, q < p → 0 ≤ c q ∧ c q ≤ b) : 0 ≤ rw_nx c p ∧ rw_nx c p ≤ b + 1 := by
  cases p with
  | zero => show (0 : Int) ≤ 0 ∧ (0 : Int) ≤ b + 1; omega
  | succ p =>
    have := hc p (by omega)
    show 0 ≤ c p + 1 ∧ c p + 1 ≤ b + 1
    omega
theorem od_acc_le {r : Nat → Nat → Int} {o : Nat → Nat} {c : Nat → Int} {p : Nat} (z : Int) : ∀ k : Nat, od_acc r o c p k ≤ z ↔ rw_nx c p ≤ z ∧ (r 2 (o p) < k → 0 ≤ r 2 (o p) → od_rd r o c (od_ls r o (r 2 (o p)) p) ≤ z) ∧ (r 0 (o p) < 5 → r 3 (o p) < k → 0 ≤ r 3 (o p) → od_rd r o c (od_ls r o (r 3 (o p)) p) ≤ z)
  | 0 => ⟨fun q => ⟨q, fun _ _ => by omega, fun _ _ _ => by omega⟩, fun q => q.1⟩
  | k + 1 => by
    have ih := od_acc_le (r := r) (o := o) (c := c) (p := p) z k
    have eA : r 2 (o p) = k → od_rd r o c (od_ls r o k p) = od_rd r o c (od_ls r o (r 2 (o p)) p) := fun q => by rw [q]
    have eB : r 3 (o p) = k → od_rd r o c (od_ls r o k p) = od_rd r o c (od_ls r o (r 3 (o p)) p) := fun q => by rw [q]
    by_cases u : r 2 (o p) = k ∨ (r 0 (o p) < 5 ∧ r 3 (o p) = k)
    · have e : od_acc r o c p (k + 1) = max (od_acc r o c p k) (od_rd r o c (od_ls r o k p)) := by
        show (if _ then _ else _) = _
        rw [if_pos u]
      rw [e, Int.max_le, ih]
      refine ⟨fun ⟨⟨q1, q2, q3⟩, q4⟩ => ⟨q1, fun a b => ?_, fun a b d => ?_⟩, fun ⟨q1, q2, q3⟩ => ⟨⟨q1, fun a b => q2 (by omega) b, fun a b d => q3 a (by omega) d⟩, ?_⟩⟩
      · by_cases x : r 2 (o p) = k
        · rw [← eA x]; exact q4
        · exact q2 (by omega) b
      · by_cases x : r 3 (o p) = k
        · rw [← eB x]; exact q4
        · exact q3 a (by omega) d
      · rcases u with u | u
        · rw [eA u]; exact q2 (by omega) (by omega)
        · rw [eB u.2]; exact q3 u.1 (by omega) (by omega)
    · have e : od_acc r o c p (k + 1) = od_acc r o c p k := by
        show (if _ then _ else _) = _
        rw [if_neg u]
      rw [e, ih]
      exact ⟨fun ⟨q1, q2, q3⟩ => ⟨q1, fun a b => q2 (by omega) b, fun a b d => q3 a (by omega) d⟩, fun ⟨q1, q2, q3⟩ => ⟨q1, fun a b => q2 (by omega) b, fun a b d => q3 a (by omega) d⟩⟩
theorem od_at_le {r : Nat → Nat → Int} {o : Nat → Nat} {c : Nat → Int} {p : Nat} (h0 : 0 ≤ rw_nx c p) (z : Int) : od_at r o c p ≤ z ↔ rw_nx c p ≤ z ∧ od_rd r o c (od_ls r o (r 2 (o p)) p) ≤ z ∧ (r 0 (o p) < 5 → od_rd r o c (od_ls r o (r 3 (o p)) p) ≤ z) := by
  unfold od_at
  rw [Int.max_le, Int.max_le]
  by_cases q : r 0 (o p) < 5
  · rw [if_pos q]
    exact ⟨fun ⟨a, b, d⟩ => ⟨a, b, fun _ => d⟩, fun ⟨a, b, d⟩ => ⟨a, b, d q⟩⟩
  · rw [if_neg q]
    exact ⟨fun ⟨a, b, d⟩ => ⟨a, b, fun z => absurd z q⟩, fun ⟨a, b, d⟩ => ⟨a, b, by omega⟩⟩
theorem od_acc_6 {r : Nat → Nat → Int} {o : Nat → Nat} {c : Nat → Int} {n p : Nat} {b : Int} (ho : rw_ok n r) (hn : ∀ q, q ≤ p → o q < n) (hc : ∀ q, q < p → 0 ≤ c q ∧ c q ≤ b) (hb : 0 ≤ b) : od_acc r o c p 6 = od_at r o c p := by
  have h2 := (ho (o p) (hn p (by omega))).2.2.1
  have h3 := (ho (o p) (hn p (by omega))).2.2.2.1
  have h1 := od_nx_b hb hc
  have key : ∀ z, od_acc r o c p 6 ≤ z ↔ od_at r o c p ≤ z := fun z => by
    rw [od_acc_le z 6, od_at_le h1.1 z]
    exact ⟨fun ⟨a, b, d⟩ => ⟨a, b (by omega) (by omega), fun q => d q (by omega) (by omega)⟩, fun ⟨a, b, d⟩ => ⟨a, fun _ _ => b, fun q _ _ => d q⟩⟩
  exact Int.le_antisymm ((key _).mpr (Int.le_refl _)) ((key _).mp (Int.le_refl _))
theorem od_acc_b {r : Nat → Nat → Int} {o : Nat → Nat} {c : Nat → Int} {n p : Nat} {b : Int} (ho : rw_ok n r) (hn : ∀ q, q < p → o q < n) (hc : ∀ q, q < p → 0 ≤ c q ∧ c q ≤ b) (hb : 0 ≤ b) (k : Nat) : 0 ≤ od_acc r o c p k ∧ od_acc r o c p k ≤ b + 5 := by
  have h1 := od_nx_b hb hc
  have hA := od_rd_b ho hn hc hb (od_ls_lt r o (r 2 (o p)) p).2
  have hB := od_rd_b ho hn hc hb (od_ls_lt r o (r 3 (o p)) p).2
  have h2 := ((od_acc_le (r := r) (o := o) (c := c) (p := p) (od_acc r o c p k) k).mp (Int.le_refl _)).1
  exact ⟨by omega, (od_acc_le _ k).mpr ⟨by omega, fun _ _ => hA.2, fun _ _ _ => hB.2⟩⟩
/-- the reference's picture of a begun order: places up to p, cycles below p -/
def od_M (h : jm_H) (o : Nat → Nat) (c : Nat → Int) (p : Nat) : Prop := h 105 p = (o p : Int) ∧ ∀ q, q < p → h 105 q = (o q : Int) ∧ h 106 q = c q
section OD
variable {E : jm_Env} {h : jm_H} {n : Nat} {r : Nat → Nat → Int} {o : Nat → Nat} {c : Nat → Int} {p : Nat}
theorem rm_st51 {K : Int → jm_H → Prop} {x3 : Int} {k : Nat} (hr : rw_M h n r) (hp : p < 12) (hn : ∀ q, q < p → o q < n) (hm : od_M h o c p)
    (hk : jm_BI E jm_SH jm_m_Mod_startOf 1 79 [some (jm_R 78), some (jm_I p), some (jm_I (o p)), some (jm_I x3), some (jm_I k), some (jm_I (od_ls r o k p)), none] [] h K) :
    ∀ (m : Nat) (x5 : Int), m ≤ p → x5 = (m : Int) - 1 → od_ls r o k m = od_ls r o k p → jm_BI E jm_SH jm_m_Mod_startOf 1 51 [some (jm_R 78), some (jm_I p), some (jm_I (o p)), some (jm_I x3), some (jm_I k), some (jm_I x5), none] [] h K
  | 0, x5, hmp, hx, he => by
    subst hx
    refine jb_Mod_startOf_51 ⟨fun q => ?_, fun q => absurd (by decide) q⟩
    rw [← he] at hk
    exact hk
  | m + 1, x5, hmp, hx, he => by
    have hx2 : x5 = (m : Int) := by omega
    subst hx2
    have hn12 := hr.2.1
    have ho := hn m (by omega)
    have e1 := (hm.2 m (by omega)).1
    refine jb_Mod_startOf_51 ⟨fun q => by omega, fun q => ⟨by omega, ?_⟩⟩
    rw [jm_tn, e1, jm_tn, (hr.2.2 (o m) ho).2.1]
    refine ⟨by omega, fun z => ?_, fun z => ?_⟩
    · have : od_ls r o k (m + 1) = m := by
        show (if _ then _ else _) = _
        rw [if_pos z]
      rw [← he, this] at hk
      exact hk
    · have : od_ls r o k (m + 1) = od_ls r o k m := by
        show (if _ then _ else _) = _
        rw [if_neg z]
        rfl
      rw [jm_w (by omega) (by omega)]
      exact rm_st51 hr hp hn hm hk m _ (by omega) (by omega) (this.symm.trans he)
theorem rm_st29 {K : Int → jm_H → Prop} {b : Int} (hr : rw_M h n r) (ho : rw_ok n r) (hp : p < 12) (hn : ∀ q, q ≤ p → o q < n) (hm : od_M h o c p) (hc : ∀ q, q < p → 0 ≤ c q ∧ c q ≤ b) (hb : 0 ≤ b ∧ b ≤ 1000) (hk : K (od_at r o c p) h) :
    ∀ (m k : Nat) (x3 x4 : Int), m + k = 6 → x3 = od_acc r o c p k → x4 = k → jm_BI E jm_SH jm_m_Mod_startOf 1 29 [some (jm_R 78), some (jm_I p), some (jm_I (o p)), some (jm_I x3), some (jm_I x4), none, none] [] h K
  | 0, k, x3, x4, hmk, h3, h4 => by
    subst h4
    refine jb_Mod_startOf_29 ⟨fun q => ?_, fun q => by omega⟩
    rw [h3, show k = 6 by omega, od_acc_6 ho hn hc hb.1]
    exact hk
  | m + 1, k, x3, x4, hmk, h3, h4 => by
    subst h4
    have hn2 : ∀ q, q < p → o q < n := fun q hq => hn q (by omega)
    have hnn := hr.2.1
    have hl := od_ls_lt r o k p
    have hacc := od_acc_b ho hn2 hc hb.1 (k + 1)
    refine jb_Mod_startOf_29 ⟨fun q => by omega, fun q => ?_⟩
    have hgo : ∀ (x : Int), x = od_acc r o c p (k + 1) → jm_BI E jm_SH jm_m_Mod_startOf 1 29 [some (jm_R 78), some (jm_I p), some (jm_I (o p)), some (jm_I x), some (jm_I (jm_w32 ((k : Int) + 1))), none, none] [] h K := fun x hx => by
      rw [jm_w (by omega) (by omega)]
      exact rm_st29 hr ho hp hn hm hc hb hk m (k + 1) _ _ (by omega) hx (by omega)
    refine rm_uses hr (hn p (by omega)) (fun u => ⟨fun z => by omega, fun _ => ?_⟩) (fun u => ⟨fun _ => ?_, fun z => absurd rfl z⟩)
    · have u2 : r 2 (o p) = k ∨ (r 0 (o p) < 5 ∧ r 3 (o p) = k) := u
      have e : od_acc r o c p (k + 1) = max x3 (od_rd r o c (od_ls r o k p)) := by
        show (if _ then _ else _) = _
        rw [if_pos u2, h3]
      rw [jm_w (by omega) (by omega)]
      refine rm_st51 hr hp hn2 hm ?_ p _ (by omega) rfl rfl
      refine jb_Mod_startOf_79 ⟨fun q0 => ?_, fun q0 => ?_⟩
      · have hs : (od_ls r o k p).toNat < p := by omega
        obtain ⟨f1, f2⟩ := hm.2 _ hs
        have hon := hn _ (Nat.le_of_lt hs)
        have hcb := hc _ hs
        have hwb := (ho _ hon).2.2.2.2.1
        have erd : od_rd r o c (od_ls r o k p) = c (od_ls r o k p).toNat + r 4 (o (od_ls r o k p).toNat) := by
          unfold od_rd
          rw [if_neg (by omega)]
        refine ⟨by omega, by omega, ?_⟩
        rw [f1, f2, jm_tn, (hr.2.2 _ hon).2.2.2.2.1, jm_w (x := c (od_ls r o k p).toNat + _) (by omega) (by omega), ← erd]
        refine ⟨by omega, fun z => hgo _ ?_, fun z => hgo _ ?_⟩
        · rw [e]; omega
        · rw [e]; omega
      · have erd : od_rd r o c (od_ls r o k p) = 0 := by
          unfold od_rd
          rw [if_pos (by omega)]
        rw [erd] at e
        have h0 := od_acc_b ho hn2 hc hb.1 k
        exact ⟨fun z => hgo _ (by rw [e]; omega), fun z => by omega⟩
    · have u2 : ¬ (r 2 (o p) = k ∨ (r 0 (o p) < 5 ∧ r 3 (o p) = k)) := u
      refine hgo _ ?_
      show _ = if _ then _ else _
      rw [if_neg u2, h3]
theorem rm_start {K : Int → jm_H → Prop} {b : Int} (hr : rw_M h n r) (ho : rw_ok n r) (hp : p < 12) (hn : ∀ q, q ≤ p → o q < n) (hm : od_M h o c p) (hc : ∀ q, q < p → 0 ≤ c q ∧ c q ≤ b) (hb : 0 ≤ b ∧ b ≤ 1000) (hk : K (od_at r o c p) h) : jm_CI E jm_SH jm_m_Mod_startOf 1 [jm_R 78, jm_I p] h K := by
  refine jb_Mod_startOf ⟨by omega, ?_⟩
  rw [jm_tn, hm.1]
  refine ⟨fun q => ?_, fun q => ?_⟩
  · have hcb := hc (p - 1) (by omega)
    rw [jm_w (by omega) (by omega), show (p : Int) - 1 = ((p - 1 : Nat) : Int) by omega, jm_tn, (hm.2 (p - 1) (by omega)).2, jm_w (by omega) (by omega)]
    refine ⟨by omega, rm_st29 hr ho hp hn hm hc hb hk 6 0 _ _ rfl ?_ rfl⟩
    show _ = rw_nx c p
    have : p = (p - 1) + 1 := by omega
    rw [this]
    rfl
  · refine rm_st29 hr ho hp hn hm hc hb hk 6 0 _ _ rfl ?_ rfl
    have : p = 0 := by omega
    subst this
    rfl
end OD
