/-! THE BEST ORDER: the class's search -/
def lx_ (n : Nat) (o o2 : Nat → Nat) : Prop := ∃ q, q < n ∧ (∀ j, j < q → o j = o2 j) ∧ o q < o2 q
theorem lx_asym {n : Nat} {o o2 : Nat → Nat} (h1 : lx_ n o o2) (h2 : lx_ n o2 o) : False := by
  obtain ⟨a, -, a1, a2⟩ := h1
  obtain ⟨b, -, b1, b2⟩ := h2
  rcases Nat.lt_trichotomy a b with q | q | q
  · have := b1 a q; omega
  · subst q; omega
  · have := a1 b q; omega
def bo_ (r : Nat → Nat → Int) (n : Nat) (o : Nat → Nat) : Prop := vo_ r n o n ∧ ∀ o2, vo_ r n o2 n → oe_ r o n ≤ oe_ r o2 n ∧ (lx_ n o2 o → oe_ r o n < oe_ r o2 n)
theorem bo_one {r : Nat → Nat → Int} {n : Nat} {o o2 : Nat → Nat} (h1 : bo_ r n o) (h2 : bo_ r n o2) : ∀ q, q < n → o q = o2 q := by
  intro q
  induction q using Nat.strongRecOn with
  | ind q ih =>
    intro hq
    have a := h1.2 o2 h2.1
    have b := h2.2 o h1.1
    rcases Nat.lt_trichotomy (o q) (o2 q) with z | z | z
    · have := b.2 ⟨q, hq, fun j hj => ih j hj (by omega), z⟩
      omega
    · exact z
    · have := a.2 ⟨q, hq, fun j hj => (ih j hj (by omega)).symm, z⟩
      omega
/-- the orders that go on from the first p -/
def cA_ (r : Nat → Nat → Int) (n : Nat) (o : Nat → Nat) (p : Nat) (o2 : Nat → Nat) : Prop := vo_ r n o2 n ∧ ∀ q, q < p → o2 q = o q
def cG_ (r : Nat → Nat → Int) (n : Nat) (o : Nat → Nat) (p i : Nat) (o2 : Nat → Nat) : Prop := cA_ r n o p o2 ∧ i ≤ o2 p
def fu_ (o : Nat → Nat) (p k : Nat) : Nat → Nat := fun q => if q = p then k else o q
theorem fu_s {o : Nat → Nat} {p k : Nat} : fu_ o p k p = k := by simp [fu_]
theorem fu_o {o : Nat → Nat} {p k q : Nat} (h : q ≠ p) : fu_ o p k q = o q := by simp [fu_, h]
theorem cG_split {r : Nat → Nat → Int} {n : Nat} {o : Nat → Nat} {p i : Nat} {o2 : Nat → Nat} : cG_ r n o p i o2 ↔ cA_ r n (fu_ o p i) (p + 1) o2 ∨ cG_ r n o p (i + 1) o2 := by
  constructor
  · rintro ⟨⟨a, b⟩, c⟩
    by_cases e : o2 p = i
    · refine Or.inl ⟨a, fun q hq => ?_⟩
      by_cases w : q = p
      · rw [w, fu_s, e]
      · rw [fu_o w]; exact b q (by omega)
    · exact Or.inr ⟨⟨a, b⟩, by omega⟩
  · rintro (⟨a, b⟩ | ⟨⟨a, b⟩, c⟩)
    · refine ⟨⟨a, fun q hq => ?_⟩, ?_⟩
      · rw [b q (by omega), fu_o (by omega)]
      · rw [b p (by omega), fu_s]
        exact Nat.le_refl _
    · exact ⟨⟨a, b⟩, by omega⟩
theorem cG_lx {r : Nat → Nat → Int} {n : Nat} {o : Nat → Nat} {p i : Nat} {o2 o3 : Nat → Nat} (hp : p < n) (h1 : cA_ r n (fu_ o p i) (p + 1) o2) (h2 : cG_ r n o p (i + 1) o3) : lx_ n o2 o3 := by
  refine ⟨p, hp, fun j hj => ?_, ?_⟩
  · rw [h1.2 j (by omega), fu_o (by omega), h2.1.2 j hj]
  · rw [h1.2 p (by omega), fu_s]
    exact h2.2
/-- from the best x so far to the best y with the orders A too -/
def oR_ (r : Nat → Nat → Int) (n : Nat) (A : (Nat → Nat) → Prop) (x y : (Nat → Int) × Int) : Prop := ((∀ q, q < n → y.1 q = x.1 q) ∧ y.2 = x.2 ∧ ∀ o, A o → x.2 ≤ oe_ r o n) ∨ ∃ o, A o ∧ (∀ q, q < n → y.1 q = (o q : Nat)) ∧ oe_ r o n = y.2 ∧ y.2 < x.2 ∧ ∀ o2, A o2 → y.2 ≤ oe_ r o2 n ∧ (lx_ n o2 o → y.2 < oe_ r o2 n)
theorem oR_.tr {r : Nat → Nat → Int} {n : Nat} {A B C : (Nat → Nat) → Prop} {x y z : (Nat → Int) × Int} (h1 : oR_ r n A x y) (h2 : oR_ r n B y z) (hlt : ∀ o o2, A o → B o2 → lx_ n o o2) (hC : ∀ o, C o ↔ A o ∨ B o) : oR_ r n C x z := by
  rcases h2 with ⟨b0, b1, b2⟩ | ⟨o2, b0, b1, b2, b3, b4⟩
  · rcases h1 with ⟨a0, a1, a2⟩ | ⟨o, a0, a1, a2, a3, a4⟩
    · refine Or.inl ⟨fun q hq => by rw [b0 q hq, a0 q hq], by rw [b1, a1], fun o ho => ?_⟩
      rcases (hC o).mp ho with w | w
      · exact a2 o w
      · have := b2 o w; omega
    · refine Or.inr ⟨o, (hC o).mpr (Or.inl a0), fun q hq => by rw [b0 q hq, a1 q hq], by rw [a2, b1], by omega, fun o2 ho => ?_⟩
      rw [b1]
      rcases (hC o2).mp ho with w | w
      · exact a4 o2 w
      · exact ⟨b2 o2 w, fun l => (lx_asym l (hlt o o2 a0 w)).elim⟩
  · have hx : y.2 ≤ x.2 := by
      rcases h1 with ⟨a0, a1, a2⟩ | ⟨o, a0, a1, a2, a3, a4⟩ <;> omega
    refine Or.inr ⟨o2, (hC o2).mpr (Or.inr b0), b1, b2, by omega, fun o3 ho => ?_⟩
    rcases (hC o3).mp ho with w | w
    · have : y.2 ≤ oe_ r o3 n := by
        rcases h1 with ⟨a0, a1, a2⟩ | ⟨o, a0, a1, a2, a3, a4⟩
        · have := a2 o3 w; omega
        · exact (a4 o3 w).1
      exact ⟨by omega, fun _ => by omega⟩
    · exact b4 o3 w
theorem oR_no {r : Nat → Nat → Int} {n : Nat} {A : (Nat → Nat) → Prop} {x : (Nat → Int) × Int} (h : ∀ o, A o → x.2 ≤ oe_ r o n) : oR_ r n A x x := Or.inl ⟨fun _ _ => rfl, rfl, h⟩
/-- may k stand next -/
def ms_ (r : Nat → Nat → Int) (o : Nat → Nat) (p k : Nat) : Prop := (∀ q, q < p → o q ≠ k) ∧ ∀ j, j < k → rw_cl r j k → ∃ q, q < p ∧ o q = j
theorem vo_fu {r : Nat → Nat → Int} {n : Nat} {o : Nat → Nat} {p k : Nat} (h : vo_ r n o p) (hk : k < n) (hs : ms_ r o p k) : vo_ r n (fu_ o p k) (p + 1) := by
  intro q hq
  by_cases e : q = p
  · subst e
    rw [fu_s]
    refine ⟨hk, fun q2 h2 => by rw [fu_o (by omega)]; exact hs.1 q2 h2, fun j hj hc => ?_⟩
    obtain ⟨q2, a, b⟩ := hs.2 j hj hc
    exact ⟨q2, a, by rw [fu_o (by omega)]; exact b⟩
  · have := h q (by omega)
    rw [fu_o e]
    refine ⟨this.1, fun q2 h2 => by rw [fu_o (by omega)]; exact this.2.1 q2 h2, fun j hj hc => ?_⟩
    obtain ⟨q2, a, b⟩ := this.2.2 j hj hc
    exact ⟨q2, a, by rw [fu_o (by omega)]; exact b⟩
theorem ms_no {r : Nat → Nat → Int} {n : Nat} {o : Nat → Nat} {p k : Nat} (hp : p < n) (hs : ¬ ms_ r o p k) {o2 : Nat → Nat} : ¬ cA_ r n (fu_ o p k) (p + 1) o2 := by
  rintro ⟨a, b⟩
  apply hs
  have hk : o2 p = k := by rw [b p (by omega), fu_s]
  have hq : ∀ q, q < p → o2 q = o q := fun q hq => by rw [b q (by omega), fu_o (by omega)]
  obtain ⟨c1, c2, c3⟩ := a p hp
  refine ⟨fun q h2 => ?_, fun j hj hc => ?_⟩
  · rw [← hq q h2, ← hk]; exact c2 q h2
  · obtain ⟨q2, z1, z2⟩ := c3 j (by rw [hk]; exact hj) (by rw [hk]; exact hc)
    exact ⟨q2, z1, by rw [← hq q2 z1]; exact z2⟩
theorem inj_surj {n : Nat} {f : Nat → Nat} (h1 : ∀ q, q < n → f q < n) (h2 : ∀ a b, a < n → b < n → f a = f b → a = b) {k : Nat} (hk : k < n) : ∃ q, q < n ∧ f q = k := by
  apply Classical.byContradiction
  intro hno
  have hL : (k :: (List.range n).map f).Nodup := by
    rw [List.nodup_cons]
    refine ⟨fun hm => ?_, ?_⟩
    · obtain ⟨q, hq, e⟩ := List.mem_map.mp hm
      exact hno ⟨q, List.mem_range.mp hq, e⟩
    · unfold List.Nodup
      rw [List.pairwise_map]
      refine List.Pairwise.imp_of_mem (R := fun a b => a < b) (fun {a b} ha hb hlt e => ?_) List.pairwise_lt_range
      have := h2 a b (List.mem_range.mp ha) (List.mem_range.mp hb) e
      omega
  have := im_len (fun q => q) n _ hL (fun x hx => by
    rcases List.mem_cons.mp hx with rfl | hx
    · exact ⟨x, hk, rfl⟩
    · obtain ⟨q, hq, e⟩ := List.mem_map.mp hx
      exact ⟨x, by rw [← e]; exact h1 q (List.mem_range.mp hq), rfl⟩)
  simp at this
  omega
/-- what the class has prepared -/
def os_C (h : jm_H) (n : Nat) (r : Nat → Nat → Int) (t : Nat → Int) (b : Nat → Nat) : Prop := h 47 10 = n ∧ n ≤ 10 ∧ rw_C h n r ∧ tv_ r n t ∧ (∀ q, q < n → b q < n) ∧ (∀ a c, a < n → c < n → b a = b c → a = c) ∧ (∀ a c, a ≤ c → c < n → t (b c) ≤ t (b a)) ∧ ∀ k, k < n → h 49 k = rw_s1 r k ∧ h 50 k = rw_s2 r k ∧ h 51 k = t k ∧ h 52 k = (b k : Nat) ∧ ∃ N : Nat, h 48 k = N ∧ N < 4096 ∧ ∀ j, N.testBit j = true ↔ j < k ∧ rw_cl r j k
def ef_ (h h2 : jm_H) : Prop := ∀ u v, ¬ (u = 53 ∨ u = 54 ∨ u = 55 ∨ (u = 47 ∧ v = 9)) → h2 u v = h u v
theorem ef_.rf {h : jm_H} : ef_ h h := fun _ _ _ => rfl
theorem ef_.tr {h h1 h2 : jm_H} (p : ef_ h h1) (q : ef_ h1 h2) : ef_ h h2 := fun a b z => (q a b z).trans (p a b z)
theorem os_C.fr {h h2 : jm_H} {n : Nat} {r : Nat → Nat → Int} {t : Nat → Int} {b : Nat → Nat} (hs : os_C h n r t b) (e : ef_ h h2) : os_C h2 n r t b := by
  obtain ⟨a1, a2, a3, a4, a5, a6, a7, a8⟩ := hs
  refine ⟨by rw [e _ _ (by omega)]; exact a1, a2, a3.off fun u v z => e u v (by omega), a4, a5, a6, a7, fun k hk => ?_⟩
  rw [e _ _ (by omega), e _ _ (by omega), e _ _ (by omega), e _ _ (by omega), e _ _ (by omega)]
  exact a8 k hk
def dn_ (D : Nat) (o : Nat → Nat) (p : Nat) : Prop := D < 4096 ∧ ∀ j, D.testBit j = true ↔ ∃ q, q < p ∧ o q = j
def pc_o (h : jm_H) (r : Nat → Nat → Int) (o : Nat → Nat) (p : Nat) : Prop := ∀ q, q < p → h 54 q = (o q : Nat) ∧ h 53 (o q) = oc_ r o p q
theorem bt_b {a i : Nat} (h : a < 4096) (hi : i < 32) : (jv_and (jv_shr (a : Int) (i : Int)) 1 = 0 ↔ a.testBit i = false) := by
  rw [jv_bit (by omega) hi, bt_dm]
  simp only [decide_eq_false_iff_not]
  omega
/-- when a setter is ready, if it is done -/
def rv2_ (r : Nat → Nat → Int) (D : Nat) (s : Nat → Int) (k : Int) : Int := if k < 0 then 0 else if D.testBit k.toNat = true then s k.toNat + r 4 k.toNat else 0
section EX
variable {E : jm_Env} {n : Nat} {r : Nat → Nat → Int} {t : Nat → Int} {b : Nat → Nat} {o : Nat → Nat} {p D : Nat}
theorem rc_rdyAt {h : jm_H} {s : Int} {K : Int → jm_H → Prop} (hs : os_C h n r t b) (ho : rw_ok n r) (hp : pc_o h r o p) (hv : vo_ r n o p) (hd : dn_ D o p) (hsn : s < n) (hk : K (rv2_ r D (h 53) s) h) : jm_CI E jm_SH jm_m_Order_readyAt 0 [jm_R 47, jm_I s, jm_I D] h K := by
  have hn := hs.2.1
  unfold rv2_ at hk
  refine jb_Order_readyAt ⟨fun q => by rw [if_pos q] at hk; exact hk, fun q => ?_⟩
  rw [if_neg q] at hk
  obtain ⟨k, rfl⟩ : ∃ k : Nat, s = k := ⟨s.toNat, by omega⟩
  rw [jm_tn] at hk ⊢
  have hb := bt_b hd.1 (show k < 32 by omega)
  refine ⟨fun z => ⟨by omega, by omega, ?_⟩, fun z => ?_⟩
  · have hbit : D.testBit k = true := by
      cases w : D.testBit k
      · exact absurd (hb.mpr w) z
      · rfl
    rw [if_pos hbit] at hk
    obtain ⟨q, q1, q2⟩ := (hd.2 k).mp hbit
    have e := (hp q q1).2
    rw [q2] at e
    have h1 := oc_b ho p (fun q hq => (hv q hq).1) q q1
    have h2 := (hv q q1).1
    have h3 := (ho k (by omega)).2.2.2.2.1
    have hpn : p ≤ n := by
      have := im_len (fun q => q) n ((List.range p).map o) (by
        unfold List.Nodup
        rw [List.pairwise_map]
        refine List.Pairwise.imp_of_mem (R := fun a b => a < b) (fun {a b} ha hb hlt e => ?_) List.pairwise_lt_range
        have := hv.inj (List.mem_range.mp ha) (List.mem_range.mp hb) e
        omega) (fun x hx => by
        obtain ⟨q, hq, e⟩ := List.mem_map.mp hx
        exact ⟨x, by rw [← e]; exact (hv q (List.mem_range.mp hq)).1, rfl⟩)
      simpa using this
    rw [(hs.2.2.1.2.2 k (by omega)).2.2.2.2.1, e, jm_w (by omega) (by omega), ← e]
    exact hk
  · rw [if_neg (by rw [hb.mp z]; simp)] at hk
    exact hk
theorem rc_rdyFor {h : jm_H} {k : Nat} {K : Int → jm_H → Prop} (hs : os_C h n r t b) (ho : rw_ok n r) (hp : pc_o h r o p) (hv : vo_ r n o p) (hd : dn_ D o p) (hkn : k < n) (hk : K (max (rv2_ r D (h 53) (rw_s1 r k)) (rv2_ r D (h 53) (rw_s2 r k))) h) : jm_CI E jm_SH jm_m_Order_readyFor 1 [jm_R 47, jm_I k, jm_I D] h K := by
  have hn := hs.2.1
  obtain ⟨e1, e2, -⟩ := hs.2.2.2.2.2.2.2 k hkn
  refine jb_Order_readyFor ⟨by omega, ?_⟩
  rw [jm_tn, e1]
  have l1 := (rw_s1_lt r k).2
  have l2 := (rw_s2_lt r k).2
  refine rc_rdyAt hs ho hp hv hd (by omega) ⟨by omega, ?_⟩
  rw [e2]
  exact rc_rdyAt hs ho hp hv hd (by omega) hk
/-- what is ready by those that are done is no later than in any order that goes on -/
theorem rv2_le {st : Nat → Int} {o2 : Nat → Nat} {s : Int} (ho : rw_ok n r) (hst : ∀ q, q < p → st (o q) = oc_ r o p q) (hd : dn_ D o p) (hpn : p ≤ n) (h2 : cA_ r n o p o2) (hs : s < n) : rv2_ r D st s ≤ rdy_ r (os_ r o2 n) s := by
  unfold rv2_ rdy_
  by_cases q : s < 0
  · rw [if_pos q, if_pos q]
    exact Int.le_refl _
  · rw [if_neg q, if_neg q]
    obtain ⟨k, rfl⟩ : ∃ k : Nat, s = k := ⟨s.toNat, by omega⟩
    rw [jm_tn]
    by_cases w : D.testBit k = true
    · rw [if_pos w]
      obtain ⟨q0, z1, z2⟩ := (hd.2 k).mp w
      have e1 : os_ r o2 n k = oc_ r o2 n q0 := by
        rw [← z2, ← h2.2 q0 z1]
        exact os_eq h2.1 (by omega)
      have e2 : oc_ r o2 n q0 = oc_ r o p q0 := by
        rw [oc_step z1 hpn]
        exact oc_congr p h2.2 q0 z1
      rw [e1, e2, ← hst q0 z1, z2]
      exact Int.le_refl _
    · rw [if_neg w]
      obtain ⟨q0, z1, z2⟩ := h2.1.surj (show k < n by omega)
      have e1 : os_ r o2 n k = oc_ r o2 n q0 := by
        rw [← z2]
        exact os_eq h2.1 z1
      have h3 := oc_b ho n (fun q hq => (h2.1 q hq).1) q0 z1
      have h4 := (ho k (by omega)).2.2.2.2.1
      omega
theorem vo_pn (hv : vo_ r n o p) : p ≤ n := by
  have := im_len (fun q => q) n ((List.range p).map o) (by
    unfold List.Nodup
    rw [List.pairwise_map]
    refine List.Pairwise.imp_of_mem (R := fun a b => a < b) (fun {a b} ha hb hlt e => ?_) List.pairwise_lt_range
    have := hv.inj (List.mem_range.mp ha) (List.mem_range.mp hb) e
    omega) (fun x hx => by
    obtain ⟨q, hq, e⟩ := List.mem_map.mp hx
    exact ⟨x, by rw [← e]; exact (hv q (List.mem_range.mp hq)).1, rfl⟩)
  simpa using this
theorem rc_least8 {h : jm_H} {K : Int → jm_H → Prop} (hs : os_C h n r t b) (ho : rw_ok n r) (hp : pc_o h r o p) (hv : vo_ r n o p) (hd : dn_ D o p) (hk : ∀ v : Int, (0 ≤ v ∧ v ≤ 1000) → (∀ o2, cA_ r n o p o2 → v ≤ oe_ r o2 n) → (p = n → v = oe_ r o n) → K v h) :
    ∀ (m j : Nat) (x3 x4 x5 : Int) (L : List Nat), m + j = n → x5 = j → L.Nodup → (∀ x ∈ L, x < n ∧ D.testBit x = false ∧ ∃ j2, j2 < j ∧ b j2 = x) → x4 = rw_nx (oc_ r o p) p - 1 + L.length → (0 ≤ x3 ∧ x3 ≤ 1000) → (∀ o2, cA_ r n o p o2 → x3 ≤ oe_ r o2 n) → (∀ j2, j2 < j → D.testBit (b j2) = true → h 53 (b j2) + r 4 (b j2) ≤ x3) → jm_BI E jm_SH jm_m_Order_endAtLeast 2 8 [some (jm_R 47), some (jm_I D), none, some (jm_I x3), some (jm_I x4), some (jm_I x5), none] [] h K
  | 0, j, x3, x4, x5, L, hm, h5, hL, hLx, h4, h3, hle, hge => by
    subst h5
    have hjn : j = n := by omega
    subst hjn
    refine jb_Order_endAtLeast_8 ⟨fun q => hk x3 h3 hle (fun hpn => ?_), fun q => by rw [hs.1] at q; omega⟩
    subst hpn
    refine Int.le_antisymm (hle o ⟨hv, fun _ _ => rfl⟩) (rw_end_le h3.1 p (fun q hq => ?_))
    obtain ⟨j2, z1, z2⟩ := inj_surj hs.2.2.2.2.1 hs.2.2.2.2.2.1 (hv q hq).1
    have := hge j2 z1 ((hd.2 (b j2)).mpr ⟨q, hq, z2.symm⟩)
    rw [z2, (hp q hq).2] at this
    exact this
  | m + 1, j, x3, x4, x5, L, hm, h5, hL, hLx, h4, h3, hle, hge => by
    subst h5
    have hn := hs.2.1
    have hpn := vo_pn hv
    have hbj := hs.2.2.2.2.1 j (by omega)
    have e52 := (hs.2.2.2.2.2.2.2 j (by omega)).2.2.2.1
    have hoc : ∀ q, q < p → 0 ≤ oc_ r o p q ∧ oc_ r o p q ≤ 6 * q := oc_b ho p (fun q hq => (hv q hq).1)
    have hnx : 0 ≤ rw_nx (oc_ r o p) p ∧ rw_nx (oc_ r o p) p ≤ 100 := by
      cases p with
      | zero => simp [rw_nx]
      | succ p =>
        have := hoc p (by omega)
        show 0 ≤ oc_ r o (p + 1) p + 1 ∧ oc_ r o (p + 1) p + 1 ≤ 100
        omega
    have hll : L.length ≤ n := im_len (fun q => q) n L hL (fun x hx => ⟨x, (hLx x hx).1, rfl⟩)
    have hwb := (ho (b j) hbj).2.2.2.2.1
    refine jb_Order_endAtLeast_8 ⟨fun q => by rw [hs.1] at q; omega, fun _ => ⟨by omega, ?_⟩⟩
    rw [jm_tn, e52, jm_tn]
    have hb := bt_b hd.1 (show b j < 32 by omega)
    refine ⟨fun z => ?_, fun z => ⟨by omega, by omega, ?_⟩⟩
    · have hz := hb.mp z
      refine rc_rdyFor hs ho hp hv hd hbj ⟨by omega, ?_⟩
      rw [(hs.2.2.2.2.2.2.2 (b j) hbj).2.2.1]
      have htj := (hs.2.2.2.1 (b j) hbj).1
      have hrv : ∀ s : Int, s < n → 0 ≤ rv2_ r D (h 53) s ∧ rv2_ r D (h 53) s ≤ 100 := fun s hsn => by
        unfold rv2_
        split
        · omega
        · split
          · rename_i w1 w2
            obtain ⟨q, q1, q2⟩ := (hd.2 _).mp w2
            have e := (hp q q1).2
            rw [q2] at e
            have := hoc q q1
            have h3 := (ho s.toNat (by omega)).2.2.2.2.1
            omega
          · omega
      have l1 := (rw_s1_lt r (b j)).2
      have l2 := (rw_s2_lt r (b j)).2
      have v1 := hrv (rw_s1 r (b j)) (by omega)
      have v2 := hrv (rw_s2 r (b j)) (by omega)
      rw [jm_w (x := x4 + 1) (by omega) (by omega), jm_w (x := (j : Int) + 1) (by omega) (by omega), jm_w (by omega) (by omega)]
      have hnew : b j ∉ L := fun hm2 => by
        obtain ⟨-, -, j2, z1, z2⟩ := hLx _ hm2
        have := hs.2.2.2.2.2.1 j2 j (by omega) (by omega) z2
        omega
      refine rc_least8 hs ho hp hv hd hk m (j + 1) _ _ _ (b j :: L) (by omega) (by omega) (List.nodup_cons.mpr ⟨hnew, hL⟩) (fun x hx => ?_) (by rw [h4]; simp; omega) (by omega) (fun o2 h2 => ?_) (fun j2 hj2 hb2 => ?_)
      · rcases List.mem_cons.mp hx with rfl | hx
        · exact ⟨hbj, hz, j, by omega, rfl⟩
        · obtain ⟨a1, a2, j2, a3, a4⟩ := hLx x hx
          exact ⟨a1, a2, j2, by omega, a4⟩
      · have hA := hle o2 h2
        obtain ⟨qk, z1, z2⟩ := h2.1.surj hbj
        have hpos : ∀ x q, D.testBit x = false → o2 q = x → p ≤ q := fun x q hx hq => by
          rcases Nat.lt_or_ge q p with w | w
          · have : D.testBit x = true := (hd.2 x).mpr ⟨q, w, by rw [← h2.2 q w]; exact hq⟩
            rw [hx] at this
            cases this
          · exact w
        have hnx2 : rw_nx (oc_ r o2 n) p = rw_nx (oc_ r o p) p := rw_nx_congr fun q hq => by
          rw [oc_step hq hpn]
          exact oc_congr p h2.2 q hq
        have ht1 := tv_le ho hs.2.2.2.1 h2.1 (n - 1 - o2 qk) qk z1 (by have := (h2.1 qk z1).1; omega)
        have hB := vo_left (r := r) (n := n) (o := o2) (p := p) (v := t (b j)) (L := b j :: L) hpn (List.nodup_cons.mpr ⟨hnew, hL⟩) (by simp) (fun x hx => by
          have hx2 : x < n ∧ D.testBit x = false ∧ ∃ j2, j2 ≤ j ∧ b j2 = x := by
            rcases List.mem_cons.mp hx with rfl | hx
            · exact ⟨hbj, hz, j, Nat.le_refl _, rfl⟩
            · obtain ⟨a1, a2, j2, a3, a4⟩ := hLx x hx
              exact ⟨a1, a2, j2, by omega, a4⟩
          obtain ⟨a1, a2, j2, a3, a4⟩ := hx2
          obtain ⟨q, y1, y2⟩ := h2.1.surj a1
          have ht2 := tv_le ho hs.2.2.2.1 h2.1 (n - 1 - o2 q) q y1 (by have := (h2.1 q y1).1; omega)
          have hso := hs.2.2.2.2.2.2.1 j2 j a3 (by omega)
          rw [a4] at hso
          rw [y2] at ht2
          exact ⟨q, hpos x q a2 y2, y1, y2, by omega⟩) (fun j hj => (oc_b ho n (fun q hq => (h2.1 q hq).1) j hj).1)
        rw [hnx2] at hB
        have hv2 := vo_at (c := oc_ r o2 n) (s := os_ r o2 n) (h2.1.le (show qk + 1 ≤ n by omega)) (fun q hq => os_eq h2.1 (by omega))
        rw [← oc_at z1, z2] at hv2
        rw [z2] at ht1
        have w1 := rv2_le (st := h 53) ho (fun q hq => (hp q hq).2) hd hpn h2 (show rw_s1 r (b j) < n by omega)
        have w2 := rv2_le (st := h 53) ho (fun q hq => (hp q hq).2) hd hpn h2 (show rw_s2 r (b j) < n by omega)
        simp only [List.length_cons] at hB
        omega
      · by_cases e : j2 = j
        · subst e
          rw [hz] at hb2
          cases hb2
        · have := hge j2 (by omega) hb2
          omega
    · have hbit : D.testBit (b j) = true := by
        cases w : D.testBit (b j)
        · exact absurd (hb.mpr w) z
        · rfl
      obtain ⟨q0, q1, q2⟩ := (hd.2 _).mp hbit
      have e := (hp q0 q1).2
      rw [q2] at e
      have hb0 := hoc q0 q1
      rw [(hs.2.2.1.2.2 (b j) (by omega)).2.2.2.2.1, jm_w (x := (j : Int) + 1) (by omega) (by omega), jm_w (by omega) (by omega)]
      refine rc_least8 hs ho hp hv hd hk m (j + 1) _ _ _ L (by omega) (by omega) hL (fun x hx => ?_) h4 (by omega) (fun o2 h2 => ?_) (fun j2 hj2 hb2 => ?_)
      · obtain ⟨a1, a2, j2, a3, a4⟩ := hLx x hx
        exact ⟨a1, a2, j2, by omega, a4⟩
      · have hA := hle o2 h2
        have h5 := rw_end_ge (c := oc_ r o2 n) (w := fun q => r 4 (o2 q)) n q0 (by omega)
        have h6 : oc_ r o2 n q0 = oc_ r o p q0 := by
          rw [oc_step q1 hpn]
          exact oc_congr p h2.2 q0 q1
        have h7 : oc_ r o2 n q0 + r 4 (o2 q0) ≤ oe_ r o2 n := h5
        rw [h2.2 q0 q1, q2, h6, ← e] at h7
        omega
      · by_cases e2 : j2 = j
        · subst e2
          omega
        · have := hge j2 (by omega) hb2
          omega
theorem rc_least {h : jm_H} {K : Int → jm_H → Prop} {x : Int} (hs : os_C h n r t b) (ho : rw_ok n r) (hp : pc_o h r o p) (hv : vo_ r n o p) (hd : dn_ D o p) (hx : x = rw_nx (oc_ r o p) p - 1) (hk : ∀ v : Int, (0 ≤ v ∧ v ≤ 1000) → (∀ o2, cA_ r n o p o2 → v ≤ oe_ r o2 n) → (p = n → v = oe_ r o n) → K v h) : jm_CI E jm_SH jm_m_Order_endAtLeast 2 [jm_R 47, jm_I D, jm_I x] h K :=
  jb_Order_endAtLeast (rc_least8 hs ho hp hv hd hk n 0 _ _ _ [] rfl rfl List.nodup_nil (fun x hx => by simp at hx) (by rw [hx]; simp) (by omega) (fun o2 h2 => rw_end_0 n) (fun j2 h2 => by omega))
end EX
