/-! SHORTEST: the class's -/
theorem mf_8 : ∀ (o : Fin 7) (x y : Fin 3), (((o : Nat) = 0 ∧ (x : Nat) ≤ (y : Nat)) ∨ ((o : Nat) = 1 ∧ (x : Nat) ≠ (y : Nat)) ∨ (((o : Nat) = 2 ∨ (o : Nat) = 3 ∨ (o : Nat) = 4) ∧ (x : Nat) < (y : Nat)) ∨ (o : Nat) = 6) → (5 ≤ (o : Nat) → (y : Nat) = 0) → ∃ m : Fin 24, mo_ m = (o : Nat) ∧ mx_ m = (x : Nat) ∧ my_ m = (y : Nat) := by decide +kernel
theorem mf_9 : ∀ (t : Fin 3) (m : Fin 24), lU_ (0 ||| 2 ^ (t : Nat)) m = 0 ↔ (mx_ m = (t : Nat) ∨ (mo_ m < 5 ∧ my_ m = (t : Nat))) := by decide +kernel
theorem mf_10 : ∀ (t : Fin 3) (m : Fin 24) (t2 : Fin 3), (lU_ (0 ||| 2 ^ (t : Nat)) m).testBit t2 = false ↔ ((mx_ m = (t : Nat) ∨ (mo_ m < 5 ∧ my_ m = (t : Nat))) ∨ (t2 : Nat) ≠ (t : Nat)) := by decide +kernel
theorem mf_11 : ∀ (t : Fin 3) (m : Fin 24) (t2 : Fin 3) (m2 : Fin 24), lU_ (lU_ (0 ||| 2 ^ (t : Nat)) m ||| 2 ^ (t2 : Nat)) m2 = 0 ↔ ((mx_ m2 = (t2 : Nat) ∨ (mo_ m2 < 5 ∧ my_ m2 = (t2 : Nat))) ∧ ((mx_ m = (t : Nat) ∨ (mo_ m < 5 ∧ my_ m = (t : Nat))) ∨ (mx_ m2 = (t : Nat) ∨ (mo_ m2 < 5 ∧ my_ m2 = (t : Nat))))) := by decide +kernel
theorem tm_ex {c : in_I} (hv : vi_ c) (hn : iN_ c.1 c.2.2.1 c.2.2.2) : ∃ m, m < 24 ∧ tm_ (c.2.1, m) = c := by
  obtain ⟨op, t, x, y⟩ := c
  obtain ⟨h1, h2, h3, h4, h5⟩ := hv
  obtain ⟨m, a1, a2, a3⟩ := mf_8 ⟨op, h1⟩ ⟨x, h3⟩ ⟨y, h4⟩ hn h5
  refine ⟨m, m.isLt, ?_⟩
  show ((mo_ m, t, mx_ m, my_ m) : in_I) = (op, t, x, y)
  rw [a1, a2, a3]
theorem ma_iF {c : in_I} {m t : Nat} (h : tm_ (t, m) = c) (hf : iF_ c.1 c.2.2.1 c.2.2.2) : ma_ m ≠ 0 := by
  subst h
  obtain ⟨f1, f2⟩ := hf
  have f1' : mo_ m = 1 → my_ m ≠ 2 := f1
  have f2' : (mo_ m = 2 ∨ mo_ m = 3 ∨ mo_ m = 4) → mx_ m = 0 ∧ my_ m = 1 := f2
  unfold ma_
  rw [if_neg]
  · omega
  · rintro (⟨z1, z2⟩ | ⟨z1, z2⟩)
    · exact f1' z1 z2
    · exact z2 (f2' z1)
theorem rd_tm {c : in_I} {m t q : Nat} (h : tm_ (t, m) = c) : rd_ c q ↔ (mx_ m = q ∨ (mo_ m < 5 ∧ my_ m = q)) := by
  subst h
  exact Iff.rfl
/-- a row need not be tried, or the class tries it -/
theorem pr_k_all {s : List in_I} (hv : ∀ c ∈ s, vi_ c) (h1 : 1 ≤ s.length) (h3 : s.length ≤ 3) : RD_ s ∨ ∃ p : List (Nat × Nat), s = p.map tm_ ∧ PC_ true 0 p := by
  match s, h1, h3, hv with
  | [c], _, _, hv =>
    have hc := hv c (by simp)
    by_cases h : P1_ c
    · obtain ⟨z1, z2, z3⟩ := h
      obtain ⟨m, a1, a2⟩ := tm_ex hc z2
      refine Or.inr ⟨[(c.2.1, m)], by simp [a2], z1, a1, fun _ => ma_iF a2 z3, ?_⟩
      show 0 &&& _ = 0
      exact Nat.zero_and _
    · exact Or.inl (pr_1 hc h)
  | [c, d], _, _, hv =>
    have hc := hv c (by simp)
    have hd := hv d (by simp)
    by_cases h : P2_ c d
    · obtain ⟨⟨z1, z2⟩, z3, z4, z5⟩ := h
      obtain ⟨m, a1, a2⟩ := tm_ex hc z1
      obtain ⟨m2, b1, b2⟩ := tm_ex hd z3
      have e0 : lU_ 0 m = 0 := Nat.zero_and _
      refine Or.inr ⟨[(c.2.1, m), (d.2.1, m2)], by simp [a2, b2], hc.2.1, a1, fun _ => ma_iF a2 z2, by show (lU_ 0 m).testBit _ = false; rw [e0]; exact Nat.zero_testBit _, z4, b1, fun w => by simp at w, ?_⟩
      show lU_ (lU_ 0 m ||| 2 ^ c.2.1) m2 = 0
      rw [e0]
      exact (mf_9 ⟨c.2.1, hc.2.1⟩ ⟨m2, b1⟩).mpr ((rd_tm b2).mp z5)
    · exact Or.inl (pr_2 hc hd h)
  | [c, d, e], _, _, hv =>
    have hc := hv c (by simp)
    have hd := hv d (by simp)
    have he := hv e (by simp)
    by_cases h : P3_ c d e
    · obtain ⟨⟨z1, z2⟩, z3, z4, z5, z6, z7⟩ := h
      obtain ⟨m, a1, a2⟩ := tm_ex hc z1
      obtain ⟨m2, b1, b2⟩ := tm_ex hd z3
      obtain ⟨m3, c1, c2⟩ := tm_ex he z4
      have e0 : lU_ 0 m = 0 := Nat.zero_and _
      refine Or.inr ⟨[(c.2.1, m), (d.2.1, m2), (e.2.1, m3)], by simp [a2, b2, c2], hc.2.1, a1, fun _ => ma_iF a2 z2, by show (lU_ 0 m).testBit _ = false; rw [e0]; exact Nat.zero_testBit _, hd.2.1, b1, fun w => by simp at w, ?_, z5, c1, fun w => by simp at w, ?_⟩
      · show (lU_ (lU_ 0 m ||| 2 ^ c.2.1) m2).testBit d.2.1 = false
        rw [e0]
        refine (mf_10 ⟨c.2.1, hc.2.1⟩ ⟨m2, b1⟩ ⟨d.2.1, hd.2.1⟩).mpr ?_
        rcases z7 with w | w
        · exact Or.inl ((rd_tm b2).mp w)
        · exact Or.inr w.1
      · show lU_ (lU_ (lU_ 0 m ||| 2 ^ c.2.1) m2 ||| 2 ^ d.2.1) m3 = 0
        rw [e0]
        refine (mf_11 ⟨c.2.1, hc.2.1⟩ ⟨m2, b1⟩ ⟨d.2.1, hd.2.1⟩ ⟨m3, c1⟩).mpr ⟨(rd_tm c2).mp z6, ?_⟩
        rcases z7 with w | w
        · exact Or.inl ((rd_tm b2).mp w)
        · exact Or.inr ((rd_tm c2).mp w.2)
    · exact Or.inl (pr_3 hc hd he h)
  | [], h1, _, _ => exact absurd h1 (by simp)
  | _ :: _ :: _ :: _ :: _, _, h3, _ => simp at h3
theorem D_.sf {T : Nat → Nat → Nat} {s s2 : List in_I} (h : D_ T s) (e : sf_e s s2) : D_ T s2 := fun a w ha hw => by rw [← e a w ha hw]; exact h a w ha hw
/-- of the rows of one length the class tries enough -/
theorem sh_all {T : Nat → Nat → Nat} {k : Nat} {B : Nat} (h1 : 1 ≤ k) (h3 : k ≤ 3) (hs : ∀ s : List in_I, (∀ c ∈ s, vi_ c) → s.length < k → ¬ D_ T s) (hp : ∀ p : List (Nat × Nat), p.length = k → PC_ true 0 p → nm_ (p.map tm_) 0 < B → ¬ D_ T (p.map tm_)) : ∀ (N : Nat) (s : List in_I), nm_ s 0 = N → (∀ c ∈ s, vi_ c) → s.length = k → N < B → ¬ D_ T s := by
  intro N
  induction N using Nat.strongRecOn with
  | ind N ih =>
    intro s hN hv hk hB hD
    rcases pr_k_all hv (by omega) (by omega) with ⟨s2, a1, a2, a3⟩ | ⟨p, a1, a2⟩
    · rcases a3 with a3 | ⟨a3, a4⟩
      · exact hs s2 a1 (by omega) (hD.sf a2)
      · exact ih (nm_ s2 0) (by omega) s2 rfl a1 (by omega) (by omega) (hD.sf a2)
    · subst a1
      exact hp p (by simpa using hk) a2 (by omega) hD
def sT_ (r : Nat → Nat → Int) (n : Nat) : Nat → Nat → Nat := fun a w => rg_ r (i0_ a w) n 0
/-- what the class keeps of the shortest row -/
def se_ (h : jm_H) (n : Nat) (r : Nat → Nat → Int) : Prop := (∀ b, b < 16 → h 68 b = (rb_ r (b0_ wb_A (wb_ b)) n 0).toInt) ∧ (∀ q, q < 3 → h 70 q = (b0_ wb_A (wb_ 0) q).toInt) ∧ (-1 ≤ h 61 11 ∧ h 61 11 ≤ 3) ∧ ((h 61 10 = -1 ∧ ∀ s : List in_I, (∀ c ∈ s, vi_ c) → (s.length : Int) ≤ h 61 11 → ¬ D_ (sT_ r n) s) ∨ (0 ≤ h 61 10 ∧ ∃ s, SH_ (sT_ r n) s ∧ (s.length : Int) = h 61 10 ∧ s.length ≤ 3 ∧ ar_ h s 0))
def sv_C (h : jm_H) (n : Nat) (r : Nat → Nat → Int) : Prop := h 61 12 = h 37 4 → se_ h n r
def sg_f (h h2 : jm_H) : Prop := ∀ u v, ¬ (u = 60 ∨ (u = 61 ∧ 10 ≤ v ∧ v ≤ 12) ∨ (68 ≤ u ∧ u ≤ 77)) → h2 u v = h u v
theorem sg_f.tr {h h1 h2 : jm_H} (p : sg_f h h1) (q : sg_f h1 h2) : sg_f h h2 := fun a b z => (q a b z).trans (p a b z)
theorem mv_C.fr {h h2 : jm_H} (hm : mv_C h) (e : ∀ u v, 62 ≤ u → u ≤ 67 → h2 u v = h u v) : mv_C h2 := by
  refine ⟨fun m hm2 => ?_, fun o ho => ?_⟩
  · rw [e _ _ (by omega) (by omega), e _ _ (by omega) (by omega), e _ _ (by omega) (by omega), e _ _ (by omega) (by omega)]
    exact hm.1 m hm2
  · rw [e _ _ (by omega) (by omega)]
    exact hm.2 o ho
section SH
variable {E : jm_Env} {h : jm_H} {n : Nat} {r : Nat → Nat → Int}
theorem rc_sr88 {x1 : Int} {K : jm_H → Prop} (hx : 0 ≤ x1 ∧ x1 ≤ 3) (hk : ∀ h2 : jm_H, se_ h2 n r → (0 ≤ h2 61 10 ∨ x1 ≤ h2 61 11) → sg_f h h2 → h2 61 12 = h 37 4 → K h2) : ∀ (g : Nat) (h1 : jm_H), (g : Int) = 3 - h1 61 11 → mv_C h1 → se_ h1 n r → sg_f h h1 → h1 61 12 = h 37 4 → jm_BV E jm_SH jm_m_Search_refresh 17 88 [some (jm_R 61), some (jm_I x1), none] [] h1 K
  | 0, h1, hg, hm, hs, hf, hv => by
    refine jb_Search_refresh_88 ⟨fun z => hk h1 hs (Or.inl z) hf hv, fun z => ⟨fun y => hk h1 hs (Or.inr y) hf hv, fun y => ?_⟩⟩
    exact absurd (show x1 ≤ h1 61 11 by omega) y
  | g + 1, h1, hg, hm, hs, hf, hv => by
    obtain ⟨s1, s2, s3, s4⟩ := hs
    have hs : se_ h1 n r := ⟨s1, s2, s3, s4⟩
    refine jb_Search_refresh_88 ⟨fun z => hk h1 hs (Or.inl z) hf hv, fun z => ⟨fun y => hk h1 hs (Or.inr y) hf hv, fun y => ⟨fun w => by omega, fun w => ?_⟩⟩⟩
    rcases s4 with ⟨t1, t2⟩ | ⟨t1, -⟩
    case inr => exact absurd t1 z
    obtain ⟨k, hk2⟩ : ∃ k : Nat, h1 61 11 + 1 = k := ⟨(h1 61 11 + 1).toNat, by omega⟩
    have hk3 : k ≤ 3 := by omega
    have hshort : ∀ s : List in_I, (∀ c ∈ s, vi_ c) → s.length < k → ¬ D_ (sT_ r n) s := fun s a1 a2 => t2 s a1 (by omega)
    have hDD : ∀ s : List in_I, Db_ (fun b => rb_ r (b0_ wb_A (wb_ b)) n 0) s ↔ D_ (sT_ r n) s := fun s => Db_D (fun _ _ => rfl)
    rw [jm_w (by omega) (by omega), hk2]
    have f2 : sg_f h1 (jm_up h1 61 11 (k : Int)) := fun u v z => up_o (by omega)
    -- none of this length
    have no : ∀ h2 : jm_H, xf_ 0 (jm_up h1 61 11 (k : Int)) h2 → (∀ s : List in_I, (∀ c ∈ s, vi_ c) → s.length = k → ¬ D_ (sT_ r n) s) → jm_BV E jm_SH jm_m_Search_refresh 17 88 [some (jm_R 61), some (jm_I x1), none] [] h2 K := fun h2 a1 a2 => by
      have f3 : sg_f (jm_up h1 61 11 (k : Int)) h2 := fun u v z => a1 u v (by omega)
      have e11 : h2 61 11 = k := by rw [a1 _ _ (by omega), up_s]
      refine rc_sr88 hx hk g h2 (by omega) (hm.fr fun u v z1 z2 => by rw [a1 _ _ (by omega), up_o (by omega)]) ⟨fun b hb => ?_, fun q hq => ?_, by omega, Or.inl ⟨?_, fun s b1 b2 => ?_⟩⟩ ((hf.tr f2).tr f3) ?_
      · rw [a1 _ _ (by omega), up_o (by omega)]; exact s1 b hb
      · rw [a1 _ _ (by omega), up_o (by omega)]; exact s2 q hq
      · rw [a1 _ _ (by omega), up_o (by omega)]; exact t1
      · by_cases q : s.length = k
        · exact a2 s b1 q
        · exact hshort s b1 (by omega)
      · rw [a1 _ _ (by omega), up_o (by omega)]; exact hv
    have yes : ∀ (h2 : jm_H) (s : List in_I), xf_ 0 (jm_up h1 61 11 (k : Int)) h2 → SH_ (sT_ r n) s → s.length = k → ar_ h2 s 0 → jm_BV E jm_SH jm_m_Search_refresh 17 88 [some (jm_R 61), some (jm_I x1), none] [] (jm_up h2 61 10 (h2 61 11)) K := fun h2 s a1 a2 a3 a4 => by
      have f3 : sg_f (jm_up h1 61 11 (k : Int)) h2 := fun u v z => a1 u v (by omega)
      have e11 : h2 61 11 = k := by rw [a1 _ _ (by omega), up_s]
      have f4 : sg_f h2 (jm_up h2 61 10 (h2 61 11)) := fun u v z => up_o (by omega)
      refine jb_Search_refresh_88 ⟨fun _ => hk _ ⟨fun b hb => ?_, fun q hq => ?_, ?_, Or.inr ⟨?_, s, a2, ?_, by omega, fun i c hc => ?_⟩⟩ (Or.inl ?_) (((hf.tr f2).tr f3).tr f4) ?_, fun w => absurd ?_ w⟩
      · rw [up_o (by omega), a1 _ _ (by omega), up_o (by omega)]; exact s1 b hb
      · rw [up_o (by omega), a1 _ _ (by omega), up_o (by omega)]; exact s2 q hq
      · rw [up_o (by omega), e11]; omega
      · rw [up_s, e11]; omega
      · rw [up_s, e11, a3]
      · rw [up_o (by omega), up_o (by omega), up_o (by omega), up_o (by omega)]
        exact a4 i c hc
      · rw [up_s, e11]; omega
      · rw [up_o (by omega), a1 _ _ (by omega), up_o (by omega)]; exact hv
      · rw [up_s, e11]; omega
    have hd : ∀ b, b < 16 → jm_up h1 61 11 (k : Int) 68 b = (rb_ r (b0_ wb_A (wb_ b)) n 0).toInt := fun b hb => by rw [up_o (by omega)]; exact s1 b hb
    refine ⟨fun kz => ?_, fun kz => ?_⟩
    · have hss : ss_ (jm_up h1 61 11 (k : Int)) (fun b => rb_ r (b0_ wb_A (wb_ b)) n 0) [] := ⟨hm.fr fun u v z1 z2 => up_o (by omega), hd, fun i c hc => by simp at hc, fun q hq => by
        show jm_up h1 61 11 (k : Int) (70 + 0) q = _
        rw [up_o (by omega)]
        exact s2 q hq⟩
      refine rc_find (k := k) hk3 k (by omega) [] true 0 16 _ _ (by simp) (by simp) (by simp) (by omega) (by omega) hss (fun h2 a1 a2 => ⟨fun _ => no h2 a1 (fun s b1 b2 => ?_), fun w => absurd rfl w⟩) (fun h2 s a1 a2 a3 a4 a5 a6 => ⟨fun w => by omega, fun _ => yes h2 (s.map tm_) a1 ⟨PC_vi _ _ _ a3, (hDD _).mp a4, fun s3 b1 b2 => ?_⟩ (by simpa using a2) a5⟩)
      · exact sh_all (B := nm_ s 0 + 1) (by omega) hk3 hshort (fun p c1 c2 _ c4 => a2 p c1 c2 ((hDD _).mpr c4)) _ s rfl b1 b2 (by omega)
      · rcases b2 with b2 | ⟨b2, b3⟩
        · exact hshort s3 b1 (by simp at b2; omega)
        · refine sh_all (B := nm_ (s.map tm_) 0) (by omega) hk3 hshort (fun p c1 c2 c3 c4 => ?_) _ s3 rfl b1 (by simp at b2; omega) b3
          have := a6 p c1 c2 ((hDD _).mpr c4)
          omega
    · have hk0 : k = 0 := by omega
      refine rc_doesAll (s := []) (du := fun b => rb_ r (b0_ wb_A (wb_ b)) n 0) (by simp) (by simp) (fun i c hc => by simp at hc) hd (fun a h2 a1 => ⟨fun w => by omega, fun _ => yes h2 [] (fun u v z => a1 u v (by omega)) ⟨by simp, (hDD _).mp a, fun s2 b1 b2 => ?_⟩ (by simp [hk0]) (fun i c hc => by simp at hc)⟩) (fun a h2 a1 => ⟨fun _ => no h2 (fun u v z => a1 u v (by omega)) (fun s b1 b2 b3 => ?_), fun w => absurd rfl w⟩)
      · rcases b2 with b2 | ⟨b2, b3⟩
        · simp at b2
        · have : s2 = [] := List.length_eq_zero_iff.mp (by simpa using b2)
          subst this
          exact absurd b3 (Nat.lt_irrefl _)
      · have : s = [] := List.length_eq_zero_iff.mp (by omega)
        subst this
        exact a ((hDD _).mpr b3)
theorem rc_sr47 {x1 : Int} {K : jm_H → Prop} (ho : rw_ok n r) (hx : 0 ≤ x1 ∧ x1 ≤ 3) (hk : ∀ h2 : jm_H, se_ h2 n r → (0 ≤ h2 61 10 ∨ x1 ≤ h2 61 11) → sg_f h h2 → h2 61 12 = h 37 4 → K h2) : ∀ (g b : Nat) (x2 : Int) (h1 : jm_H), g + b = 16 → x2 = b → mv_C h1 → rw_C h1 n r → h1 61 10 = -1 → h1 61 11 = -1 → (∀ q, q < 3 → h1 70 q = (b0_ wb_A (wb_ 0) q).toInt) → (∀ b2, b2 < b → h1 68 b2 = (rb_ r (b0_ wb_A (wb_ b2)) n 0).toInt) → sg_f h h1 → h1 61 12 = h 37 4 → jm_BV E jm_SH jm_m_Search_refresh 17 47 [some (jm_R 61), some (jm_I x1), some (jm_I x2)] [] h1 K
  | 0, b, x2, h1, hg, e2, hm, hr, e10, e11, h70, h68, hf, hv => by
    subst e2
    refine jb_Search_refresh_47 ⟨fun _ => ?_, fun z => by omega⟩
    exact rc_sr88 hx hk 4 h1 (by rw [e11]; rfl) hm ⟨fun b2 hb => h68 b2 (by omega), h70, by omega, Or.inl ⟨e10, fun s _ z => by omega⟩⟩ hf hv
  | g + 1, b, x2, h1, hg, e2, hm, hr, e10, e11, h70, h68, hf, hv => by
    subst e2
    refine jb_Search_refresh_47 ⟨fun z => by omega, fun _ => rc_words (by omega) ?_⟩
    rw [wb_Ai]
    refine rc_behind hr ho (fun h2 c1 c2 => ⟨by omega, ?_⟩)
    rw [jm_tn, c2 0 (by omega), jm_w (by omega) (by omega)]
    refine rc_sr47 ho hx hk g (b + 1) _ _ (by omega) (by omega) (hm.fr fun u v z1 z2 => by rw [up_o (by omega), c1 _ _ (by omega)]) (hr.off fun u v z => by rw [up_o (by omega), c1 _ _ (by omega)]) (by rw [up_o (by omega), c1 _ _ (by omega)]; exact e10) (by rw [up_o (by omega), c1 _ _ (by omega)]; exact e11) (fun q hq => by rw [up_o (by omega), c1 _ _ (by omega)]; exact h70 q hq) (fun b2 hb => ?_) (hf.tr fun u v z => by rw [up_o (by omega), c1 _ _ (by omega)]) (by rw [up_o (by omega), c1 _ _ (by omega)]; exact hv)
    by_cases e : b2 = b
    · subst e
      rw [up_s]
    · rw [up_o (by omega), c1 _ _ (by omega)]
      exact h68 b2 (by omega)
theorem rc_sref {x1 : Int} {K : jm_H → Prop} (hr : rw_C h n r) (ho : rw_ok n r) (hm : mv_C h) (hs : sv_C h n r) (hx : 0 ≤ x1 ∧ x1 ≤ 3) (hk : ∀ h2 : jm_H, se_ h2 n r → (0 ≤ h2 61 10 ∨ x1 ≤ h2 61 11) → sg_f h h2 → h2 61 12 = h 37 4 → K h2) : jm_CV E jm_SH jm_m_Search_refresh 17 [jm_R 61, jm_I x1] h K := by
  refine jb_Search_refresh ⟨fun z => ?_, fun z => jb_Search_begin_70 (rc_words (b := 0) (by omega) ?_)⟩
  · have hs2 := hs z
    exact rc_sr88 hx hk (3 - h 61 11).toNat h (by have := hs2.2.2.1; omega) hm hs2 (fun _ _ _ => rfl) z
  · rw [wb_Ai]
    refine rc_sr47 ho hx hk 16 0 _ _ rfl rfl (hm.fr fun u v z1 z2 => ?_) (hr.off fun u v z => ?_) ?_ ?_ (fun q hq => ?_) (fun b2 hb => by omega) (fun u v z => ?_) ?_
    · rw [up_o (by omega), up_o (by omega), up_o (by omega), up_o (by omega), up_o (by omega), up_o (by omega)]
    · rw [up_o (by omega), up_o (by omega), up_o (by omega), up_o (by omega), up_o (by omega), up_o (by omega)]
    · rw [up_o (by omega), up_o (by omega), up_o (by omega), up_o (by omega), up_s]
    · rw [up_o (by omega), up_o (by omega), up_o (by omega), up_s]
    · unfold b0_
      rcases (show q = 0 ∨ q = 1 ∨ q = 2 by omega) with rfl | rfl | rfl
      · rw [if_pos rfl, up_o (by omega), up_o (by omega), up_s]
      · rw [if_neg (by omega), if_pos rfl, up_o (by omega), up_s]
      · rw [if_neg (by omega), if_neg (by omega), up_s]
        rfl
    · rw [up_o (by omega), up_o (by omega), up_o (by omega), up_o (by omega), up_o (by omega), up_o (by omega)]
    · rw [up_o (by omega), up_o (by omega), up_o (by omega), up_o (by omega), up_o (by omega), up_s]
def sn_ (c : in_I) : Nat := 1000 * c.1 + 100 * c.2.1 + 10 * c.2.2.1 + c.2.2.2
/-- what shortest answers -/
def sp_short (n : Nat) (r : Nat → Nat → Int) (x1 x2 v : Int) : Prop := (¬ (0 ≤ x1 ∧ x1 ≤ 3) → v = -2) ∧ (0 ≤ x1 ∧ x1 ≤ 3 → (∀ s, SH_ (sT_ r n) s → (s.length : Int) ≤ x1 → (x2 = -1 → v = s.length) ∧ (∀ c, s[x2.toNat]? = some c → 0 ≤ x2 → v = (sn_ c : Nat)) ∧ (¬ x2 = -1 → ¬ (0 ≤ x2 ∧ x2 < s.length) → v = -6)) ∧ ((∀ s : List in_I, (∀ c ∈ s, vi_ c) → (s.length : Int) ≤ x1 → ¬ D_ (sT_ r n) s) → v = -5))
theorem tc_shortest {x1 x2 : Int} {K : Int → jm_H → Prop} (hr : rw_C h n r) (ho : rw_ok n r) (hm : mv_C h) (hs : sv_C h n r) (hk : ∀ (v : Int) (h2 : jm_H), sp_short n r x1 x2 v → sg_f h h2 → sv_C h2 n r → (h2 61 12 = h 61 12 ∨ h2 61 12 = h 37 4) → K v h2) : jm_CI E jm_SH jm_m_Top_shortest 18 [jm_R 0, jm_I x1, jm_I x2] h K := by
  have kb : ¬ (0 ≤ x1 ∧ x1 ≤ 3) → K (-2) h := fun z => hk _ h ⟨fun _ => rfl, fun y => absurd y z⟩ (fun _ _ _ => rfl) hs (Or.inl rfl)
  refine jb_Top_shortest ⟨fun z => kb (by omega), fun z => ⟨fun y => ?_, fun y => kb (by omega)⟩⟩
  refine rc_sref hr ho hm hs (by omega) (fun h2 a1 a2 a3 a4 => ?_)
  obtain ⟨s1, s2, s3, s4⟩ := a1
  have hs2 : sv_C h2 n r := fun _ => ⟨s1, s2, s3, s4⟩
  have kno : (∀ s, SH_ (sT_ r n) s → ¬ (s.length : Int) ≤ x1) → K (-5) h2 := fun w => hk _ h2 ⟨fun u => absurd ⟨by omega, y⟩ u, fun _ => ⟨fun s c1 c2 => absurd c2 (w s c1), fun _ => rfl⟩⟩ a3 hs2 (Or.inr a4)
  rcases s4 with ⟨t1, t2⟩ | ⟨t1, s, t2, t3, t4, t5⟩
  · refine ⟨fun _ => kno (fun s c1 c2 => ?_), fun w => by omega⟩
    exact t2 s c1.1 (by omega) c1.2.1
  · refine ⟨fun w => by omega, fun _ => ⟨fun w => ?_, fun w => kno (fun s5 c1 c2 => ?_)⟩⟩
    · have sp : ∀ v : Int, ((x2 = -1 → v = s.length) ∧ (∀ c, s[x2.toNat]? = some c → 0 ≤ x2 → v = (sn_ c : Nat)) ∧ (¬ x2 = -1 → ¬ (0 ≤ x2 ∧ x2 < s.length) → v = -6)) → K v h2 := fun v hv => hk v h2 ⟨fun u => absurd ⟨by omega, y⟩ u, fun _ => ⟨fun s5 c1 c2 => by rw [SH_one c1 t2]; exact hv, fun u => absurd t2.2.1 (u s t2.1 (by omega))⟩⟩ a3 hs2 (Or.inr a4)
      refine ⟨fun q => ⟨fun q2 => sp _ ⟨fun u => absurd u q, fun c _ u => by omega, fun _ _ => rfl⟩, fun q2 => ⟨fun q3 => ?_, fun q3 => sp _ ⟨fun u => absurd u q, fun c u _ => ?_, fun _ _ => rfl⟩⟩⟩, fun q => ?_⟩
      · have hlt : x2.toNat < s.length := by omega
        have hg := List.getElem?_eq_getElem hlt
        obtain ⟨e0, e1, e2, e3⟩ := t5 _ _ hg
        rw [Nat.zero_add] at e0 e1 e2 e3
        obtain ⟨v1, v2, v3, v4, -⟩ := t2.1 s[x2.toNat] (List.getElem_mem hlt)
        refine jb_Search_codeAt ⟨by omega, by omega, by omega, by omega, ?_⟩
        rw [e0, e1, e2, e3, jm_w (x := 1000 * ((s[x2.toNat].1 : Nat) : Int)) (by omega) (by omega), jm_w (x := 100 * ((s[x2.toNat].2.1 : Nat) : Int)) (by omega) (by omega), jm_w (x := 1000 * ((s[x2.toNat].1 : Nat) : Int) + 100 * ((s[x2.toNat].2.1 : Nat) : Int)) (by omega) (by omega), jm_w (x := 10 * ((s[x2.toNat].2.2.1 : Nat) : Int)) (by omega) (by omega), jm_w (x := 1000 * ((s[x2.toNat].1 : Nat) : Int) + 100 * ((s[x2.toNat].2.1 : Nat) : Int) + 10 * ((s[x2.toNat].2.2.1 : Nat) : Int)) (by omega) (by omega), jm_w (by omega) (by omega)]
        refine sp _ ⟨fun u => absurd u q, fun c u _ => ?_, fun _ u => absurd ⟨by omega, by omega⟩ u⟩
        rw [hg] at u
        cases u
        unfold sn_
        omega
      · have := (List.getElem?_eq_some_iff.mp u).1
        omega
      · rw [← t3]
        exact sp _ ⟨fun _ => rfl, fun c _ u => by omega, fun u => absurd q u⟩
    · rw [SH_one c1 t2] at c2
      omega
end SH
