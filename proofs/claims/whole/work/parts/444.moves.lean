/-! SHORTEST: the class tries rows -/
def mv_T : List (Nat × Nat × Nat) := [(0, 0, 0), (0, 0, 1), (0, 0, 2), (0, 1, 1), (0, 1, 2), (0, 2, 2), (1, 0, 1), (1, 0, 2), (1, 1, 0), (1, 1, 2), (1, 2, 0), (1, 2, 1), (2, 0, 1), (2, 0, 2), (2, 1, 2), (3, 0, 1), (3, 0, 2), (3, 1, 2), (4, 0, 1), (4, 0, 2), (4, 1, 2), (6, 0, 0), (6, 1, 0), (6, 2, 0)]
def mo_ (m : Nat) : Nat := (mv_T.getD m (0, 0, 0)).1
def mx_ (m : Nat) : Nat := (mv_T.getD m (0, 0, 0)).2.1
def my_ (m : Nat) : Nat := (mv_T.getD m (0, 0, 0)).2.2
def mr_ (m : Nat) : Nat := 2 ^ mx_ m ||| (if mo_ m < 5 then 2 ^ my_ m else 0)
def ma_ (m : Nat) : Nat := if (mo_ m = 1 ∧ my_ m = 2) ∨ ((mo_ m = 2 ∨ mo_ m = 3 ∨ mo_ m = 4) ∧ ¬ (mx_ m = 0 ∧ my_ m = 1)) then 0 else 1
def bg_ (o : Nat) : Nat := [0, 6, 12, 15, 18, 21, 21, 24].getD o 24
def tm_ (p : Nat × Nat) : in_I := (mo_ p.2, p.1, mx_ p.2, my_ p.2)
def lU_ (U m : Nat) : Nat := U &&& (7 ^^^ mr_ m)
def mv_C (h : jm_H) : Prop := (∀ m, m < 24 → h 63 m = (mx_ m : Nat) ∧ h 64 m = (my_ m : Nat) ∧ h 65 m = (mr_ m : Nat) ∧ h 66 m = (ma_ m : Nat)) ∧ ∀ o, o < 8 → h 67 o = (bg_ o : Nat)
def ky_ (t m : Nat) : Nat := mo_ m * 72 + t * 24 + m
def PC_ : Bool → Nat → List (Nat × Nat) → Prop
  | _, _, [] => False
  | f, U, [p] => p.1 = 0 ∧ p.2 < 24 ∧ (f = true → ma_ p.2 ≠ 0) ∧ lU_ U p.2 = 0
  | f, U, p :: q :: l => p.1 < 3 ∧ p.2 < 24 ∧ (f = true → ma_ p.2 ≠ 0) ∧ (lU_ U p.2).testBit p.1 = false ∧ PC_ false (lU_ U p.2 ||| 2 ^ p.1) (q :: l)
theorem mf_1 : ∀ m : Fin 24, mo_ m < 7 ∧ mx_ m < 3 ∧ my_ m < 3 ∧ (5 ≤ mo_ m → my_ m = 0) ∧ bg_ (mo_ m) ≤ (m : Nat) ∧ (m : Nat) < bg_ (mo_ m + 1) := by decide +kernel
theorem mf_2 : ∀ (o : Fin 7) (m : Fin 24), bg_ o ≤ (m : Nat) → (m : Nat) < bg_ ((o : Nat) + 1) → mo_ m = (o : Nat) := by decide +kernel
theorem mf_3 : ∀ (U : Fin 8) (m : Fin 24), jv_and ((U : Nat) : Int) (jv_xor (mr_ m : Nat) (-1)) = (lU_ U m : Nat) ∧ lU_ U m < 8 := by decide +kernel
theorem mf_4 : ∀ (t t2 : Fin 3) (m m2 : Fin 24), ky_ t m < ky_ t2 m2 ↔ kc_ (tm_ ((t : Nat), (m : Nat))) < kc_ (tm_ ((t2 : Nat), (m2 : Nat))) := by decide +kernel
theorem mf_5 : ∀ o : Fin 8, bg_ o ≤ 24 := by decide +kernel
theorem mf_6 : ∀ (U : Fin 8) (t : Fin 3), (jv_and (jv_shr ((U : Nat) : Int) ((t : Nat) : Int)) 1 = 0 ↔ (U : Nat).testBit t = false) ∧ jv_or ((U : Nat) : Int) (jv_shl 1 ((t : Nat) : Int)) = (((U : Nat) ||| 2 ^ (t : Nat) : Nat) : Int) ∧ (U : Nat) ||| 2 ^ (t : Nat) < 8 := by decide +kernel
theorem mf_7 : ∀ o : Fin 7, bg_ o ≤ bg_ ((o : Nat) + 1) := by decide +kernel
theorem tm_vi {p : Nat × Nat} (h1 : p.1 < 3) (h2 : p.2 < 24) : vi_ (tm_ p) := by
  obtain ⟨a1, a2, a3, a4, -⟩ := mf_1 ⟨p.2, h2⟩
  exact ⟨a1, h1, a2, a3, a4⟩
theorem PC_h {f : Bool} {U : Nat} {t m : Nat} {l : List (Nat × Nat)} (h : PC_ f U ((t, m) :: l)) : t < 3 ∧ m < 24 ∧ (f = true → ma_ m ≠ 0) ∧ (l = [] → t = 0 ∧ lU_ U m = 0) ∧ (l ≠ [] → (lU_ U m).testBit t = false ∧ PC_ false (lU_ U m ||| 2 ^ t) l) := by
  cases l with
  | nil =>
    obtain ⟨a1, a2, a3, a4⟩ := h
    have a1' : t = 0 := a1
    exact ⟨by omega, a2, a3, fun _ => ⟨a1, a4⟩, fun z => absurd rfl z⟩
  | cons q l =>
    obtain ⟨a1, a2, a3, a4, a5⟩ := h
    exact ⟨a1, a2, a3, (fun z => by cases z), (fun _ => ⟨a4, a5⟩)⟩
theorem PC_vi : ∀ (l : List (Nat × Nat)) (f : Bool) (U : Nat), PC_ f U l → ∀ c ∈ l.map tm_, vi_ c
  | [], _, _, h => h.elim
  | (t, m) :: l, f, U, h => by
    obtain ⟨a1, a2, a3, a4, a5⟩ := PC_h h
    intro c hc
    rw [List.map_cons, List.mem_cons] at hc
    rcases hc with rfl | hc
    · exact tm_vi a1 a2
    · by_cases e : l = []
      · subst e
        simp at hc
      · exact PC_vi l _ _ (a5 e).2 c hc
/-- what the search may change at level p -/
def xf_ (p : Nat) (h h2 : jm_H) : Prop := ∀ u v, ¬ ((71 + p ≤ u ∧ u ≤ 73) ∨ ((74 ≤ u ∧ u ≤ 77) ∧ p ≤ v)) → h2 u v = h u v
theorem xf_.rf {p : Nat} {h : jm_H} : xf_ p h h := fun _ _ _ => rfl
theorem xf_.tr {p : Nat} {h h1 h2 : jm_H} (a : xf_ p h h1) (b : xf_ p h1 h2) : xf_ p h h2 := fun u v z => (b u v z).trans (a u v z)
theorem xf_.up {p : Nat} {h h2 : jm_H} (a : xf_ (p + 1) h h2) : xf_ p h h2 := fun u v z => a u v (by omega)
/-- what the search stands on, behind the rows l -/
def ss_ (h : jm_H) (du : Nat → BitVec 64) (l : List in_I) : Prop := mv_C h ∧ (∀ b, b < 16 → h 68 b = (du b).toInt) ∧ ar_ h l 0 ∧ ∀ q, q < 3 → h (70 + l.length) q = (fb_ l (b0_ wb_A (wb_ 0)) q).toInt
theorem ss_.fr {h h2 : jm_H} {du : Nat → BitVec 64} {l : List in_I} (hs : ss_ h du l) (hl : l.length ≤ 2) (e : xf_ l.length h h2) : ss_ h2 du l := by
  obtain ⟨⟨a1, a2⟩, a3, a4, a5⟩ := hs
  refine ⟨⟨fun m hm => ?_, fun o ho => ?_⟩, fun b hb => ?_, fun i c hc => ?_, fun q hq => ?_⟩
  · rw [e _ _ (by omega), e _ _ (by omega), e _ _ (by omega), e _ _ (by omega)]
    exact a1 m hm
  · rw [e _ _ (by omega)]
    exact a2 o ho
  · rw [e _ _ (by omega)]
    exact a3 b hb
  · have hi : i < l.length := (List.getElem?_eq_some_iff.mp hc).1
    rw [e _ _ (by omega), e _ _ (by omega), e _ _ (by omega), e _ _ (by omega)]
    exact a4 i c hc
  · rw [e _ _ (by omega)]
    exact a5 q hq
theorem ar_snoc {h : jm_H} {l : List in_I} {c : in_I} (ha : ar_ h l 0) (e0 : h 74 l.length = (c.1 : Nat)) (e1 : h 75 l.length = (c.2.1 : Nat)) (e2 : h 76 l.length = (c.2.2.1 : Nat)) (e3 : h 77 l.length = (c.2.2.2 : Nat)) : ar_ h (l ++ [c]) 0 := by
  intro i d hd
  rcases Nat.lt_trichotomy i l.length with w | w | w
  · rw [List.getElem?_append_left w] at hd
    exact ha i d hd
  · subst w
    simp at hd
    subst hd
    rw [Nat.zero_add]
    exact ⟨e0, e1, e2, e3⟩
  · rw [List.getElem?_eq_none (by simp; omega)] at hd
    cases hd
section EN
variable {E : jm_Env} {du : Nat → BitVec 64} {l : List in_I} {f : Bool} {U : Nat}
theorem rc_ends38 {h : jm_H} {o : Nat} {K : Int → jm_H → Prop} (hl : l.length ≤ 2) (hv : ∀ c ∈ l, vi_ c) (hf : f = true ↔ l.length = 0) (hU : U < 8) (ho : o < 7)
    (k0 : ∀ h2 : jm_H, xf_ l.length h h2 → (∀ m, bg_ o ≤ m → m < bg_ (o + 1) → PC_ f U [(0, m)] → ¬ Db_ du (l ++ [tm_ (0, m)])) → K 0 h2)
    (k1 : ∀ (h2 : jm_H) (m : Nat), xf_ l.length h h2 → bg_ o ≤ m → m < bg_ (o + 1) → PC_ f U [(0, m)] → Db_ du (l ++ [tm_ (0, m)]) → (∀ m2, bg_ o ≤ m2 → m2 < m → PC_ f U [(0, m2)] → ¬ Db_ du (l ++ [tm_ (0, m2)])) → ar_ h2 (l ++ [tm_ (0, m)]) 0 → K 1 h2) :
    ∀ (d m : Nat) (x6 : Int) (h1 : jm_H), d + m = bg_ (o + 1) → bg_ o ≤ m → x6 = m → ss_ h1 du l → h1 74 l.length = (o : Nat) → h1 75 l.length = 0 → xf_ l.length h h1 → (∀ m2, bg_ o ≤ m2 → m2 < m → PC_ f U [(0, m2)] → ¬ Db_ du (l ++ [tm_ (0, m2)])) → jm_BI E jm_SH jm_m_Search_endsWith 3 38 [some (jm_R 61), some (jm_I o), some (jm_I ((l.length + 1 : Nat) : Int)), some (jm_I U), some (jm_I l.length), some (jm_R (70 + l.length)), some (jm_I (bg_ (o + 1) : Nat)), some (jm_I x6)] [] h1 K
  | 0, m, x6, h1, hd, hm, hx, hs, e74, e75, hxf, hp => by
    subst hx
    refine jb_Search_endsWith_38 (by omega) ?_
    exact ⟨fun _ => k0 h1 hxf (fun m2 z1 z2 => hp m2 z1 (by omega)), fun z => by omega⟩
  | d + 1, m, x6, h1, hd, hm, hx, hs, e74, e75, hxf, hp => by
    subst hx
    have h24 := mf_5 ⟨o + 1, by omega⟩
    have hm24 : m < 24 := by simp only at h24; omega
    have hmo : mo_ m = o := mf_2 ⟨o, ho⟩ ⟨m, hm24⟩ hm (by simp only; omega)
    obtain ⟨g1, g2, g3, g4⟩ := hs.1.1 m hm24
    obtain ⟨f1, f2, f3, f4, -⟩ := mf_1 ⟨m, hm24⟩
    have f3' := mf_3 ⟨U, hU⟩ ⟨m, hm24⟩
    simp only at f1 f2 f3 f4 f3'
    -- m is passed over
    have pass : ∀ h2 : jm_H, xf_ l.length h1 h2 → h2 74 l.length = (o : Nat) → h2 75 l.length = 0 → ¬ (PC_ f U [(0, m)] ∧ Db_ du (l ++ [tm_ (0, m)])) → jm_BI E jm_SH jm_m_Search_endsWith 3 38 [some (jm_R 61), some (jm_I o), some (jm_I ((l.length + 1 : Nat) : Int)), some (jm_I U), some (jm_I l.length), some (jm_R (70 + l.length)), some (jm_I (bg_ (o + 1) : Nat)), some (jm_I (jm_w32 ((m : Int) + 1)))] [] h2 K := fun h2 a1 a2 a3 a4 => by
      rw [jm_w (by omega) (by omega)]
      refine rc_ends38 hl hv hf hU ho k0 k1 d (m + 1) _ h2 (by omega) (by omega) (by omega) (hs.fr hl a1) a2 a3 (hxf.tr a1) (fun m2 z1 z2 z3 z4 => ?_)
      by_cases e : m2 = m
      · subst e
        exact a4 ⟨z3, z4⟩
      · exact hp m2 z1 (by omega) z3 z4
    have h83 : PC_ f U [(0, m)] → jm_BI E jm_SH jm_m_Search_endsWith 3 83 [some (jm_R 61), some (jm_I o), some (jm_I ((l.length + 1 : Nat) : Int)), some (jm_I U), some (jm_I l.length), some (jm_R (70 + l.length)), some (jm_I (bg_ (o + 1) : Nat)), some (jm_I m)] [] h1 K := fun hpc => by
      refine jb_Search_endsWith_83 (by omega) ?_
      rw [jm_tn, g1, g2, jm_tn, jm_tn, hs.2.2.2 _ f2, hs.2.2.2 _ f3]
      refine ⟨by omega, by omega, by omega, by omega, rc_result ?_⟩
      have hblk : fb_ (l ++ [tm_ (0, m)]) (b0_ wb_A (wb_ 0)) 0 = rs_ (o : Nat) (fb_ l (b0_ wb_A (wb_ 0)) (mx_ m)) (fb_ l (b0_ wb_A (wb_ 0)) (my_ m)) := by
        rw [fb_app]
        show eb_ (tm_ (0, m)) (fb_ l (b0_ wb_A (wb_ 0))) 0 = _
        unfold eb_
        rw [if_pos (show (0 : Nat) = (tm_ (0, m)).2.1 from rfl), ← hmo]
        rfl
      rw [hs.2.1 0 (by omega), lc_0, bv_i]
      refine ⟨fun z => pass h1 xf_.rf e74 e75 (fun y => z (by rw [← hblk]; exact y.2 0 (by omega))), fun z => ⟨by omega, by omega, by omega, by omega, ?_⟩⟩
      rw [g1, g2, jm_tn]
      have x9 : xf_ l.length h1 (jm_up (jm_up h1 76 l.length (mx_ m : Nat)) 77 l.length (my_ m : Nat)) := fun u v z => by rw [up_o (by omega), up_o (by omega)]
      have a9 : ar_ (jm_up (jm_up h1 76 l.length (mx_ m : Nat)) 77 l.length (my_ m : Nat)) (l ++ [tm_ (0, m)]) 0 := by
        refine ar_snoc (hs.fr hl x9).2.2.1 ?_ ?_ ?_ ?_
        · rw [up_o (by omega), up_o (by omega), e74]
          show ((o : Nat) : Int) = (mo_ m : Nat)
          rw [hmo]
        · rw [up_o (by omega), up_o (by omega), e75]
          rfl
        · rw [up_o (by omega), up_s]
          rfl
        · rw [up_s]
          rfl
      have hlen : ((l.length + 1 : Nat) : Int) = ((l ++ [tm_ (0, m)]).length : Nat) := by simp
      rw [hlen]
      refine rc_doesAll (du := du) (by simp; omega) (fun c hc => ?_) a9 (hs.fr hl x9).2.1 (fun y h2 c1 => ⟨fun w => by omega, fun _ => ?_⟩) (fun y h2 c1 => ⟨fun _ => ?_, fun w => absurd rfl w⟩)
      · rcases List.mem_append.mp hc with hc | hc
        · exact hv c hc
        · simp at hc
          subst hc
          exact tm_vi (by simp) hm24
      · have x10 : xf_ l.length (jm_up (jm_up h1 76 l.length (mx_ m : Nat)) 77 l.length (my_ m : Nat)) h2 := fun u v z => c1 u v (by omega)
        refine k1 h2 m ((hxf.tr x9).tr x10) hm (by omega) hpc y hp (fun i c hc => ?_)
        rw [c1 _ _ (by omega), c1 _ _ (by omega), c1 _ _ (by omega), c1 _ _ (by omega)]
        exact a9 i c hc
      · have x10 : xf_ l.length (jm_up (jm_up h1 76 l.length (mx_ m : Nat)) 77 l.length (my_ m : Nat)) h2 := fun u v z => c1 u v (by omega)
        rw [← hlen]
        refine pass h2 (x9.tr x10) ?_ ?_ (fun w => y w.2)
        · rw [c1 _ _ (by omega), up_o (by omega), up_o (by omega)]
          exact e74
        · rw [c1 _ _ (by omega), up_o (by omega), up_o (by omega)]
          exact e75
    refine jb_Search_endsWith_38 (by omega) ?_
    rw [jm_tn, g3, f3'.1, g4]
    refine ⟨fun z => by omega, fun _ => ⟨by omega, fun z => pass h1 xf_.rf e74 e75 (fun y => ?_), fun z => ⟨fun y => h83 ⟨rfl, hm24, fun w => ?_, ?_⟩, fun y => ⟨by omega, fun w => h83 ⟨rfl, hm24, fun _ => ?_, ?_⟩, fun w => pass h1 xf_.rf e74 e75 (fun v => ?_)⟩⟩⟩⟩
    · have := y.1.2.2.2
      simp only at this
      omega
    · have := hf.mp w
      omega
    · show lU_ U m = 0
      omega
    · show ma_ m ≠ 0
      omega
    · show lU_ U m = 0
      omega
    · have h3 := v.1.2.2.1 (hf.mpr (by omega))
      simp only at h3
      omega
theorem rc_ends {h : jm_H} {o : Nat} {K : Int → jm_H → Prop} (hl : l.length ≤ 2) (hv : ∀ c ∈ l, vi_ c) (hf : f = true ↔ l.length = 0) (hU : U < 8) (ho : o < 7) (hs : ss_ h du l) (e74 : h 74 l.length = (o : Nat)) (e75 : h 75 l.length = 0)
    (k0 : ∀ h2 : jm_H, xf_ l.length h h2 → (∀ m, bg_ o ≤ m → m < bg_ (o + 1) → PC_ f U [(0, m)] → ¬ Db_ du (l ++ [tm_ (0, m)])) → K 0 h2)
    (k1 : ∀ (h2 : jm_H) (m : Nat), xf_ l.length h h2 → bg_ o ≤ m → m < bg_ (o + 1) → PC_ f U [(0, m)] → Db_ du (l ++ [tm_ (0, m)]) → (∀ m2, bg_ o ≤ m2 → m2 < m → PC_ f U [(0, m2)] → ¬ Db_ du (l ++ [tm_ (0, m2)])) → ar_ h2 (l ++ [tm_ (0, m)]) 0 → K 1 h2) :
    jm_CI E jm_SH jm_m_Search_endsWith 3 [jm_R 61, jm_I o, jm_I ((l.length + 1 : Nat) : Int), jm_I U] h K := by
  refine jb_Search_endsWith ?_
  rw [jm_w (x := ((l.length + 1 : Nat) : Int) - 1) (by omega) (by omega), show ((l.length + 1 : Nat) : Int) - 1 = (l.length : Nat) by omega, jm_w (x := (o : Int) + 1) (by omega) (by omega), show (o : Int) + 1 = ((o + 1 : Nat) : Int) by omega, jm_tn, jm_tn, jm_tn, hs.1.2 (o + 1) (by omega), hs.1.2 o (by omega)]
  have := mf_7 ⟨o, ho⟩
  exact ⟨by omega, by omega, by omega, rc_ends38 hl hv hf hU ho k0 k1 (bg_ (o + 1) - bg_ o) (bg_ o) _ h (by simp only at this; omega) (Nat.le_refl _) rfl hs e74 e75 xf_.rf (fun m2 z1 z2 => by omega)⟩
end EN
