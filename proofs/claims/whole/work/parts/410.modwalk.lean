/-! the reference's walk -/
def wk_t : List (Nat × Nat) → Int
  | [] => -1
  | (a, _) :: _ => a
def wk_o : Option (List (Nat × Nat)) → Int
  | none => -1
  | some s => wk_t s
/-- what is open ahead of sign j -/
def ws_ (f : Nat → Int) : Nat → Option (List (Nat × Nat))
  | 0 => some []
  | j + 1 => match ws_ f j with
    | none => none
    | some s => if 0 < pt_ (f j) then some ((j, pt_ (f j)) :: s) else wk_cl s
/-- the node whose part j is -/
def wk_p (f : Nat → Int) (j : Nat) : Int := wk_o (ws_ f j)
def mo_T (h : jm_H) : List (Nat × Nat) → Prop
  | [] => True
  | (a, L) :: s => h 84 a = (L : Int) ∧ (1 ≤ L ∧ L ≤ 2) ∧ h 83 a = wk_t s ∧ (∀ q ∈ s, q.1 < a) ∧ mo_T h s
theorem mo_T.off {h h2 : jm_H} {i : Nat} : ∀ {s : List (Nat × Nat)}, mo_T h s → (∀ q ∈ s, q.1 < i) → (∀ b, b < i → h2 84 b = h 84 b ∧ h2 83 b = h 83 b) → mo_T h2 s
  | [], _, _, _ => trivial
  | (a, L) :: s, hm, hb, e => by
    have ha : a < i := hb (a, L) List.mem_cons_self
    obtain ⟨m1, m2, m3, m4, m5⟩ := hm
    exact ⟨(e a ha).1.trans m1, m2, (e a ha).2.trans m3, m4, m5.off (fun q hq => hb q (List.mem_cons_of_mem _ hq)) e⟩
def pd_M (h : jm_H) (n : Nat) (f : Nat → Int) : Prop := h 78 1 = n ∧ n ≤ 60 ∧ ∀ i, i < n → h 79 i = f i
/-- the walk's own places -/
def wq_ (a b : Nat) : Prop := (82 ≤ a ∧ a ≤ 84) ∨ (a = 78 ∧ b = 8)
theorem pd_M.off {h h2 : jm_H} {n : Nat} {f : Nat → Int} (hp : pd_M h n f) (e : ∀ a b, ¬ wq_ a b → h2 a b = h a b) : pd_M h2 n f :=
  ⟨by rw [e 78 1 (by unfold wq_; omega)]; exact hp.1, hp.2.1, fun i hi => by rw [e 79 i (by unfold wq_; omega)]; exact hp.2.2 i hi⟩
section MW
variable {E : jm_Env} {h : jm_H} {n : Nat} {f : Nat → Int} {p : Int}
theorem rm_partsOf {c : Int} {K : Int → jm_H → Prop} (hk : K (pt_ c) h) : jm_CI E jm_SH jm_m_Mod_partsOf 0 [jm_I c] h K := by
  have h2 : (c = 43 ∨ c = 45 ∨ c = 42 ∨ c = 38) → K 2 h := fun q => by
    unfold pt_ at hk
    rw [if_pos q] at hk
    exact hk
  have h1 : ¬ (c = 43 ∨ c = 45 ∨ c = 42 ∨ c = 38) → c = 126 ∨ c = 64 → K 1 h := fun q q2 => by
    unfold pt_ at hk
    rw [if_neg q, if_pos q2] at hk
    exact hk
  refine jb_Mod_partsOf ⟨fun q => h2 (by omega), fun q1 => ⟨fun q => h2 (by omega), fun q2 => ⟨fun q => h2 (by omega), fun q3 => ⟨fun q4 => ⟨fun q => h1 (by omega) (by omega), fun q5 => ⟨fun q6 => ?_, fun q => h1 (by omega) (by omega)⟩⟩, fun q => h2 (by omega)⟩⟩⟩⟩
  unfold pt_ at hk
  rw [if_neg (by omega), if_neg (by omega)] at hk
  exact hk
theorem rm_isNumber {c : Int} {K : Int → jm_H → Prop} (k1 : 48 ≤ c ∧ c ≤ 57 → K 1 h) (k0 : ¬ (48 ≤ c ∧ c ≤ 57) → K 0 h) : jm_CI E jm_SH jm_m_Mod_isNumber 1 [jm_I c] h K :=
  jb_Mod_isNumber (rm_in (fun q => ⟨Or.inr rfl, k1 q⟩) (fun q => ⟨Or.inl rfl, k0 q⟩))
theorem rm_isVariable {c : Int} {K : Int → jm_H → Prop} (k1 : 97 ≤ c ∧ c ≤ 104 → K 1 h) (k0 : ¬ (97 ≤ c ∧ c ≤ 104) → K 0 h) : jm_CI E jm_SH jm_m_Mod_isVariable 1 [jm_I c] h K :=
  jb_Mod_isVariable (rm_in (fun q => ⟨Or.inr rfl, k1 q⟩) (fun q => ⟨Or.inl rfl, k0 q⟩))
theorem rm_isLeaf {c : Int} {K : Int → jm_H → Prop} (k1 : lf_l p c → K 1 h) (k0 : ¬ lf_l p c → K 0 h) : jm_CI E jm_SH jm_m_Mod_isLeaf 2 [jm_I c, jm_I p] h K := by
  refine jb_Mod_isLeaf (rm_isNumber (fun q => ⟨fun _ => k1 (Or.inl q), fun z => by omega⟩) (fun q => ⟨fun z => absurd rfl z, fun _ => ⟨fun hp => ?_, fun hp => ?_⟩⟩))
  · refine rm_isVariable (fun q2 => ⟨fun z => by omega, fun _ => k1 (Or.inr (Or.inl ⟨hp, q2.1, q2.2⟩))⟩) (fun q2 => ⟨fun _ => k0 ?_, fun z => absurd rfl z⟩)
    rintro (z | z | z)
    · exact q z
    · exact q2 ⟨z.2.1, z.2.2⟩
    · exact z.1 hp
  · have hy : c = 82 ∨ c = 65 ∨ c = 75 ∨ c = 86 → K 1 h := fun z => k1 (Or.inr (Or.inr ⟨hp, z⟩))
    refine ⟨fun z => hy (by omega), fun z1 => ⟨fun z => hy (by omega), fun z2 => ⟨fun z => hy (by omega), fun z3 => ⟨fun z4 => k0 ?_, fun z => hy (by omega)⟩⟩⟩⟩
    rintro (z | z | z)
    · exact q z
    · exact hp z.1
    · omega
theorem rm_depth9 {K : Int → jm_H → Prop} : ∀ (s : List (Nat × Nat)) (x2 : Int), s.length + x2 ≤ 100 → 0 ≤ x2 → mo_T h s → (∀ q ∈ s, q.1 < 60) → K (x2 + s.length) h → jm_BI E jm_SH jm_m_Mod_depthOf 0 9 [some (jm_R 78), none, some (jm_I x2), some (jm_I (wk_t s))] [] h K
  | [], x2, hl, h0, hm, hb, hk => by
    refine jb_Mod_depthOf_9 ⟨fun q => ?_, fun q => absurd (by decide) q⟩
    simpa using hk
  | (a, L) :: s, x2, hl, h0, hm, hb, hk => by
    have ha : a < 60 := hb (a, L) List.mem_cons_self
    obtain ⟨m1, m2, m3, m4, m5⟩ := hm
    have e : wk_t ((a, L) :: s) = (a : Int) := rfl
    have hl2 : ((s.length + 1 : Nat) : Int) + x2 ≤ 100 := by simpa using hl
    rw [e]
    refine jb_Mod_depthOf_9 ⟨fun q => by omega, fun q => ⟨by omega, ?_⟩⟩
    rw [jm_tn, m3, jm_w (by omega) (by omega)]
    refine rm_depth9 s _ (by omega) (by omega) m5 (fun q hq => hb q (List.mem_cons_of_mem _ hq)) ?_
    have e2 : x2 + 1 + (s.length : Int) = x2 + (((a, L) :: s).length : Nat) := by simp; omega
    rw [e2]
    exact hk
theorem rm_closed2 {K : Int → jm_H → Prop} {i : Nat} : ∀ (s : List (Nat × Nat)) (h1 : jm_H), mo_T h1 s → i ≤ 60 → (∀ q ∈ s, q.1 < i) → (∀ h2 : jm_H, (∀ a b, ¬ (a = 84 ∧ b < i) → h2 a b = h1 a b) → (∀ s2, wk_cl s = some s2 → mo_T h2 s2 ∧ s2.length ≤ s.length ∧ ∀ q ∈ s2, q.1 < i) → K (wk_o (wk_cl s)) h2) → jm_BI E jm_SH jm_m_Mod_closed 0 2 [some (jm_R 78), none, some (jm_I (wk_t s))] [] h1 K
  | [], h1, hm, hi, hb, hk => by
    refine jb_Mod_closed_2 ⟨fun q => ?_, fun q => absurd (by decide) q⟩
    exact hk h1 (fun _ _ _ => rfl) (fun s2 e => by cases e)
  | (a, L) :: s, h1, hm, hi, hb, hk => by
    have ha : a < i := hb (a, L) List.mem_cons_self
    have hb2 : ∀ q ∈ s, q.1 < i := fun q hq => hb q (List.mem_cons_of_mem _ hq)
    obtain ⟨m1, m2, m3, m4, m5⟩ := hm
    have e : wk_t ((a, L) :: s) = (a : Int) := rfl
    rw [e]
    refine jb_Mod_closed_2 ⟨fun q => by omega, fun q => ⟨by omega, by omega, by omega, ?_⟩⟩
    rw [jm_tn, m1, m3, jm_w (by omega) (by omega)]
    have er : jm_up h1 84 a ((L : Int) - 1) 84 a = (L : Int) - 1 := by simp [jm_up]
    have hms : mo_T (jm_up h1 84 a ((L : Int) - 1)) s := m5.off m4 fun b hb => by
      constructor
      · simp [jm_up, Nat.ne_of_lt hb]
      · simp [jm_up]
    rw [er]
    unfold wk_cl at hk
    refine ⟨fun z => ⟨by omega, ?_⟩, fun z => ?_⟩
    · rw [if_neg (by omega)] at hk
      refine rm_closed2 s _ hms hi hb2 fun h2 c1 c2 => hk h2 (fun x y hxy => ?_) (fun s2 e2 => ?_)
      · rw [c1 x y hxy]
        unfold jm_up
        by_cases ex : x = 84
        · rw [if_pos ex, if_neg (fun w => hxy ⟨ex, by omega⟩)]
        · rw [if_neg ex]
      · obtain ⟨d1, d2, d3⟩ := c2 s2 e2
        exact ⟨d1, by simp; omega, d3⟩
    · rw [if_pos (by omega)] at hk
      refine hk _ (fun x y hxy => ?_) (fun s2 e2 => ?_)
      · unfold jm_up
        by_cases ex : x = 84
        · rw [if_pos ex, if_neg (fun w => hxy ⟨ex, by omega⟩)]
        · rw [if_neg ex]
      · cases e2
        refine ⟨⟨by rw [er]; omega, by omega, ?_, m4, hms⟩, by simp, fun q hq => ?_⟩
        · rw [← m3]
          simp [jm_up]
        · rcases List.mem_cons.mp hq with rfl | hq
          · exact ha
          · exact hb2 q hq
/-- what the walk holds ahead of sign i -/
def mw_ (h h1 : jm_H) (f : Nat → Int) (i : Nat) (s : Option (List (Nat × Nat))) : Prop := h1 78 8 = (i : Int) ∧ (∀ a b, ¬ wq_ a b → h1 a b = h a b) ∧ (∀ j, j < i → h1 82 j = f j ∧ h1 83 j = wk_p f j) ∧ s = ws_ f i ∧ ∀ s2, s = some s2 → mo_T h1 s2 ∧ s2.length ≤ 12 ∧ ∀ q ∈ s2, q.1 < i
theorem rm_walk12 {K : Int → jm_H → Prop} : ∀ (m i : Nat) (x2 x3 x4 : Int) (h1 : jm_H) (s : Option (List (Nat × Nat))), m + i = n → x4 = i → x2 = wk_o s → (x3 = 0 ↔ ¬ s = none) → pd_M h1 n f → mw_ h h1 f i s →
    (∀ h2 : jm_H, (∀ a b, ¬ wq_ a b → h2 a b = h a b) → (wk_ p f m i s = -6 → h2 78 8 = n ∧ ∀ j, j < n → h2 82 j = f j ∧ h2 83 j = wk_p f j) → K (wk_ p f m i s) h2) → jm_BI E jm_SH jm_m_Mod_walk 3 12 [some (jm_R 78), some (jm_I p), some (jm_I x2), some (jm_I x3), some (jm_I x4), none, none] [] h1 K
  | 0, i, x2, x3, x4, h1, s, hm, e4, e2, e3, hp, hw, hk => by
    subst e4
    have hin : i = n := by omega
    obtain ⟨w1, w2, w3, w4, w5⟩ := hw
    refine jb_Mod_walk_12 ⟨fun q => ⟨fun z => ?_, fun z => ?_⟩, fun q => by rw [hp.1] at q; omega⟩
    · match s, hk, e3 with
      | none, hk, e3 => exact absurd rfl (e3.mp z)
      | some s, hk, e3 =>
        rw [hp.1, ← hin]
        exact hk h1 w2 (fun y => by
          have y2 : (i : Int) = -6 := y
          omega)
    · match s, hk, e3 with
      | none, hk, e3 => exact hk h1 w2 (fun _ => by rw [← hin]; exact ⟨w1, w3⟩)
      | some s, hk, e3 => exact absurd (e3.mpr (fun y => by cases y)) z
  | m + 1, i, x2, x3, x4, h1, s, hm, e4, e2, e3, hp, hw, hk => by
    subst e4
    subst e2
    have hn := hp.2.1
    have ef := hp.2.2 i (by omega)
    have hpt := pt_b (f i)
    obtain ⟨w1, w2, w3, w4, w5⟩ := hw
    refine jb_Mod_walk_12 ⟨fun q => by rw [hp.1] at q; omega, fun q => ⟨by omega, fun z => ?_, fun z => ?_⟩⟩
    · match s, hk, e3, w4, w5 with
      | none, hk, e3, w4, w5 => exact absurd rfl (e3.mp z)
      | some s, hk, e3, w4, w5 =>
        obtain ⟨hT, hl, hb⟩ := w5 s rfl
        have ewo : wk_o (some s) = wk_t s := rfl
        rw [w1, jm_tn, ef, ewo]
        refine ⟨by omega, ?_⟩
        have ek : wk_ p f (m + 1) i (some s) = if 0 < pt_ (f i) then (if s.length < 12 then wk_ p f m (i + 1) (some ((i, pt_ (f i)) :: s)) else i) else if lf_l p (f i) then wk_ p f m (i + 1) (wk_cl s) else i := rfl
        have ewi : ws_ f (i + 1) = if 0 < pt_ (f i) then some ((i, pt_ (f i)) :: s) else wk_cl s := by
          show (match ws_ f i with | none => none | some s => _) = _
          rw [← w4]
        have epi : wk_p f i = wk_t s := by
          unfold wk_p
          rw [← w4]
          rfl
        -- the heap once the part's owner is written
        have hA : ∀ a b, ¬ wq_ a b → jm_up h1 83 i (wk_t s) a b = h1 a b := fun a b hq => by
          unfold jm_up
          rw [if_neg (fun w => hq (by unfold wq_; omega))]
        have hbad : ∀ h2 : jm_H, (∀ a b, ¬ wq_ a b → h2 a b = h1 a b) → wk_ p f (m + 1) i (some s) = i → K i h2 := fun h2 e y => by
          have := hk h2 (fun a b hq => (e a b hq).trans (w2 a b hq)) (fun y2 => by rw [y] at y2; omega)
          rw [y] at this
          exact this
        have go : ∀ (s0 : Int), (0 < pt_ (f i) → (s0 = 0 ↔ ¬ s.length < 12)) → (pt_ (f i) = 0 → (s0 = 0 ↔ ¬ lf_l p (f i))) → jm_BI E jm_SH jm_m_Mod_walk 3 82 [some (jm_R 78), some (jm_I p), some (jm_I (wk_t s)), none, some (jm_I i), some (jm_I (f i)), none] [jm_I s0] (jm_up h1 83 i (wk_t s)) K := by
          intro s0 g1 g2
          have hw8 : jm_up h1 83 i (wk_t s) 78 8 = (i : Int) := by
            unfold jm_up
            rw [if_neg (by omega)]
            exact w1
          refine jb_Mod_walk_82 ⟨fun y => ?_, fun y => hbad _ hA ?_⟩
          · rw [hw8, jm_tn]
            refine ⟨by omega, rm_partsOf ⟨by omega, rm_partsOf ?_⟩⟩
            -- the heap with sign and parts
            have hB : ∀ a b, ¬ wq_ a b → jm_up (jm_up (jm_up h1 83 i (wk_t s)) 82 i (f i)) 84 i (pt_ (f i) : Int) a b = h1 a b := fun a b hq => by
              have n1 : ¬ a = 84 := fun w => hq (by unfold wq_; omega)
              have n2 : ¬ a = 82 := fun w => hq (by unfold wq_; omega)
              have n3 : ¬ a = 83 := fun w => hq (by unfold wq_; omega)
              simp [jm_up, n1, n2, n3]
            have hB8 : jm_up (jm_up (jm_up h1 83 i (wk_t s)) 82 i (f i)) 84 i (pt_ (f i) : Int) 78 8 = (i : Int) := by
              simp [jm_up, w1]
            have hBj : ∀ j, j < i + 1 → jm_up (jm_up (jm_up h1 83 i (wk_t s)) 82 i (f i)) 84 i (pt_ (f i) : Int) 82 j = f j ∧ jm_up (jm_up (jm_up h1 83 i (wk_t s)) 82 i (f i)) 84 i (pt_ (f i) : Int) 83 j = wk_p f j := fun j hj => by
              by_cases e : j = i
              · subst e
                simp [jm_up, epi]
              · obtain ⟨a1, a2⟩ := w3 j (by omega)
                simp [jm_up, e, a1, a2]
            have hB84 : jm_up (jm_up (jm_up h1 83 i (wk_t s)) 82 i (f i)) 84 i (pt_ (f i) : Int) 84 i = (pt_ (f i) : Int) := by simp [jm_up]
            have hB83 : jm_up (jm_up (jm_up h1 83 i (wk_t s)) 82 i (f i)) 84 i (pt_ (f i) : Int) 83 i = wk_t s := by simp [jm_up]
            have hBT : mo_T (jm_up (jm_up (jm_up h1 83 i (wk_t s)) 82 i (f i)) 84 i (pt_ (f i) : Int)) s := hT.off hb fun b hb => by
              simp [jm_up, Nat.ne_of_lt hb]
            generalize jm_up (jm_up (jm_up h1 83 i (wk_t s)) 82 i (f i)) 84 i (pt_ (f i) : Int) = hZ at hB hB8 hBj hB84 hB83 hBT ⊢
            have next : ∀ (h2 : jm_H) (s2 : Option (List (Nat × Nat))) (x3 : Int), (∀ a b, ¬ (a = 84 ∧ b < i) → h2 a b = hZ a b) → s2 = ws_ f (i + 1) → (x3 = 0 ↔ ¬ s2 = none) → (∀ s3, s2 = some s3 → mo_T h2 s3 ∧ s3.length ≤ 12 ∧ ∀ q ∈ s3, q.1 < i + 1) → wk_ p f (m + 1) i (some s) = wk_ p f m (i + 1) s2 → jm_BI E jm_SH jm_m_Mod_walk 3 12 [some (jm_R 78), some (jm_I p), some (jm_I (wk_o s2)), some (jm_I x3), some (jm_I (jm_w32 ((i : Int) + 1))), none, none] [] (jm_up h2 78 8 (jm_w32 (h2 78 8 + 1))) K := by
              intro h2 s2 x3 c1 c2 c3 c4 c5
              rw [c5] at hk
              rw [c1 78 8 (by omega), hB8, jm_w (by omega) (by omega)]
              have hup : ∀ a b, ¬ wq_ a b → jm_up h2 78 8 ((i : Int) + 1) a b = h1 a b := fun a b hq => by
                have n1 : ¬ (a = 78 ∧ b = 8) := fun w => hq (by unfold wq_; omega)
                have n2 : ¬ (a = 84 ∧ b < i) := fun w => hq (by unfold wq_; omega)
                unfold jm_up
                by_cases ea : a = 78
                · rw [if_pos ea, if_neg (fun w => n1 ⟨ea, w⟩), c1 a b n2]
                  exact hB a b hq
                · rw [if_neg ea, c1 a b n2]
                  exact hB a b hq
              refine rm_walk12 m (i + 1) _ _ _ _ s2 (by omega) (by omega) rfl c3 (hp.off hup) ⟨by simp [jm_up], fun a b hq => (hup a b hq).trans (w2 a b hq), fun j hj => ?_, c2, fun s3 e => ?_⟩ hk
              · obtain ⟨a1, a2⟩ := hBj j hj
                unfold jm_up
                rw [if_neg (by omega), if_neg (by omega), c1 82 j (by omega), c1 83 j (by omega)]
                exact ⟨a1, a2⟩
              · obtain ⟨d1, d2, d3⟩ := c4 s3 e
                refine ⟨d1.off d3 fun b hb => ?_, d2, d3⟩
                unfold jm_up
                rw [if_neg (by omega), if_neg (by omega)]
                exact ⟨rfl, rfl⟩
            refine ⟨fun u => ?_, fun u => ?_⟩
            · have q0 : ¬ 0 < pt_ (f i) := by omega
              have q1 : lf_l p (f i) := Classical.byContradiction fun w => y ((g2 (by omega)).mpr w)
              rw [if_neg q0] at ewi
              refine jb_Mod_closed (rm_closed2 (i := i) s hZ hBT (by omega) hb fun h2 c1 c2 => ?_)
              have c4 : ∀ s3, wk_cl s = some s3 → mo_T h2 s3 ∧ s3.length ≤ 12 ∧ ∀ q ∈ s3, q.1 < i + 1 := fun s3 e => by
                obtain ⟨d1, d2, d3⟩ := c2 s3 e
                exact ⟨d1, by omega, fun q hq => by have := d3 q hq; omega⟩
              have c5 : wk_ p f (m + 1) i (some s) = wk_ p f m (i + 1) (wk_cl s) := by rw [ek, if_neg q0, if_pos q1]
              have hcl : (0 ≤ wk_o (wk_cl s) ↔ ¬ wk_cl s = none) := by
                cases hcs : wk_cl s with
                | none => exact ⟨fun w => absurd w (by decide), fun w => absurd rfl w⟩
                | some s3 =>
                  refine ⟨fun _ w => (by cases w), fun _ => ?_⟩
                  have : ∀ (s s3 : List (Nat × Nat)), wk_cl s = some s3 → 0 ≤ wk_t s3 := by
                    intro s
                    induction s with
                    | nil => intro s3 e; cases e
                    | cons x s ih =>
                      intro s3 e
                      obtain ⟨a, L⟩ := x
                      unfold wk_cl at e
                      by_cases q : 2 ≤ L
                      · rw [if_pos q] at e
                        cases e
                        show (0 : Int) ≤ (a : Int)
                        omega
                      · rw [if_neg q] at e
                        exact ih s3 e
                  exact this s s3 hcs
              refine ⟨fun v => next h2 (wk_cl s) 0 c1 ewi.symm ⟨fun _ => hcl.mp v, fun _ => rfl⟩ c4 c5, fun v => next h2 (wk_cl s) 1 c1 ewi.symm ⟨fun w => by omega, fun w => absurd (hcl.mpr w) v⟩ c4 c5⟩
            · have q0 : 0 < pt_ (f i) := by omega
              have q1 : s.length < 12 := Classical.byContradiction fun w => y ((g1 q0).mpr w)
              rw [if_pos q0] at ewi
              have c5 : wk_ p f (m + 1) i (some s) = wk_ p f m (i + 1) (some ((i, pt_ (f i)) :: s)) := by rw [ek, if_pos q0, if_pos q1]
              have nx := next hZ (some ((i, pt_ (f i)) :: s)) 0 (fun _ _ _ => rfl) ewi.symm ⟨fun _ w => (by cases w), fun _ => rfl⟩ (fun s3 e => by
                cases e
                refine ⟨⟨hB84, by omega, hB83, hb, hBT⟩, by simp; omega, fun q hq => ?_⟩
                rcases List.mem_cons.mp hq with rfl | hq
                · show i < i + 1; omega
                · have := hb q hq; omega) c5
              have eo : wk_o (some ((i, pt_ (f i)) :: s)) = (i : Int) := rfl
              rw [eo] at nx
              rw [hB8] at nx ⊢
              exact ⟨fun _ => nx, fun w => by omega⟩
          · rw [ek]
            by_cases q0 : 0 < pt_ (f i)
            · have := (g1 q0).mp y
              rw [if_pos q0, if_neg this]
            · have := (g2 (by omega)).mp y
              rw [if_neg q0, if_neg this]
        refine rm_partsOf ⟨fun u => ?_, fun u => ?_⟩
        · exact rm_isLeaf (fun y => go 1 (fun w => by omega) (fun _ => ⟨fun v => by omega, fun v => absurd y v⟩)) (fun y => go 0 (fun w => by omega) (fun _ => ⟨fun _ => y, fun _ => rfl⟩))
        · have hw8 : jm_up h1 83 i (wk_t s) 78 8 = (i : Int) := by
            unfold jm_up
            rw [if_neg (by omega)]
            exact w1
          rw [hw8]
          refine jb_Mod_depthOf ⟨by omega, ?_⟩
          have e83 : jm_up h1 83 i (wk_t s) 83 (Int.toNat (i : Int)) = wk_t s := by simp [jm_up]
          rw [e83]
          refine rm_depth9 s 0 (by omega) (by omega) (hT.off hb fun b hb => by simp [jm_up, Nat.ne_of_lt hb]) (fun q hq => by have := hb q hq; omega) ?_
          refine ⟨fun y => go 0 (fun _ => ⟨fun _ => by omega, fun _ => rfl⟩) (fun w => by omega), fun y => go 1 (fun _ => ⟨fun v => by omega, fun v => absurd (by omega) v⟩) (fun w => by omega)⟩
    · match s, hk, e3 with
      | none, hk, e3 => exact hk h1 w2 (fun y => by
          have y2 : (i : Int) = -6 := y
          omega)
      | some s, hk, e3 => exact absurd (e3.mpr (fun y => by cases y)) z
theorem rm_walk {K : Int → jm_H → Prop} (hp : pd_M h n f) (hk : ∀ h2 : jm_H, (∀ a b, ¬ wq_ a b → h2 a b = h a b) → (wk_ p f n 0 (some []) = -6 → h2 78 8 = n ∧ ∀ j, j < n → h2 82 j = f j ∧ h2 83 j = wk_p f j) → K (wk_ p f n 0 (some [])) h2) : jm_CI E jm_SH jm_m_Mod_walk 3 [jm_R 78, jm_I p] h K := by
  have e : ∀ a b, ¬ wq_ a b → jm_up h 78 8 0 a b = h a b := fun a b hq => by
    unfold jm_up
    by_cases ea : a = 78
    · rw [if_pos ea, if_neg (fun w => hq (by unfold wq_; omega))]
    · rw [if_neg ea]
  refine jb_Mod_walk (rm_walk12 n 0 _ _ _ _ (some []) rfl rfl rfl ⟨fun _ w => (by cases w), fun _ => rfl⟩ (hp.off e) ⟨by simp [jm_up], e, fun j hj => by omega, rfl, fun s2 e2 => ?_⟩ hk)
  cases e2
  exact ⟨trivial, by simp, fun q hq => by cases hq⟩
end MW
