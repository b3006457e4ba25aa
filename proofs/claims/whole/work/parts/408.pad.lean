/-! THE FAULT: one walk, both sides; the class's part -/
def pt_ (c : Int) : Nat := if c = 43 ∨ c = 45 ∨ c = 42 ∨ c = 38 then 2 else if c = 126 ∨ c = 64 then 1 else 0
def lf_n (c : Int) : Prop := 48 ≤ c ∧ c ≤ 57
def lf_v (c : Int) : Prop := 97 ≤ c ∧ c ≤ 104
/-- a leaf of a tree (p = 0), of a pattern -/
abbrev lf_l (p c : Int) : Prop := (48 ≤ c ∧ c ≤ 57) ∨ (p = 0 ∧ 97 ≤ c ∧ c ≤ 104) ∨ (¬ p = 0 ∧ (c = 82 ∨ c = 65 ∨ c = 75 ∨ c = 86))
/-- a tree is closed: what is open behind it; none: all is -/
def wk_cl : List (Nat × Nat) → Option (List (Nat × Nat))
  | [] => none
  | (a, L) :: s => if 2 ≤ L then some ((a, L - 1) :: s) else wk_cl s
/-- the fault of f's first i + m signs, of which i are walked; s: the nodes that are open (with how many parts they lack), the innermost first; none: all is closed -/
def wk_ (p : Int) (f : Nat → Int) : Nat → Nat → Option (List (Nat × Nat)) → Int
  | 0, _, none => -6
  | 0, i, some _ => i
  | _ + 1, i, none => i
  | m + 1, i, some s => if 0 < pt_ (f i) then (if s.length < 12 then wk_ p f m (i + 1) (some ((i, pt_ (f i)) :: s)) else i) else if (48 ≤ f i ∧ f i ≤ 57) ∨ (p = 0 ∧ 97 ≤ f i ∧ f i ≤ 104) ∨ (¬ p = 0 ∧ (f i = 82 ∨ f i = 65 ∨ f i = 75 ∨ f i = 86)) then wk_ p f m (i + 1) (wk_cl s) else i
theorem pt_b (c : Int) : pt_ c ≤ 2 := by
  unfold pt_
  split
  · omega
  · split <;> omega
/-- the class's rows of what is open: behind a part that has begun; at the innermost -/
def cl_I (h : jm_H) : List (Nat × Nat) → Prop
  | [] => h 3 0 = 0
  | (_, L) :: s => h 3 (s.length + 1) = (L : Int) - 1 ∧ (1 ≤ L ∧ L ≤ 3) ∧ cl_I h s
def cl_T (h : jm_H) : List (Nat × Nat) → Prop
  | [] => h 3 0 = 1
  | (_, L) :: s => h 3 (s.length + 1) = (L : Int) ∧ (1 ≤ L ∧ L ≤ 3) ∧ cl_I h s
theorem cl_I.off {h h2 : jm_H} : ∀ {s : List (Nat × Nat)}, cl_I h s → (∀ b, b ≤ s.length → h2 3 b = h 3 b) → cl_I h2 s
  | [], hc, e => (e 0 (by simp)).trans hc
  | (_, L) :: s, hc, e => ⟨(e _ (by simp)).trans hc.1, hc.2.1, hc.2.2.off fun b hb => e b (by simp; omega)⟩
def wk_d : Option (List (Nat × Nat)) → Int
  | none => -1
  | some s => s.length
section PD
variable {E : jm_Env} {h : jm_H} {n : Nat} {f : Nat → Int}
theorem rc_partsOf {c : Int} {K : Int → jm_H → Prop} (hk : K (pt_ c) h) : jm_CI E jm_SH jm_m_Pad_partsOf 0 [jm_I c] h K := by
  have h2 : (c = 43 ∨ c = 45 ∨ c = 42 ∨ c = 38) → K 2 h := fun q => by
    unfold pt_ at hk
    rw [if_pos q] at hk
    exact hk
  have h1 : ¬ (c = 43 ∨ c = 45 ∨ c = 42 ∨ c = 38) → c = 126 ∨ c = 64 → K 1 h := fun q q2 => by
    unfold pt_ at hk
    rw [if_neg q, if_pos q2] at hk
    exact hk
  refine jb_Pad_partsOf ⟨fun q => h2 (by omega), fun q => h2 (by omega), fun q => h2 (by omega), fun q => h2 (by omega), fun q => h1 (by omega) (by omega), fun q => h1 (by omega) (by omega), fun q => ?_⟩
  unfold pt_ at hk
  rw [if_neg (by omega), if_neg (by omega)] at hk
  exact hk
theorem rc_isNumber {c : Int} {K : Int → jm_H → Prop} (k1 : 48 ≤ c ∧ c ≤ 57 → K 1 h) (k0 : ¬ (48 ≤ c ∧ c ≤ 57) → K 0 h) : jm_CI E jm_SH jm_m_Pad_isNumber 0 [jm_I c] h K :=
  jb_Pad_isNumber ⟨fun q => k0 (by omega), fun q => ⟨fun z => k0 (by omega), fun z => k1 (by omega)⟩⟩
theorem rc_isVariable {c : Int} {K : Int → jm_H → Prop} (k1 : 97 ≤ c ∧ c ≤ 104 → K 1 h) (k0 : ¬ (97 ≤ c ∧ c ≤ 104) → K 0 h) : jm_CI E jm_SH jm_m_Pad_isVariable 0 [jm_I c] h K :=
  jb_Pad_isVariable ⟨fun q => k0 (by omega), fun q => ⟨fun z => k0 (by omega), fun z => k1 (by omega)⟩⟩
theorem rc_treeLeaf {c : Int} {K : Int → jm_H → Prop} (k1 : lf_l 0 c → K 1 h) (k0 : ¬ lf_l 0 c → K 0 h) : jm_CI E jm_SH jm_m_Pad_isTreeLeaf 1 [jm_I c] h K := by
  refine jb_Pad_isTreeLeaf (rc_isNumber (fun q => ⟨fun _ => k1 (Or.inl q), fun z => by omega⟩) (fun q => ⟨fun z => absurd rfl z, fun _ => ?_⟩))
  refine rc_isVariable (fun q2 => ⟨fun z => by omega, fun _ => k1 (Or.inr (Or.inl ⟨rfl, q2.1, q2.2⟩))⟩) (fun q2 => ⟨fun _ => k0 ?_, fun z => absurd rfl z⟩)
  rintro (z | z | z)
  · exact q z
  · exact q2 ⟨z.2.1, z.2.2⟩
  · exact z.1 rfl
theorem rc_headOf {c : Int} {K : Int → jm_H → Prop} (k0 : c = 82 → K 0 h) (k1 : c = 65 → K 1 h) (k2 : ¬ c = 82 → ¬ c = 65 → K (-1) h) : jm_CI E jm_SH jm_m_Patterns_headOf 0 [jm_I c] h K := by
  refine jb_Patterns_headOf ?_
  first | exact ⟨fun q => ⟨fun z => k2 q z, fun z => k1 z⟩, fun q => k0 q⟩ | exact ⟨fun q => k0 q, fun q => ⟨fun z => k1 z, fun z => k2 q z⟩⟩ | exact ⟨fun q => ⟨fun z => k1 z, fun z => k2 q z⟩, fun q => k0 q⟩ | exact ⟨fun q => k0 q, fun q => ⟨fun z => k2 q z, fun z => k1 z⟩⟩
theorem rc_patLeaf {c p : Int} {K : Int → jm_H → Prop} (hp : ¬ p = 0) (k1 : lf_l p c → K 1 h) (k0 : ¬ lf_l p c → K 0 h) : jm_CI E jm_SH jm_m_Pad_isPatternLeaf 1 [jm_I c] h K := by
  refine jb_Pad_isPatternLeaf (rc_isNumber (fun q => ⟨fun _ => k1 (Or.inl q), fun z => by omega⟩) (fun q => ⟨fun z => absurd rfl z, fun _ => ?_⟩))
  refine ⟨fun q2 => k1 (Or.inr (Or.inr ⟨hp, by omega⟩)), fun q2 => ⟨fun q3 => k1 (Or.inr (Or.inr ⟨hp, by omega⟩)), fun q3 => ?_⟩⟩
  refine rc_headOf (fun z => ⟨fun w => by omega, fun _ => k1 (Or.inr (Or.inr ⟨hp, by omega⟩))⟩) (fun z => ⟨fun w => by omega, fun _ => k1 (Or.inr (Or.inr ⟨hp, by omega⟩))⟩) (fun z1 z2 => ⟨fun _ => k0 ?_, fun w => absurd (by decide) w⟩)
  rintro (z | z | z)
  · exact q z
  · exact hp z.1
  · omega
theorem rc_dOpen2 {K : Int → jm_H → Prop} : ∀ (s : List (Nat × Nat)) (x : Int), s.length ≤ 12 → x = s.length → cl_I h s → (K (wk_d (wk_cl s)) h) → jm_BI E jm_SH jm_m_Pad_deepestOpen 0 2 [some (jm_R 1), none, some (jm_I x)] [] h K
  | [], x, hl, hx, hc, hk => by
    subst hx
    refine jb_Pad_deepestOpen_2 ⟨fun q => absurd q (by decide), fun q => ⟨by decide, ?_⟩⟩
    have hc0 : h 3 0 = 0 := hc
    refine ⟨fun z => ?_, fun z => ?_⟩
    · exact jb_Pad_deepestOpen_2 ⟨fun w => hk, fun w => absurd (by decide) w⟩
    · have z2 : ¬ h 3 0 ≤ 0 := z
      omega
  | (a, L) :: s, x, hl, hx, hc, hk => by
    subst hx
    have hl2 : s.length + 1 ≤ 12 := by simpa using hl
    have hx2 : (((a, L) :: s).length : Int) = ((s.length + 1 : Nat) : Int) := by simp
    rw [hx2]
    refine jb_Pad_deepestOpen_2 ⟨fun q => by omega, fun q => ⟨by omega, ?_⟩⟩
    obtain ⟨c1, c2, c3⟩ := hc
    rw [jm_tn, c1]
    unfold wk_cl at hk
    refine ⟨fun z => ?_, fun z => ?_⟩
    · rw [if_neg (by omega)] at hk
      rw [jm_w (by omega) (by omega)]
      exact rc_dOpen2 s _ (by omega) (by omega) c3 hk
    · rw [if_pos (by omega)] at hk
      have e : wk_d (some ((a, L - 1) :: s)) = ((s.length + 1 : Nat) : Int) := by simp [wk_d]
      rw [e] at hk
      exact hk
theorem rc_dOpen {K : Int → jm_H → Prop} {s : List (Nat × Nat)} (hl : s.length ≤ 12) (hc : cl_I h s) (hk : K (wk_d (wk_cl s)) h) : jm_CI E jm_SH jm_m_Pad_deepestOpen 0 [jm_R 1, jm_I s.length] h K :=
  jb_Pad_deepestOpen (rc_dOpen2 s _ hl rfl hc hk)
theorem wk_cl_T {h : jm_H} : ∀ {s s2 : List (Nat × Nat)}, cl_I h s → wk_cl s = some s2 → cl_T h s2 ∧ s2.length ≤ s.length
  | [], s2, hc, e => by cases e
  | (a, L) :: s, s2, hc, e => by
    unfold wk_cl at e
    by_cases q : 2 ≤ L
    · rw [if_pos q] at e
      cases e
      obtain ⟨c1, c2, c3⟩ := hc
      exact ⟨⟨by rw [c1]; omega, by omega, c3⟩, by simp⟩
    · rw [if_neg q] at e
      have := wk_cl_T hc.2.2 e
      exact ⟨this.1, by simp; omega⟩
end PD
