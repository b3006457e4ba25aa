/-! BOTH OBJECTS AS THEY ARE MADE -/
theorem cs_C0 {h : jm_H} {m : Nat} {f : Nat → Int} {g : Nat → Nat → Int} {L : Nat → Nat} (h1 : h 30 8 = 0) : cs_C h 0 m f g L := by
  intro _
  refine ⟨fun a b z1 z2 z3 => absurd z2 (Nat.not_lt_zero a), ?_⟩
  have e : cs_l 0 m f g L = [] := by
    unfold cs_l
    rw [if_pos (Or.inl rfl)]
  rw [e]
  exact ⟨h1, fun j x hx => by simp at hx⟩
/-- the class, as its constructor leaves it -/
def T0_ (h : jm_H) : Prop := h 1 2 = 0 ∧ h 4 4 = 0 ∧ h 9 4 = 0 ∧ h 30 8 = 0 ∧ h 37 3 = 0 ∧ h 37 4 = 1 ∧ h 47 11 = 0 ∧ h 56 3 = 1 ∧ h 61 12 = 0 ∧ mv_C h
theorem T0_mk {h h1 h2 h3 h4 h5 h6 h7 h8 h9 : jm_H} (z1 : z_Pad (jm_row h 1 (fun _ => 0)) h1) (z2 : z_Tree (jm_row h1 4 (fun _ => 0)) h2) (z3 : z_Patterns (jm_row h2 9 (fun _ => 0)) h3) (z4 : z_Covering (jm_row h3 30 (fun _ => 0)) h4) (z5 : z_Row (jm_row h4 37 (fun _ => 0)) h5) (z6 : z_Order (jm_row h5 47 (fun _ => 0)) h6) (z7 : z_Lifetimes (jm_row h6 56 (fun _ => 0)) h7) (z8 : z_Machine (jm_row h7 59 (fun _ => 0)) h8) (z9 : z_Search (jm_row h8 61 (fun _ => 0)) h9) : T0_ h9 := by
  have e9 : ∀ a v, a < 61 → h9 a v = h8 a v := fun a v z => (z9.1 a v z).trans (row_o (by omega))
  have e8 : ∀ a v, a < 59 → h8 a v = h7 a v := fun a v z => (z8 a v (by omega)).trans (row_o (by omega))
  have e7 : ∀ a v, a < 56 → h7 a v = h6 a v := fun a v z => (z7.1 a v z).trans (row_o (by omega))
  have e6 : ∀ a v, a < 47 → h6 a v = h5 a v := fun a v z => (z6 a v (by omega)).trans (row_o (by omega))
  have e5 : ∀ a v, a < 37 → h5 a v = h4 a v := fun a v z => (z5.1 a v z).trans (row_o (by omega))
  have e4 : ∀ a v, a < 30 → h4 a v = h3 a v := fun a v z => (z4 a v (by omega)).trans (row_o (by omega))
  have e3 : ∀ a v, a < 9 → h3 a v = h2 a v := fun a v z => (z3 a v (by omega)).trans (row_o (by omega))
  have e2 : ∀ a v, a < 4 → h2 a v = h1 a v := fun a v z => (z2 a v (by omega)).trans (row_o (by omega))
  refine ⟨?_, ?_, ?_, ?_, ?_, ?_, ?_, ?_, ?_, z9.2.2⟩
  · rw [e9 1 2 (by omega), e8 1 2 (by omega), e7 1 2 (by omega), e6 1 2 (by omega), e5 1 2 (by omega), e4 1 2 (by omega), e3 1 2 (by omega), e2 1 2 (by omega), z1 1 2 (by omega), row_s]
  · rw [e9 4 4 (by omega), e8 4 4 (by omega), e7 4 4 (by omega), e6 4 4 (by omega), e5 4 4 (by omega), e4 4 4 (by omega), e3 4 4 (by omega), z2 4 4 (by omega), row_s]
  · rw [e9 9 4 (by omega), e8 9 4 (by omega), e7 9 4 (by omega), e6 9 4 (by omega), e5 9 4 (by omega), e4 9 4 (by omega), z3 9 4 (by omega), row_s]
  · rw [e9 30 8 (by omega), e8 30 8 (by omega), e7 30 8 (by omega), e6 30 8 (by omega), e5 30 8 (by omega), z4 30 8 (by omega), row_s]
  · rw [e9 37 3 (by omega), e8 37 3 (by omega), e7 37 3 (by omega), e6 37 3 (by omega), z5.2.1, row_s]
  · rw [e9 37 4 (by omega), e8 37 4 (by omega), e7 37 4 (by omega), e6 37 4 (by omega), z5.2.2]
  · rw [e9 47 11 (by omega), e8 47 11 (by omega), e7 47 11 (by omega), z6 47 11 (by omega), row_s]
  · rw [e9 56 3 (by omega), e8 56 3 (by omega), z7.2]
  · rw [z9.2.1, row_s]
theorem I_0 {h h2 : jm_H} (t : T0_ h) (e : ∀ a v, a < 78 → h2 a v = h a v) (m1 : h2 78 1 = 0) (m2 : h2 78 4 = 0) (m3 : h2 78 14 = 0) (m4 : h2 78 32 = 0) (m5 : h2 78 39 = 1) : I_ 0 h2 := by
  obtain ⟨t1, t2, t3, t4, t5, t6, t7, t8, t9, t10⟩ := t
  have u1 : h2 1 2 = 0 := by rw [e 1 2 (by omega), t1]
  have u2 : h2 4 4 = 0 := by rw [e 4 4 (by omega), t2]
  have u3 : h2 9 4 = 0 := by rw [e 9 4 (by omega), t3]
  have u4 : h2 30 8 = 0 := by rw [e 30 8 (by omega), t4]
  have u5 : h2 37 3 = 0 := by rw [e 37 3 (by omega), t5]
  have u6 : h2 37 4 = 1 := by rw [e 37 4 (by omega), t6]
  have u7 : h2 47 11 = 0 := by rw [e 47 11 (by omega), t7]
  have u8 : h2 56 3 = 1 := by rw [e 56 3 (by omega), t8]
  have u9 : h2 61 12 = 0 := by rw [e 61 12 (by omega), t9]
  have n0 : ∀ {j : Nat} {P : Prop}, j < 0 → P := fun z => absurd z (Nat.not_lt_zero _)
  refine ⟨0, fun _ => 0, 0, fun _ => 0, 0, fun _ _ => 0, fun _ => 0, 0, fun _ _ => 0, 1, ⟨⟨u1, by omega, fun i z => n0 z⟩, ⟨u2, ⟨by omega, Or.inl rfl⟩, fun j z => n0 z⟩, ⟨u3, by omega, fun j z => n0 z⟩, cs_C0 u4, ⟨u5, by omega, fun i z => n0 z⟩, u8, fun q => ?_, t10.fr fun u v _ z => e u v (by omega), fun q => ?_, by omega⟩, ⟨⟨m1, by omega, fun i z => n0 z⟩, ⟨m2, ⟨by omega, Or.inl rfl⟩, fun j z => n0 z⟩, ⟨m3, by omega, fun j z => n0 z⟩, ⟨m4, by omega, fun i z => n0 z⟩, m5⟩, Or.inl rfl, fun p z => n0 z, fun i z => n0 z⟩
  · exfalso
    omega
  · exfalso
    omega
/-- the reference's constructor, behind the class's -/
theorem jz_both {E : jm_Env} {P : List jm_C} (hP : P.length = 78) {h : jm_H} (t : T0_ h) : jm_Call E jm_m_Mod_init 1 [jm_R 78] (P ++ [.inl (11, [none, none, none, none, none, none, none, none, none, none, none, none, none, none, none, none, none, none, none, none, none, none, none, none, none, none, none, none, none, none, none, none, none, none, none, none, none, none, none, none, none, none, none, none, none])]) (jm_row h 78 (fun _ => 0)) (fun r sh h' => r = none ∧ sh = P ++ [.inl (11, [some 79, none, some 80, some 81, none, some 82, some 83, some 84, none, some 85, some 86, some 87, some 88, some 89, none, some 90, some 91, some 92, some 93, some 94, some 95, some 96, none, some 97, some 98, none, some 99, some 100, some 101, some 102, some 103, some 104, none, some 105, some 106, some 107, none, some 108, some 109, none, some 110, some 111, some 112, some 113, some 114]), .inr (0, 60, []), .inr (0, 60, []), .inr (0, 60, []), .inr (0, 60, []), .inr (0, 60, []), .inr (0, 60, []), .inr (0, 60, []), .inr (0, 16, []), .inr (0, 16, []), .inr (0, 192, []), .inr (0, 16, []), .inr (0, 60, []), .inr (0, 60, []), .inr (0, 60, []), .inr (0, 60, []), .inr (0, 200, []), .inr (0, 200, []), .inr (0, 200, []), .inr (0, 100, []), .inr (0, 100, []), .inr (0, 12, []), .inr (0, 12, []), .inr (0, 12, []), .inr (0, 12, []), .inr (0, 12, []), .inr (0, 12, []), .inr (0, 12, []), .inr (0, 12, []), .inr (0, 12, []), .inr (0, 13, []), .inr (0, 72, []), .inr (0, 12, []), .inr (0, 6, []), .inr (0, 256, []), .inr (0, 153, []), .inr (0, 3, [])] ∧ I_ 0 h') := by
  refine jz_Mod (K := I_ 0) hP (I_0 t (fun a v z => ?_) ?_ ?_ ?_ ?_ ?_)
  · rw [up_o (by omega)]
    repeat rw [row_o (by omega)]
  · rw [up_o (by omega)]
    repeat rw [row_o (by omega)]
    rw [row_s]
  · rw [up_o (by omega)]
    repeat rw [row_o (by omega)]
    rw [row_s]
  · rw [up_o (by omega)]
    repeat rw [row_o (by omega)]
    rw [row_s]
  · rw [up_o (by omega)]
    repeat rw [row_o (by omega)]
    rw [row_s]
  · exact up_s
