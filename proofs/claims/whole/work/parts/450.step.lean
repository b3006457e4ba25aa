/-! ONE CALL: what both objects hold, and that both answer alike -/
def JC_ (h : jm_H) (v : Int) (np : Nat) (fp : Nat → Int) (nt : Nat) (ft : Nat → Int) (m : Nat) (g : Nat → Nat → Int) (L : Nat → Nat) (n : Nat) (r : Nat → Nat → Int) (kp : Int) : Prop :=
  pd_C h np fp ∧ te_C h nt ft ∧ pa_C h m g L ∧ cs_C h nt m ft g L ∧ rw_C h n r ∧ h 56 3 = kp ∧ ov_C h n r ∧ mv_C h ∧ sv_C h n r ∧ (1 ≤ h 37 4 ∧ h 37 4 ≤ v ∧ h 47 11 ≤ h 37 4 ∧ h 61 12 ≤ h 37 4)
def JM_ (h : jm_H) (np : Nat) (fp : Nat → Int) (nt : Nat) (ft : Nat → Int) (m : Nat) (g : Nat → Nat → Int) (L : Nat → Nat) (n : Nat) (r : Nat → Nat → Int) (kp : Int) : Prop :=
  pd_M h np fp ∧ te_M h nt ft ∧ pa_M h m g L ∧ rw_M h n r ∧ h 78 39 = kp
def JO_ (nt : Nat) (ft : Nat → Int) (m : Nat) (g : Nat → Nat → Int) (L : Nat → Nat) (n : Nat) (r : Nat → Nat → Int) : Prop := tg_w nt ft ∧ pa_ok m g L ∧ rw_ok n r
/-- both objects after at most c calls -/
def I_ (c : Nat) (h : jm_H) : Prop := ∃ np fp nt ft m g L n r kp, JC_ h (1 + 13 * c) np fp nt ft m g L n r kp ∧ JM_ h np fp nt ft m g L n r kp ∧ JO_ nt ft m g L n r
/-- the class's places are as they were, the reference's -/
def kC_ (h h2 : jm_H) : Prop := ∀ a b, a < 78 → ¬ sc_ a b → h2 a b = h a b
def kM_ (h h2 : jm_H) : Prop := ∀ a b, 78 ≤ a → ¬ sc_ a b → h2 a b = h a b
theorem sq_.kC {h h2 : jm_H} (e : sq_ h h2) : kC_ h h2 := fun a b _ z => e a b z
theorem sq_.kM {h h2 : jm_H} (e : sq_ h h2) : kM_ h h2 := fun a b _ z => e a b z
theorem ov_C.fr {h h2 : jm_H} {n : Nat} {r : Nat → Nat → Int} (ho : ov_C h n r) (e : ∀ a b, (a = 37 ∧ b = 4) ∨ (a = 47 ∧ (b = 9 ∨ b = 11)) ∨ a = 55 → h2 a b = h a b) : ov_C h2 n r := by
  intro q
  rw [e 47 11 (by omega), e 37 4 (by omega)] at q
  obtain ⟨a1, o, a2, a3, a4⟩ := ho q
  exact ⟨a1, o, a2, fun q hq => by rw [e 55 q (by omega)]; exact a3 q hq, by rw [e 47 9 (by omega)]; exact a4⟩
theorem ar_.fr {h h2 : jm_H} {s : List in_I} {p : Nat} (ha : ar_ h s p) (e : ∀ a b, 74 ≤ a → a ≤ 77 → h2 a b = h a b) : ar_ h2 s p := fun i c hc => by
  rw [e _ _ (by omega) (by omega), e _ _ (by omega) (by omega), e _ _ (by omega) (by omega), e _ _ (by omega) (by omega)]
  exact ha i c hc
theorem sv_C.fr {h h2 : jm_H} {n : Nat} {r : Nat → Nat → Int} (hs : sv_C h n r) (e : ∀ a b, (a = 37 ∧ b = 4) ∨ (a = 61 ∧ 10 ≤ b ∧ b ≤ 12) ∨ a = 68 ∨ a = 70 ∨ (74 ≤ a ∧ a ≤ 77) → h2 a b = h a b) : sv_C h2 n r := by
  intro q
  rw [e 61 12 (by omega), e 37 4 (by omega)] at q
  obtain ⟨a1, a2, a3, a4⟩ := hs q
  refine ⟨fun b hb => by rw [e 68 b (by omega)]; exact a1 b hb, fun q hq => by rw [e 70 q (by omega)]; exact a2 q hq, by rw [e 61 11 (by omega)]; exact a3, ?_⟩
  rw [e 61 10 (by omega), e 61 11 (by omega)]
  rcases a4 with a4 | ⟨b1, s, b2, b3, b4, b5⟩
  · exact Or.inl a4
  · exact Or.inr ⟨b1, s, b2, b3, b4, b5.fr fun a b z1 z2 => e a b (by omega)⟩
theorem cs_C.fr {h h2 : jm_H} {n m : Nat} {f : Nat → Int} {g : Nat → Nat → Int} {L : Nat → Nat} (hs : cs_C h n m f g L) (e : ∀ a b, (a = 30 ∧ (b = 8 ∨ b = 9)) ∨ (31 ≤ a ∧ a ≤ 36) → h2 a b = h a b) : cs_C h2 n m f g L := by
  intro q
  rw [e 30 9 (by omega)] at q
  obtain ⟨a1, a2, a3⟩ := hs q
  refine ⟨fun a b z1 z2 z3 => ?_, by rw [e 30 8 (by omega)]; exact a2, fun j x hx => ?_⟩
  · rw [e _ _ (by omega), e _ _ (by omega), e _ _ (by omega), e _ _ (by omega)]
    exact a1 a b z1 z2 z3
  · rw [e _ _ (by omega), e _ _ (by omega)]
    exact a3 j x hx
theorem pd_C.fr {h h2 : jm_H} {n : Nat} {f : Nat → Int} (hp : pd_C h n f) (e : ∀ a b, (a = 1 ∧ b = 2) ∨ a = 2 → h2 a b = h a b) : pd_C h2 n f := ⟨by rw [e 1 2 (by omega)]; exact hp.1, hp.2.1, fun i hi => by rw [e 2 i (by omega)]; exact hp.2.2 i hi⟩
theorem pd_M.fr {h h2 : jm_H} {n : Nat} {f : Nat → Int} (hp : pd_M h n f) (e : ∀ a b, (a = 78 ∧ b = 1) ∨ a = 79 → h2 a b = h a b) : pd_M h2 n f := ⟨by rw [e 78 1 (by omega)]; exact hp.1, hp.2.1, fun i hi => by rw [e 79 i (by omega)]; exact hp.2.2 i hi⟩
section JJ
variable {h : jm_H} {v : Int} {np : Nat} {fp : Nat → Int} {nt : Nat} {ft : Nat → Int} {m : Nat} {g : Nat → Nat → Int} {L : Nat → Nat} {n : Nat} {r : Nat → Nat → Int} {kp : Int}
theorem JC_.fr {h2 : jm_H} (hj : JC_ h v np fp nt ft m g L n r kp) (e : kC_ h h2) : JC_ h2 v np fp nt ft m g L n r kp := by
  obtain ⟨a1, a2, a3, a4, a5, a6, a7, a8, a9, a10⟩ := hj
  refine ⟨a1.fr fun a b z => e a b (by omega) (by unfold sc_; omega), a2.fr fun a b z1 z2 => e a b (by omega) (by unfold sc_; omega), a3.fr fun a b z1 z2 => e a b (by omega) (by unfold sc_; omega), a4.fr fun a b z => e a b (by omega) (by unfold sc_; omega), a5.off fun a b z => e a b (by omega) (by unfold sc_; omega), by rw [e 56 3 (by omega) (by unfold sc_; omega)]; exact a6, a7.fr fun a b z => e a b (by omega) (by unfold sc_; omega), a8.fr fun a b z1 z2 => e a b (by omega) (by unfold sc_; omega), a9.fr fun a b z => e a b (by omega) (by unfold sc_; omega), ?_⟩
  rw [e 37 4 (by omega) (by unfold sc_; omega), e 47 11 (by omega) (by unfold sc_; omega), e 61 12 (by omega) (by unfold sc_; omega)]
  exact a10
theorem JM_.fr {h2 : jm_H} (hj : JM_ h np fp nt ft m g L n r kp) (e : kM_ h h2) : JM_ h2 np fp nt ft m g L n r kp := by
  obtain ⟨a1, a2, a3, a4, a5⟩ := hj
  exact ⟨a1.fr fun a b z => e a b (by omega) (by unfold sc_; omega), a2.fr fun a b z => e a b (by omega) (by unfold sc_; omega), a3.fr fun a b z => e a b (by omega) (by unfold sc_; omega), a4.off fun a b z => e a b (by omega) (by unfold sc_; omega), by rw [e 78 39 (by omega) (by unfold sc_; omega)]; exact a5⟩
theorem JC_.le {w : Int} (hj : JC_ h v np fp nt ft m g L n r kp) (hv : v ≤ w) : JC_ h w np fp nt ft m g L n r kp := by
  obtain ⟨a1, a2, a3, a4, a5, a6, a7, a8, a9, a10⟩ := hj
  exact ⟨a1, a2, a3, a4, a5, a6, a7, a8, a9, by omega⟩
end JJ
/-- a call of the class, then the same of the reference: alike, and all holds again -/
def SP_ (E : jm_Env) (c : Nat) (M1 : jm_M) (d1 : Nat) (M2 : jm_M) (d2 : Nat) (av : List jm_V) : Prop := ∀ h, I_ c h → jm_CI E jm_SH M1 d1 (jm_R 0 :: av) h (fun v1 h1 => jm_CI E jm_SH M2 d2 (jm_R 78 :: av) h1 (fun v2 h2 => v1 = v2 ∧ I_ (c + 1) h2))
section S1
variable {E : jm_Env} {c : Nat}
theorem I_mk {h : jm_H} {np : Nat} {fp : Nat → Int} {nt : Nat} {ft : Nat → Int} {m : Nat} {g : Nat → Nat → Int} {L : Nat → Nat} {n : Nat} {r : Nat → Nat → Int} {kp : Int} (a : JC_ h (1 + 13 * c) np fp nt ft m g L n r kp) (b : JM_ h np fp nt ft m g L n r kp) (o : JO_ nt ft m g L n r) : I_ (c + 1) h := ⟨np, fp, nt, ft, m, g, L, n, r, kp, a.le (by omega), b, o⟩
theorem st_say {x : Int} : SP_ E c jm_m_Top_say 1 jm_m_Mod_say 1 [jm_I x] := by
  rintro h ⟨np, fp, nt, ft, m, g, L, n, r, kp, hC, hM, hO⟩
  refine tc_say hC.1 (fun q => ?_) (fun q q2 => ?_) (fun q q2 h1 a1 a2 => ?_)
  · exact mc_say hM.1 (fun _ => ⟨rfl, I_mk hC hM hO⟩) (fun w => absurd w q) (fun w => absurd w q)
  · exact mc_say hM.1 (fun w => absurd q w) (fun _ _ => ⟨rfl, I_mk hC hM hO⟩) (fun _ w => by omega)
  · have e1 : kM_ h h1 := fun a b z1 _ => a2 a b (by omega)
    have hM1 := hM.fr e1
    refine mc_say hM1.1 (fun w => absurd q w) (fun _ w => by omega) (fun _ _ h2 b1 b2 => ⟨rfl, ?_⟩)
    have c1 : JC_ h1 (1 + 13 * c) (np + 1) (fun i => if i = np then x else fp i) nt ft m g L n r kp := by
      obtain ⟨d1, d2, d3, d4, d5, d6, d7, d8, d9, d10⟩ := hC
      refine ⟨a1, d2.fr fun a b z1 z2 => a2 a b (by omega), d3.fr fun a b z1 z2 => a2 a b (by omega), d4.fr fun a b z => a2 a b (by omega), d5.off fun a b z => a2 a b (by omega), by rw [a2 56 3 (by omega)]; exact d6, d7.fr fun a b z => a2 a b (by omega), d8.fr fun a b z1 z2 => a2 a b (by omega), d9.fr fun a b z => a2 a b (by omega), ?_⟩
      rw [a2 37 4 (by omega), a2 47 11 (by omega), a2 61 12 (by omega)]
      exact d10
    obtain ⟨g1, g2, g3, g4, g5⟩ := hM1
    exact I_mk (c1.fr fun a b z _ => b2 a b (by omega)) ⟨b1, g2.fr fun a b z => b2 a b (by omega), g3.fr fun a b z => b2 a b (by omega), g4.off fun a b z => b2 a b (by omega), by rw [b2 78 39 (by omega)]; exact g5⟩ hO
theorem st_wipe : SP_ E c jm_m_Top_wipe 0 jm_m_Mod_wipe 0 [] := by
  rintro h ⟨np, fp, nt, ft, m, g, L, n, r, kp, hC, hM, hO⟩
  refine tc_wipe hC.1 ?_
  have e1 : ∀ a b, ¬ (a = 1 ∧ b = 2) → jm_up h 1 2 0 a b = h a b := fun a b z => up_o z
  have hM1 := hM.fr (h2 := jm_up h 1 2 0) (fun a b z1 _ => e1 a b (by omega))
  refine mc_wipe hM1.1 ⟨rfl, ?_⟩
  have e2 : ∀ a b, ¬ (a = 78 ∧ b = 1) → jm_up (jm_up h 1 2 0) 78 1 0 a b = jm_up h 1 2 0 a b := fun a b z => up_o z
  obtain ⟨d1, d2, d3, d4, d5, d6, d7, d8, d9, d10⟩ := hC
  have c1 : JC_ (jm_up h 1 2 0) (1 + 13 * c) 0 fp nt ft m g L n r kp := by
    refine ⟨⟨up_s, by omega, fun i hi => by omega⟩, d2.fr fun a b z1 z2 => e1 a b (by omega), d3.fr fun a b z1 z2 => e1 a b (by omega), d4.fr fun a b z => e1 a b (by omega), d5.off fun a b z => e1 a b (by omega), by rw [e1 56 3 (by omega)]; exact d6, d7.fr fun a b z => e1 a b (by omega), d8.fr fun a b z1 z2 => e1 a b (by omega), d9.fr fun a b z => e1 a b (by omega), ?_⟩
    rw [e1 37 4 (by omega), e1 47 11 (by omega), e1 61 12 (by omega)]
    exact d10
  obtain ⟨g1, g2, g3, g4, g5⟩ := hM1
  exact I_mk (c1.fr fun a b z _ => e2 a b (by omega)) ⟨⟨up_s, by omega, fun i hi => by omega⟩, g2.fr fun a b z => e2 a b (by omega), g3.fr fun a b z => e2 a b (by omega), g4.off fun a b z => e2 a b (by omega), by rw [e2 78 39 (by omega)]; exact g5⟩ hO
theorem st_fault : SP_ E c jm_m_Top_fault 4 jm_m_Mod_fault 4 [] := by
  rintro h ⟨np, fp, nt, ft, m, g, L, n, r, kp, hC, hM, hO⟩
  refine tc_fault hC.1 (fun h1 s1 => ?_)
  refine mc_fault (hM.fr s1.kM).1 (fun h2 s2 => ⟨rfl, I_mk ((hC.fr s1.kC).fr s2.kC) ((hM.fr s1.kM).fr s2.kM) hO⟩)
theorem st_read : SP_ E c jm_m_Top_read 4 jm_m_Mod_read 4 [] := by
  rintro h ⟨np, fp, nt, ft, m, g, L, n, r, kp, hC, hM, hO⟩
  refine tc_read hC.1 (fun q h1 s1 => ?_) (fun q q2 h1 s1 => ?_) (fun q q2 h1 a1 a2 a3 a4 => ?_)
  · exact mc_read (hM.fr s1.kM).1 (fun _ h2 s2 => ⟨rfl, I_mk ((hC.fr s1.kC).fr s2.kC) ((hM.fr s1.kM).fr s2.kM) hO⟩) (fun w => absurd w q) (fun w => absurd w q)
  · exact mc_read (hM.fr s1.kM).1 (fun w => absurd q w) (fun _ _ h2 s2 => ⟨rfl, I_mk ((hC.fr s1.kC).fr s2.kC) ((hM.fr s1.kM).fr s2.kM) hO⟩) (fun _ w => absurd w q2)
  · have hM1 := hM.fr (h2 := h1) (fun a b z1 _ => a4 a b (by omega) (by omega) (by omega))
    refine mc_read hM1.1 (fun w => absurd q w) (fun _ w => absurd q2 w) (fun _ _ h2 b1 b2 b3 => ⟨rfl, ?_⟩)
    obtain ⟨d1, d2, d3, d4, d5, d6, d7, d8, d9, d10⟩ := hC
    have c1 : JC_ h1 (1 + 13 * c) 0 fp np fp m g L n r kp := by
      refine ⟨⟨a2, by omega, fun i hi => by omega⟩, a1, d3.fr fun a b z1 z2 => a4 a b (by omega) (by omega) (by omega), fun w => by rw [a3] at w; omega, d5.off fun a b z => a4 a b (by omega) (by omega) (by omega), by rw [a4 56 3 (by omega) (by omega) (by omega)]; exact d6, d7.fr fun a b z => a4 a b (by omega) (by omega) (by omega), d8.fr fun a b z1 z2 => a4 a b (by omega) (by omega) (by omega), d9.fr fun a b z => a4 a b (by omega) (by omega) (by omega), ?_⟩
      rw [a4 37 4 (by omega) (by omega) (by omega), a4 47 11 (by omega) (by omega) (by omega), a4 61 12 (by omega) (by omega) (by omega)]
      exact d10
    obtain ⟨g1, g2, g3, g4, g5⟩ := hM1
    exact I_mk (c1.fr fun a b z _ => b3 a b (by omega) (by omega)) ⟨⟨b2, by omega, fun i hi => by omega⟩, b1, g3.fr fun a b z => b3 a b (by omega) (by omega), g4.off fun a b z => b3 a b (by omega) (by omega), by rw [b3 78 39 (by omega) (by omega)]; exact g5⟩ ⟨Or.inr q, hO.2⟩
theorem st_node {x y : Int} : SP_ E c jm_m_Top_node 1 jm_m_Mod_node 3 [jm_I x, jm_I y] := by
  rintro h ⟨np, fp, nt, ft, m, g, L, n, r, kp, hC, hM, hO⟩
  exact tc_node hC.2.1 (mc_node hM.2.1 (fun h2 s2 => ⟨rfl, I_mk (hC.fr s2.kC) (hM.fr s2.kM) hO⟩))
theorem st_stores {x : Int} : SP_ E c jm_m_Top_stores 3 jm_m_Mod_stores 2 [jm_I x] := by
  rintro h ⟨np, fp, nt, ft, m, g, L, n, r, kp, hC, hM, hO⟩
  exact tc_stores hC.2.1 (mc_stores hM.2.1 (fun h2 s2 => ⟨rfl, I_mk (hC.fr s2.kC) (hM.fr s2.kM) hO⟩))
theorem pa_ok_g {np m : Nat} {fp : Nat → Int} {g : Nat → Nat → Int} {L : Nat → Nat} {x y : Int} (ho : pa_ok m g L) (hx : (x = 0 ∨ x = 1) ∧ 0 ≤ y ∧ y ≤ 20) (hp : pa_al np fp x) : pa_ok (m + 1) (pa_g g m fp x y) (pa_L L m np) := by
  intro p hpm
  unfold pa_g pa_L
  by_cases e : p = m
  · subst e
    simp only [if_true]
    obtain ⟨a1, a2, -⟩ := hp
    refine ⟨hx.1, hx.2, a1, ?_⟩
    have := wk_sp np 0 (some []) (fun s2 h2 => by cases h2; intro q hq; cases hq) a2
    simpa [wk_rT] using this
  · have := ho p (by omega)
    simpa [e] using this
theorem st_pattern {x y : Int} : SP_ E c jm_m_Top_pattern 5 jm_m_Mod_pattern 4 [jm_I x, jm_I y] := by
  rintro h ⟨np, fp, nt, ft, m, g, L, n, r, kp, hC, hM, hO⟩
  refine tc_pattern hC.1 hC.2.2.1 (fun q => ?_) (fun q q2 => ?_) (fun q q2 q3 h1 s1 => ?_) (fun q q2 q3 h1 a1 a2 a3 a4 => ?_)
  · exact mc_pattern hM.1 hM.2.2.1 hO.2.1 (fun _ => ⟨rfl, I_mk hC hM hO⟩) (fun w => absurd w q) (fun w => absurd w q) (fun w => absurd w q)
  · exact mc_pattern hM.1 hM.2.2.1 hO.2.1 (fun w => absurd q w) (fun _ _ => ⟨rfl, I_mk hC hM hO⟩) (fun _ w => by omega) (fun _ w => by omega)
  · exact mc_pattern (hM.fr s1.kM).1 (hM.fr s1.kM).2.2.1 hO.2.1 (fun w => absurd q w) (fun _ w => by omega) (fun _ _ _ h2 s2 => ⟨rfl, I_mk ((hC.fr s1.kC).fr s2.kC) ((hM.fr s1.kM).fr s2.kM) hO⟩) (fun _ _ w => absurd w q3)
  · have hM1 := hM.fr (h2 := h1) (fun a b z1 _ => a4 a b (by omega) (by omega) (by omega) (by omega))
    refine mc_pattern hM1.1 hM1.2.2.1 hO.2.1 (fun w => absurd q w) (fun _ w => by omega) (fun _ _ w => absurd q3 w) (fun _ _ _ h2 b1 b2 b3 => ⟨rfl, ?_⟩)
    obtain ⟨d1, d2, d3, d4, d5, d6, d7, d8, d9, d10⟩ := hC
    have c1 : JC_ h1 (1 + 13 * c) 0 fp nt ft (m + 1) (pa_g g m fp x y) (pa_L L m np) n r kp := by
      refine ⟨⟨a2, by omega, fun i hi => by omega⟩, d2.fr fun a b z1 z2 => a4 a b (by omega) (by omega) (by omega) (by omega), a1, fun w => by rw [a3] at w; omega, d5.off fun a b z => a4 a b (by omega) (by omega) (by omega) (by omega), by rw [a4 56 3 (by omega) (by omega) (by omega) (by omega)]; exact d6, d7.fr fun a b z => a4 a b (by omega) (by omega) (by omega) (by omega), d8.fr fun a b z1 z2 => a4 a b (by omega) (by omega) (by omega) (by omega), d9.fr fun a b z => a4 a b (by omega) (by omega) (by omega) (by omega), ?_⟩
      rw [a4 37 4 (by omega) (by omega) (by omega) (by omega), a4 47 11 (by omega) (by omega) (by omega) (by omega), a4 61 12 (by omega) (by omega) (by omega) (by omega)]
      exact d10
    obtain ⟨g1, g2, g3, g4, g5⟩ := hM1
    exact I_mk (c1.fr fun a b z _ => b3 a b (by omega) (by omega) (by omega)) ⟨⟨b2, by omega, fun i hi => by omega⟩, g2.fr fun a b z => b3 a b (by omega) (by omega) (by omega), b1, g4.off fun a b z => b3 a b (by omega) (by omega) (by omega), by rw [b3 78 39 (by omega) (by omega) (by omega)]; exact g5⟩ ⟨hO.1, pa_ok_g hO.2.1 q q3, hO.2.2⟩
theorem st_price {x y : Int} : SP_ E c jm_m_Top_price 1 jm_m_Mod_price 1 [jm_I x, jm_I y] := by
  rintro h ⟨np, fp, nt, ft, m, g, L, n, r, kp, hC, hM, hO⟩
  refine tc_price hC.2.2.1 (fun q => ?_) (fun q q2 => ?_) (fun q q2 h1 a1 a2 a3 => ?_)
  · exact mc_price hM.2.2.1 (fun _ => ⟨rfl, I_mk hC hM hO⟩) (fun w => absurd w q) (fun w => absurd w q)
  · exact mc_price hM.2.2.1 (fun w => absurd q w) (fun _ _ => ⟨rfl, I_mk hC hM hO⟩) (fun _ w => absurd w q2)
  · have hM1 := hM.fr (h2 := h1) (fun a b z1 _ => a3 a b (by omega) (by omega))
    refine mc_price hM1.2.2.1 (fun w => absurd q w) (fun _ w => absurd q2 w) (fun _ _ h2 b1 b2 => ⟨rfl, ?_⟩)
    obtain ⟨d1, d2, d3, d4, d5, d6, d7, d8, d9, d10⟩ := hC
    have c1 : JC_ h1 (1 + 13 * c) np fp nt ft m (pr_g g x.toNat y) L n r kp := by
      refine ⟨d1.fr fun a b z => a3 a b (by omega) (by omega), d2.fr fun a b z1 z2 => a3 a b (by omega) (by omega), a1, fun w => by rw [a2] at w; omega, d5.off fun a b z => a3 a b (by omega) (by omega), by rw [a3 56 3 (by omega) (by omega)]; exact d6, d7.fr fun a b z => a3 a b (by omega) (by omega), d8.fr fun a b z1 z2 => a3 a b (by omega) (by omega), d9.fr fun a b z => a3 a b (by omega) (by omega), ?_⟩
      rw [a3 37 4 (by omega) (by omega), a3 47 11 (by omega) (by omega), a3 61 12 (by omega) (by omega)]
      exact d10
    obtain ⟨g1, g2, g3, g4, g5⟩ := hM1
    exact I_mk (c1.fr fun a b z _ => b2 a b (by omega)) ⟨g1.fr fun a b z => b2 a b (by omega), g2.fr fun a b z => b2 a b (by omega), b1, g4.off fun a b z => b2 a b (by omega), by rw [b2 78 39 (by omega)]; exact g5⟩ ⟨hO.1, pr_ok hO.2.1 q2, hO.2.2⟩
theorem st_clear : SP_ E c jm_m_Top_clear 0 jm_m_Mod_clear 0 [] := by
  rintro h ⟨np, fp, nt, ft, m, g, L, n, r, kp, hC, hM, hO⟩
  refine tc_clear hC.2.2.1 (fun h1 a1 a2 a3 => ?_)
  have hM1 := hM.fr (h2 := h1) (fun a b z1 _ => a3 a b (by omega) (by omega))
  refine mc_clear hM1.2.2.1 ⟨rfl, ?_⟩
  have e2 : ∀ a b, ¬ (a = 78 ∧ b = 14) → jm_up h1 78 14 0 a b = h1 a b := fun a b z => up_o z
  obtain ⟨d1, d2, d3, d4, d5, d6, d7, d8, d9, d10⟩ := hC
  have c1 : JC_ h1 (1 + 13 * c) np fp nt ft 0 g L n r kp := by
    refine ⟨d1.fr fun a b z => a3 a b (by omega) (by omega), d2.fr fun a b z1 z2 => a3 a b (by omega) (by omega), ⟨a1, by omega, fun p hp => by omega⟩, fun w => by rw [a2] at w; omega, d5.off fun a b z => a3 a b (by omega) (by omega), by rw [a3 56 3 (by omega) (by omega)]; exact d6, d7.fr fun a b z => a3 a b (by omega) (by omega), d8.fr fun a b z1 z2 => a3 a b (by omega) (by omega), d9.fr fun a b z => a3 a b (by omega) (by omega), ?_⟩
    rw [a3 37 4 (by omega) (by omega), a3 47 11 (by omega) (by omega), a3 61 12 (by omega) (by omega)]
    exact d10
  obtain ⟨g1, g2, g3, g4, g5⟩ := hM1
  exact I_mk (c1.fr fun a b z _ => e2 a b (by omega)) ⟨g1.fr fun a b z => e2 a b (by omega), g2.fr fun a b z => e2 a b (by omega), ⟨up_s, by omega, fun p hp => by omega⟩, g4.off fun a b z => e2 a b (by omega), by rw [e2 78 39 (by omega)]; exact g5⟩ ⟨hO.1, fun p hp => by omega, hO.2.2⟩
theorem cs_cov {h h1 : jm_H} {v : Int} {np : Nat} {fp : Nat → Int} {nt : Nat} {ft : Nat → Int} {m : Nat} {g : Nat → Nat → Int} {L : Nat → Nat} {n : Nat} {r : Nat → Nat → Int} {kp : Int} (hC : JC_ h v np fp nt ft m g L n r kp) (a1 : ∀ u w, ¬ (30 ≤ u ∧ u ≤ 36) → h1 u w = h u w) (a2 : cs_C h1 nt m ft g L) : JC_ h1 v np fp nt ft m g L n r kp := by
  obtain ⟨d1, d2, d3, d4, d5, d6, d7, d8, d9, d10⟩ := hC
  refine ⟨d1.fr fun a b z => a1 a b (by omega), d2.fr fun a b z1 z2 => a1 a b (by omega), d3.fr fun a b z1 z2 => a1 a b (by omega), a2, d5.off fun a b z => a1 a b (by omega), by rw [a1 56 3 (by omega)]; exact d6, d7.fr fun a b z => a1 a b (by omega), d8.fr fun a b z1 z2 => a1 a b (by omega), d9.fr fun a b z => a1 a b (by omega), ?_⟩
  rw [a1 37 4 (by omega), a1 47 11 (by omega), a1 61 12 (by omega)]
  exact d10
theorem sp_cover_ex (n m : Nat) (f : Nat → Int) (g : Nat → Nat → Int) (L : Nat → Nat) (x1 x2 x3 : Int) : ∃ v, sp_cover n m f g L x1 x2 x3 v := by
  by_cases a : 0 ≤ x1 ∧ x1 < n
  · by_cases b : (x2 = 0 ∨ x2 = 1) ∧ (x3 = 0 ∨ x3 = 1)
    · by_cases d : cb_ n m f g L x1.toNat x2.toNat < 0
      · exact ⟨-6, fun w => absurd a w, fun _ w => absurd b w, fun _ _ _ => ⟨fun _ => rfl, fun w => by omega⟩⟩
      · by_cases e : x3 = 0
        · exact ⟨_, fun w => absurd a w, fun _ w => absurd b w, fun _ _ _ => ⟨fun w => absurd w d, fun _ => ⟨fun _ => rfl, fun w => absurd e w⟩⟩⟩
        · exact ⟨_, fun w => absurd a w, fun _ w => absurd b w, fun _ _ _ => ⟨fun w => absurd w d, fun _ => ⟨fun w => absurd w e, fun _ => rfl⟩⟩⟩
    · exact ⟨-2, fun w => absurd a w, fun _ _ => rfl, fun _ z1 z2 => absurd ⟨z1, z2⟩ b⟩
  · exact ⟨-1, fun _ => rfl, fun w => absurd w a, fun w => absurd w a⟩
theorem st_cover {x y z : Int} : SP_ E c jm_m_Top_cover 34 jm_m_Mod_cover 4 [jm_I x, jm_I y, jm_I z] := by
  rintro h ⟨np, fp, nt, ft, m, g, L, n, r, kp, hC, hM, hO⟩
  obtain ⟨v, hv⟩ := sp_cover_ex nt m ft g L x y z
  refine tc_cover hC.2.1 hC.2.2.1 hO.2.1 hO.1 hC.2.2.2.1 hv (fun h1 a1 a2 => ?_)
  have hM1 := hM.fr (h2 := h1) (fun a b z1 _ => a1 a b (by omega))
  exact mc_cover hM1.2.1 hM1.2.2.1 hO.2.1 hv (fun h2 s2 => ⟨rfl, I_mk ((cs_cov hC a1 a2).fr s2.kC) (hM1.fr s2.kM) hO⟩)
theorem sp_code_ex (n m : Nat) (f : Nat → Int) (g : Nat → Nat → Int) (L : Nat → Nat) (x1 x2 : Int) : ∃ v, sp_code n m f g L x1 x2 v := by
  by_cases a : x2 = 0 ∨ x2 = 1
  · by_cases b : n = 0
    · exact ⟨-3, fun w => absurd a w, fun _ _ => rfl, fun _ w => by omega⟩
    · by_cases d : cb_ n m f g L 0 0 < 0
      · exact ⟨-5, fun w => absurd a w, fun _ w => absurd w b, fun _ _ => ⟨fun _ => rfl, fun w => by omega⟩⟩
      · by_cases e : x1 = -1
        · exact ⟨_, fun w => absurd a w, fun _ w => absurd w b, fun _ _ => ⟨fun w => absurd w d, fun _ => ⟨fun _ => rfl, fun w => absurd e w, fun y _ w => by omega⟩⟩⟩
        · by_cases f2 : 0 ≤ x1 ∧ x1 < (cs_l n m f g L).length
          · have hg := List.getElem?_eq_getElem (show x1.toNat < (cs_l n m f g L).length by omega)
            by_cases i : x2 = 0
            · exact ⟨_, fun w => absurd a w, fun _ w => absurd w b, fun _ _ => ⟨fun w => absurd w d, fun _ => ⟨fun w => absurd w e, fun _ w => absurd f2 w, fun y hy _ => ⟨fun _ => by rw [hg] at hy; cases hy; rfl, fun w => absurd i w⟩⟩⟩⟩
            · exact ⟨_, fun w => absurd a w, fun _ w => absurd w b, fun _ _ => ⟨fun w => absurd w d, fun _ => ⟨fun w => absurd w e, fun _ w => absurd f2 w, fun y hy _ => ⟨fun w => absurd w i, fun _ => by rw [hg] at hy; cases hy; rfl⟩⟩⟩⟩
          · exact ⟨-6, fun w => absurd a w, fun _ w => absurd w b, fun _ _ => ⟨fun w => absurd w d, fun _ => ⟨fun w => absurd w e, fun _ _ => rfl, fun y hy w => by
              have := (List.getElem?_eq_some_iff.mp hy).1
              omega⟩⟩⟩
  · exact ⟨-2, fun _ => rfl, fun w => absurd w a, fun w => absurd w a⟩
theorem st_code {x y : Int} : SP_ E c jm_m_Top_code 34 jm_m_Mod_code 4 [jm_I x, jm_I y] := by
  rintro h ⟨np, fp, nt, ft, m, g, L, n, r, kp, hC, hM, hO⟩
  obtain ⟨v, hv⟩ := sp_code_ex nt m ft g L x y
  refine tc_code hC.2.1 hC.2.2.1 hO.2.1 hO.1 hC.2.2.2.1 hv (fun h1 a1 a2 => ?_)
  have hM1 := hM.fr (h2 := h1) (fun a b z1 _ => a1 a b (by omega))
  exact mc_code hM1.2.1 hM1.2.2.1 hO.2.1 hv (fun h2 s2 => ⟨rfl, I_mk ((cs_cov hC a1 a2).fr s2.kC) (hM1.fr s2.kM) hO⟩)
end S1
