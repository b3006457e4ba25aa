/-! nodes and needs, both sides -/
section NO
variable {E : jm_Env} {h : jm_H} {n : Nat} {f : Nat → Int}
/-- the reference's end of what begins at a -/
theorem rm_end4' {K : Int → jm_H → Prop} (hf : ∀ j, j < n → h 80 j = f j) (hn : n ≤ 30) : ∀ (m l a : Nat) (x2 x3 : Int), sp_ f m l a → a + m ≤ n → l ≤ 100 → x2 = l → x3 = a → K ((a + m : Nat) : Int) h → jm_BI E jm_SH jm_m_Mod_endOf 1 4 [some (jm_R 78), none, some (jm_I x2), some (jm_I x3)] [] h K
  | 0, l, a, x2, x3, hs, hb, hl, h2, h3, hk => by
    have : l = 0 := hs
    subst this
    refine jb_Mod_endOf_4 ⟨fun _ => ?_, fun q => by omega⟩
    rw [h3]
    exact hk
  | m + 1, 0, a, x2, x3, hs, hb, hl, h2, h3, hk => hs.elim
  | m + 1, l + 1, a, x2, x3, hs, hb, hl, h2, h3, hk => by
    subst h3
    subst h2
    have hs2 : sp_ f m (l + pt_ (f a)) (a + 1) := hs
    have hpt := pt_b (f a)
    refine jb_Mod_endOf_4 ⟨fun q => by omega, fun _ => ⟨by omega, ?_⟩⟩
    rw [jm_tn, hf a (by omega)]
    refine rm_partsOf ?_
    by_cases q : l + pt_ (f a) ≤ 100
    · rw [jm_w (x := (pt_ (f a) : Int) - 1) (by omega) (by omega), jm_w (by omega) (by omega), jm_w (by omega) (by omega)]
      refine rm_end4' hf hn m _ (a + 1) _ _ hs2 (by omega) q (by omega) (by omega) ?_
      rw [show a + 1 + m = a + (m + 1) by omega]
      exact hk
    · exfalso
      -- more trees than signs
      have key : ∀ (m l a : Nat), sp_ f m l a → l ≤ m := by
        intro m
        induction m with
        | zero => intro l a h; have : l = 0 := h; omega
        | succ m ih =>
          intro l a h
          cases l with
          | zero => omega
          | succ l =>
            have := ih _ _ (show sp_ f m (l + pt_ (f a)) (a + 1) from h)
            omega
      have := key _ _ _ hs2
      omega
theorem rm_endOf {K : Int → jm_H → Prop} {i : Nat} (hm : te_M h n f) (hi : i < n) (hk : K ((i + te_S f n i : Nat) : Int) h) : jm_CI E jm_SH jm_m_Mod_endOf 1 [jm_R 78, jm_I i] h K := by
  obtain ⟨h1, h2⟩ := te_S_ok hm.2.1 i hi
  exact jb_Mod_endOf (rm_end4' (fun j hj => (hm.2.2 j hj).1) hm.2.1.1 _ _ i _ _ h1 h2 (by omega) rfl rfl hk)
theorem te_M.off {h2 : jm_H} (hm : te_M h n f) (e : ∀ a b, ¬ (a = 85) → h2 a b = h a b) : te_M h2 n f :=
  ⟨by rw [e _ _ (by omega)]; exact hm.1, hm.2.1, fun j hj => by rw [e _ _ (by omega), e _ _ (by omega)]; exact hm.2.2 j hj⟩
theorem rm_needs7 {K : jm_H → Prop} (hk : ∀ h2 : jm_H, (∀ a b, ¬ (a = 85) → h2 a b = h a b) → (∀ j, j < n → h2 85 j = te_N f n j) → K h2) : ∀ (i : Nat) (x : Int) (h1 : jm_H), i ≤ n → x = (i : Int) - 1 → te_M h1 n f → (∀ j, i ≤ j → j < n → h1 85 j = te_N f n j) → (∀ a b, ¬ (a = 85) → h1 a b = h a b) → jm_BV E jm_SH jm_m_Mod_findNeeds 2 7 [some (jm_R 78), some (jm_I x), none, none, none] [] h1 K
  | 0, x, h1, hi, hx, hm, hg, hf => jb_Mod_findNeeds_7 ⟨fun _ => hk h1 hf (fun j hj => hg j (by omega) hj), fun q => by omega⟩
  | i + 1, x, h1, hi, hx, hm, hg, hf => by
    have hx2 : x = (i : Int) := by omega
    subst hx2
    have hw := hm.2.1
    have hn := hw.1
    have ht := te_S_ok hw
    have hN := te_N_ok hw
    obtain ⟨t0, t1, t2, t3⟩ := tr_parts ht (show i < n by omega)
    obtain ⟨n0, n1, n2⟩ := hN i (by omega)
    have hpt := pt_b (f i)
    have go : ∀ y : Int, y = te_N f n i → jm_BV E jm_SH jm_m_Mod_findNeeds 2 7 [some (jm_R 78), some (jm_I (jm_w32 ((i : Int) + (-1)))), none, none, none] [] (jm_up h1 85 (Int.toNat (i : Int)) y) K := fun y hy => by
      rw [jm_tn, jm_w (by omega) (by omega)]
      have e : ∀ a b, ¬ (a = 85) → jm_up h1 85 i y a b = h1 a b := fun a b z => up_o (by omega)
      refine rm_needs7 hk i _ _ (by omega) (by omega) (hm.off e) (fun j a b => ?_) (fun a b z => (e a b z).trans (hf a b z))
      by_cases ej : j = i
      · subst ej
        rw [up_s, hy]
      · rw [up_o (by omega)]
        exact hg j (by omega) b
    refine jb_Mod_findNeeds_7 ⟨fun q => by omega, fun _ => ⟨by omega, ?_⟩⟩
    rw [jm_tn, (hm.2.2 i (by omega)).1]
    refine rm_partsOf ⟨fun q => ⟨fun z => ?_, fun z => by omega⟩, fun q => ?_⟩
    · have := n0 (by omega)
      exact jb_Mod_findNeeds_59 ⟨fun _ => ⟨fun w => by omega, fun _ => ⟨by omega, go _ (by omega)⟩⟩, fun w => by omega⟩
    · have hin := t1 (by omega)
      have g1 := hg (i + 1) (by omega) hin
      have b1 := nd_b ht hN _ (i + 1) rfl hin
      have sb1 := (ht (i + 1) hin).2
      rw [jm_w (x := (i : Int) + 1) (by omega) (by omega), show (i : Int) + 1 = ((i + 1 : Nat) : Int) by omega, jm_tn, g1]
      refine ⟨by omega, fun z => ?_, fun z => ?_⟩
      · have := n1 (by omega)
        exact jb_Mod_findNeeds_59 ⟨fun _ => ⟨fun w => by omega, fun _ => ⟨by omega, go _ (by omega)⟩⟩, fun w => by omega⟩
      · refine rm_endOf hm hin ⟨by omega, ?_⟩
        obtain ⟨e1, e2⟩ := t3 (by omega)
        have e3 := n2 (by omega)
        have b2 := nd_b ht hN _ _ rfl e1
        have sb2 := (ht _ e1).2
        rw [jm_tn, hg _ (by omega) e1]
        refine jb_Mod_findNeeds_59 ⟨fun w => ?_, fun w => ⟨by omega, ?_⟩⟩
        · rw [if_neg (by omega)] at e3
          exact ⟨fun u => ⟨by omega, go _ (by omega)⟩, fun u => ⟨by omega, go _ (by omega)⟩⟩
        · rw [if_pos (by omega)] at e3
          rw [jm_w (x := (te_N f n (i + 1) : Int) + 1) (by omega) (by omega)]
          exact go _ (by omega)
theorem rm_needs {K : jm_H → Prop} (hm : te_M h n f) (hk : ∀ h2 : jm_H, (∀ a b, ¬ (a = 85) → h2 a b = h a b) → (∀ j, j < n → h2 85 j = te_N f n j) → K h2) : jm_CV E jm_SH jm_m_Mod_findNeeds 2 [jm_R 78] h K := by
  have hn := hm.2.1.1
  refine jb_Mod_findNeeds ?_
  rw [hm.1, jm_w (by omega) (by omega)]
  exact rm_needs7 hk n _ h (by omega) rfl hm (fun j a b => by omega) (fun _ _ _ => rfl)
theorem rm_isNode {x : Int} {K : Int → jm_H → Prop} (hm : te_M h n f) (k1 : 0 ≤ x ∧ x < n → K 1 h) (k0 : ¬ (0 ≤ x ∧ x < n) → K 0 h) : jm_CI E jm_SH jm_m_Mod_isNode 1 [jm_R 78, jm_I x] h K := by
  have hn := hm.2.1.1
  refine jb_Mod_isNode ?_
  rw [hm.1, jm_w (by omega) (by omega)]
  exact rm_in (fun q => ⟨Or.inr rfl, k1 (by omega)⟩) (fun q => ⟨Or.inl rfl, k0 (by omega)⟩)
theorem rc_tHas {x : Int} {K : Int → jm_H → Prop} (hc : te_C h n f) (k1 : 0 ≤ x ∧ x < n → K 1 h) (k0 : ¬ (0 ≤ x ∧ x < n) → K 0 h) : jm_CI E jm_SH jm_m_Tree_has 0 [jm_R 4, jm_I x] h K := by
  refine jb_Tree_has ?_
  rw [hc.1]
  exact ⟨fun q => k0 (by omega), fun q => ⟨fun z => k0 (by omega), fun z => k1 (by omega)⟩⟩
noncomputable def sp_node (n : Nat) (f : Nat → Int) (x y : Int) : Int := if 0 ≤ x ∧ x < n then (if y = 0 then f x.toNat else if y = 1 then wk_p f x.toNat else if y = 2 then pt_ (f x.toNat) else if y = 3 then te_S f n x.toNat else if y = 4 then te_N f n x.toNat else -2) else -1
theorem tc_node {x y : Int} {K : Int → jm_H → Prop} (hc : te_C h n f) (hk : K (sp_node n f x y) h) : jm_CI E jm_SH jm_m_Top_node 1 [jm_R 0, jm_I x, jm_I y] h K := by
  have hn := hc.2.1.1
  unfold sp_node at hk
  refine jb_Top_node (rc_tHas hc (fun q => ⟨fun _ => ?_, fun z => by omega⟩) (fun q => ⟨fun z => absurd rfl z, fun _ => by rw [if_neg q] at hk; exact hk⟩))
  rw [if_pos q] at hk
  obtain ⟨e0, e1, e2, e3⟩ := hc.2.2 x.toNat (by omega)
  rw [e0, e1, e2, e3]
  refine ⟨fun z => ⟨by omega, ?_⟩, fun z => ⟨by omega, ?_⟩, fun z => ⟨by omega, rc_partsOf ?_⟩, fun z => ⟨by omega, ?_⟩, fun z => ⟨by omega, ?_⟩, fun z => ?_⟩
  · rw [if_pos z] at hk; exact hk
  · rw [if_neg (by omega), if_pos z] at hk; exact hk
  · rw [if_neg (by omega), if_neg (by omega), if_pos z] at hk; exact hk
  · rw [if_neg (by omega), if_neg (by omega), if_neg (by omega), if_pos z] at hk; exact hk
  · rw [if_neg (by omega), if_neg (by omega), if_neg (by omega), if_neg (by omega), if_pos z] at hk; exact hk
  · rw [if_neg (by omega), if_neg (by omega), if_neg (by omega), if_neg (by omega), if_neg (by omega)] at hk; exact hk
theorem mc_node {x y : Int} {K : Int → jm_H → Prop} (hm : te_M h n f) (hk : ∀ h2, sq_ h h2 → K (sp_node n f x y) h2) : jm_CI E jm_SH jm_m_Mod_node 3 [jm_R 78, jm_I x, jm_I y] h K := by
  have hn := hm.2.1.1
  refine jb_Mod_node (rm_isNode hm (fun q => ⟨fun _ => ?_, fun z => by omega⟩) (fun q => ⟨fun z => absurd rfl z, fun _ => ?_⟩))
  · refine rm_needs hm fun h2 c1 c2 => ?_
    have hk2 := hk h2 (fun a b z => c1 a b (fun w => z (by unfold sc_; omega)))
    have hm2 := hm.off c1
    unfold sp_node at hk2
    rw [if_pos q] at hk2
    obtain ⟨e0, e1⟩ := hm2.2.2 x.toNat (by omega)
    have hs := (te_S_ok hm.2.1 x.toNat (by omega)).2
    rw [e0, e1, c2 x.toNat (by omega)]
    refine ⟨fun z => ⟨by omega, ?_⟩, fun z => ⟨by omega, ?_⟩, fun z => ⟨by omega, rm_partsOf ?_⟩, fun z => ?_, fun z => ⟨by omega, ?_⟩, fun z => ?_⟩
    · rw [if_pos z] at hk2; exact hk2
    · rw [if_neg (by omega), if_pos z] at hk2; exact hk2
    · rw [if_neg (by omega), if_neg (by omega), if_pos z] at hk2; exact hk2
    · rw [if_neg (by omega), if_neg (by omega), if_neg (by omega), if_pos z] at hk2
      obtain ⟨i, rfl⟩ : ∃ i : Nat, x = i := ⟨x.toNat, by omega⟩
      refine rm_endOf hm2 (by omega) ?_
      rw [jm_tn] at hk2 hs
      rw [jm_w (by omega) (by omega), show ((i + te_S f n i : Nat) : Int) - (i : Int) = te_S f n i by omega]
      exact hk2
    · rw [if_neg (by omega), if_neg (by omega), if_neg (by omega), if_neg (by omega), if_pos z] at hk2; exact hk2
    · rw [if_neg (by omega), if_neg (by omega), if_neg (by omega), if_neg (by omega), if_neg (by omega)] at hk2; exact hk2
  · have := hk h sq_.rf
    unfold sp_node at this
    rw [if_neg q] at this
    exact this
end NO
