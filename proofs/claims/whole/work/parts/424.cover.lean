/-! COVER and CODE, both sides -/
noncomputable def cb_ (n m : Nat) (f : Nat → Int) (g : Nat → Nat → Int) (L : Nat → Nat) (a b : Nat) : Int := (cv_ n m f g L n a b).2.2
noncomputable def pb_ (n m : Nat) (f : Nat → Int) (g : Nat → Nat → Int) (L : Nat → Nat) (a b : Nat) : Int := (cv_ n m f g L n a b).1.2
noncomputable def cs_l (n m : Nat) (f : Nat → Int) (g : Nat → Nat → Int) (L : Nat → Nat) : List (Nat × Nat) := if n = 0 ∨ cb_ n m f g L 0 0 < 0 then [] else tl_ g L (cb_ n m f g L) (cd_ (te_S f n) g L (pb_ n m f g L) (cb_ n m f g L) n) 0 0
/-- what the class keeps of it -/
def cs_C (h : jm_H) (n m : Nat) (f : Nat → Int) (g : Nat → Nat → Int) (L : Nat → Nat) : Prop := h 30 9 = 0 → cv_C h n m f g L n ∧ cl_C h (cs_l n m f g L)
/-- a tree as it is read -/
def tg_w (n : Nat) (f : Nat → Int) : Prop := n = 0 ∨ wk_ 0 f n 0 (some []) = -6
theorem cs_len {n m : Nat} {f : Nat → Int} {g : Nat → Nat → Int} {L : Nat → Nat} (hw : te_w n f) (ho : pa_ok m g L) : (cs_l n m f g L).length ≤ 60 := by
  unfold cs_l
  by_cases q : n = 0 ∨ cb_ n m f g L 0 0 < 0
  · rw [if_pos q]; simp
  · rw [if_neg q]
    have ht := te_S_ok hw
    have h0 : 0 < n := by omega
    have hS := (ht 0 h0).2
    have := tl_len ht ho (cv_cq (n := n) (f := f) ho) (k := n) h0 (show 0 < 2 by omega) (show 0 ≤ cb_ n m f g L 0 0 by omega) (by omega)
    have h30 := hw.1
    have e : (tl_ g L (cb_ n m f g L) (cd_ (te_S f n) g L (pb_ n m f g L) (cb_ n m f g L) n) 0 0).length ≤ 2 * te_S f n 0 := this
    omega
theorem cs_ne {n m : Nat} {f : Nat → Int} {g : Nat → Nat → Int} {L : Nat → Nat} (hn : 0 < n) (hc : 0 ≤ cb_ n m f g L 0 0) : 0 < (cs_l n m f g L).length := by
  unfold cs_l
  rw [if_neg (by omega)]
  unfold tl_
  split
  · simp
  · obtain ⟨k, rfl⟩ : ∃ k, n = k + 1 := ⟨n - 1, by omega⟩
    unfold cd_
    simp
section CO
variable {E : jm_Env} {h : jm_H} {n m : Nat} {f : Nat → Int} {g : Nat → Nat → Int} {L : Nat → Nat}
theorem rc_refresh {K : jm_H → Prop} (hc : te_C h n f) (hp : pa_C h m g L) (ho : pa_ok m g L) (hw : tg_w n f) (hs : cs_C h n m f g L) (hk : ∀ h2 : jm_H, (∀ u v, ¬ (30 ≤ u ∧ u ≤ 36) → h2 u v = h u v) → h2 30 9 = 0 → cv_C h2 n m f g L n → cl_C h2 (cs_l n m f g L) → K h2) : jm_CV E jm_SH jm_m_Covering_refresh 33 [jm_R 30] h K := by
  have hn := hc.2.1.1
  refine jb_Covering_refresh ⟨fun q => ?_, fun q => hk h (fun _ _ _ => rfl) q (hs q).1 (hs q).2⟩
  rw [hc.1, jm_w (by omega) (by omega)]
  have f0 : ∀ u v, ¬ (u = 30 ∧ v = 9) → jm_up h 30 9 0 u v = h u v := fun u v z => up_o z
  refine rc_refresh23 (h := jm_up h 30 9 0) ho (fun h2 c1 c2 => ⟨fun e => ?_, fun e => ?_⟩) n 0 _ _ (by omega) rfl (hc.fr fun u v z1 z2 => f0 u v (by omega)) (hp.fr fun u v z1 z2 => f0 u v (by omega)) (fun a b z1 z2 z3 => by omega) (fun _ _ _ => rfl)
  · refine hk _ (fun u v z => ?_) ?_ (fun a b z1 z2 z3 => by omega) ⟨?_, fun j x hx => ?_⟩
    · rw [up_o (by omega), c1 u v (by omega), f0 u v (by omega)]
    · rw [up_o (by omega), c1 _ _ (by omega), up_s]
    · unfold cs_l
      rw [if_pos (Or.inl e), up_s]
      rfl
    · unfold cs_l at hx
      rw [if_pos (Or.inl e)] at hx
      simp at hx
  · have fr : ∀ u v, ¬ (30 ≤ u ∧ u ≤ 36) → jm_up h2 30 8 0 u v = h u v := fun u v z => by rw [up_o (by omega), c1 u v (by omega), f0 u v (by omega)]
    have h9 : jm_up h2 30 8 0 30 9 = 0 := by rw [up_o (by omega), c1 _ _ (by omega), up_s]
    have hc2 := hc.fr (h2 := jm_up h2 30 8 0) fun u v z1 z2 => fr u v (by omega)
    have hp2 := hp.fr (h2 := jm_up h2 30 8 0) fun u v z1 z2 => fr u v (by omega)
    have hcv : cv_C (jm_up h2 30 8 0) n m f g L n := fun a b z1 z2 z3 => by
      rw [up_o (by omega), up_o (by omega), up_o (by omega), up_o (by omega)]
      exact c2 a b z1 z2 z3
    have hl0 : cl_C (jm_up h2 30 8 0) [] := ⟨by rw [up_s]; rfl, fun j x hx => by simp at hx⟩
    have h0 : wk_ 0 f n 0 (some []) = -6 := by
      rcases hw with z | z
      · omega
      · exact z
    have ht := te_S_ok hc.2.1
    have hdp : ∀ i, i < n → dp_ f i ≤ 12 := fun i hi => (dp_12 h0 i (by omega)).2
    have hsp : sp_ f n 1 0 := by
      rcases hc.2.1.2 with z | z
      · omega
      · exact z
    have hq := cv_cq (n := n) (f := f) ho
    have hT : tk_C (jm_up h2 30 8 0) n m f g L (pb_ n m f g L) (cb_ n m f g L) := ⟨hc2, hp2, fun a b ha hb => ⟨(hcv a b (by omega) ha hb).2.1, (hcv a b (by omega) ha hb).2.2.2⟩⟩
    have hS := (ht 0 e).2
    by_cases cc : cb_ n m f g L 0 0 < 0
    · refine jb_Covering_tell (dr := 31) (by omega) (by omega) (rc_at (a := 0) (b := 0) (by omega) (by omega) ⟨by omega, ?_⟩)
      have v2 : jm_up h2 30 8 0 34 (Int.toNat ((2 * 0 + 0 : Nat) : Int)) = cb_ n m f g L 0 0 := (hT.2.2 0 0 e (by omega)).2
      rw [v2]
      refine ⟨fun w => by omega, fun _ => hk _ fr h9 hcv ?_⟩
      unfold cs_l
      rw [if_pos (Or.inr cc)]
      exact hl0
    · refine rc_tell (a := 0) (b := 0) (x3 := 0) (k := n) (l := []) hdp hq ⟨hT, hl0, e, by omega, by simp; omega, by omega, by omega⟩ (by show 0 ≤ cb_ n m f g L 0 0; omega) (by omega) (fun b h5 d5 K5 z1 z2 z3 z4 => rc_tellPlain hsp hdp ho hq n 0 b 0 [] h5 d5 K5 z1 z2 (by omega) z3 z4) (fun b z1 z2 => cd_len ht ho hq n 0 b e z1 z2 (by omega)) (fun h3 d1 d2 => ?_)
      refine hk h3 (fun u v z => ?_) ?_ (fun a b z1 z2 z3 => ?_) ?_
      · rw [d2 u v (by omega), fr u v z]
      · rw [d2 _ _ (by omega), h9]
      · rw [d2 _ _ (by omega), d2 _ _ (by omega), d2 _ _ (by omega), d2 _ _ (by omega)]
        exact hcv a b z1 z2 z3
      · unfold cs_l
        rw [if_neg (by omega)]
        exact d1
/-- what cover answers -/
def sp_cover (n m : Nat) (f : Nat → Int) (g : Nat → Nat → Int) (L : Nat → Nat) (x1 x2 x3 v : Int) : Prop :=
  (¬ (0 ≤ x1 ∧ x1 < n) → v = -1) ∧ (0 ≤ x1 ∧ x1 < n → ¬ ((x2 = 0 ∨ x2 = 1) ∧ (x3 = 0 ∨ x3 = 1)) → v = -2) ∧ (0 ≤ x1 ∧ x1 < n → (x2 = 0 ∨ x2 = 1) → (x3 = 0 ∨ x3 = 1) → (cb_ n m f g L x1.toNat x2.toNat < 0 → v = -6) ∧ (0 ≤ cb_ n m f g L x1.toNat x2.toNat → (x3 = 0 → v = (cv_ n m f g L n x1.toNat x2.toNat).2.1) ∧ (¬ x3 = 0 → v = cb_ n m f g L x1.toNat x2.toNat)))
theorem tc_cover {x1 x2 x3 v : Int} {K : Int → jm_H → Prop} (hc : te_C h n f) (hp : pa_C h m g L) (ho : pa_ok m g L) (hw : tg_w n f) (hs : cs_C h n m f g L) (hv : sp_cover n m f g L x1 x2 x3 v) (hk : ∀ h2 : jm_H, (∀ u w, ¬ (30 ≤ u ∧ u ≤ 36) → h2 u w = h u w) → cs_C h2 n m f g L → K v h2) : jm_CI E jm_SH jm_m_Top_cover 34 [jm_R 0, jm_I x1, jm_I x2, jm_I x3] h K := by
  obtain ⟨v1, v2, v3⟩ := hv
  have k0 := hk h (fun _ _ _ => rfl) hs
  have hn := hc.2.1.1
  refine jb_Top_cover (rc_tHas hc (fun q => ⟨fun _ => ?_, fun z => by omega⟩) (fun q => ⟨fun z => absurd rfl z, fun _ => by rw [← v1 q]; exact k0⟩))
  refine rc_isHead (fun q2 => ⟨fun z => by omega, fun _ => ?_⟩) (fun q2 => ⟨fun _ => by rw [← v2 q (fun z => q2 z.1)]; exact k0, fun z => absurd rfl z⟩)
  refine rc_isBit (fun q3 => ⟨fun _ => ?_, fun z => by omega⟩) (fun q3 => ⟨fun z => absurd rfl z, fun _ => by rw [← v2 q (fun z => q3 z.2)]; exact k0⟩)
  obtain ⟨w1, w2⟩ := v3 q q2 q3
  refine rc_refresh hc hp ho hw hs fun h2 c1 c2 c3 c4 => ?_
  have kk := hk h2 c1 (fun _ => ⟨c3, c4⟩)
  obtain ⟨a, rfl⟩ : ∃ a : Nat, x1 = a := ⟨x1.toNat, by omega⟩
  obtain ⟨b, rfl⟩ : ∃ b : Nat, x2 = b := ⟨x2.toNat, by omega⟩
  rw [jm_tn, jm_tn] at w1 w2
  refine rc_at (by omega) (by omega) ⟨by omega, ?_⟩
  obtain ⟨-, -, e3, e4⟩ := c3 a b (by omega) (by omega) (by omega)
  rw [jm_tn, e3, e4]
  refine ⟨fun z => ⟨fun y => ⟨by omega, ?_⟩, fun y => ⟨by omega, ?_⟩⟩, fun z => ?_⟩
  · have := (w2 z).2 y
    unfold cb_ at this
    rw [← this]; exact kk
  · rw [← (w2 z).1 y]; exact kk
  · rw [← w1 (by unfold cb_; omega)]; exact kk
theorem mc_cover {x1 x2 x3 v : Int} {K : Int → jm_H → Prop} (hc : te_M h n f) (hp : pa_M h m g L) (ho : pa_ok m g L) (hv : sp_cover n m f g L x1 x2 x3 v) (hk : ∀ h2 : jm_H, sq_ h h2 → K v h2) : jm_CI E jm_SH jm_m_Mod_cover 4 [jm_R 78, jm_I x1, jm_I x2, jm_I x3] h K := by
  obtain ⟨v1, v2, v3⟩ := hv
  have k0 := hk h sq_.rf
  have hn := hc.2.1.1
  refine jb_Mod_cover (rm_isNode hc (fun q => ⟨fun _ => ?_, fun z => by omega⟩) (fun q => ⟨fun z => absurd rfl z, fun _ => by rw [← v1 q]; exact k0⟩))
  refine rm_isHead (fun q2 => ⟨fun z => by omega, fun _ => ?_⟩) (fun q2 => ⟨fun _ => by rw [← v2 q (fun z => q2 z.1)]; exact k0, fun z => absurd rfl z⟩)
  refine rm_in (fun q3 => ⟨fun _ => ?_, fun z => by omega⟩) (fun q3 => ⟨fun z => absurd rfl z, fun _ => by rw [← v2 q (fun z => q3 (by omega))]; exact k0⟩)
  obtain ⟨w1, w2⟩ := v3 q q2 (by omega)
  refine rm_findCover hc hp ho fun h2 c1 c2 => ?_
  have kk := hk h2 (fun a b z => c1 a b (fun w => z (by unfold sc_; omega)))
  obtain ⟨a, rfl⟩ : ∃ a : Nat, x1 = a := ⟨x1.toNat, by omega⟩
  obtain ⟨b, rfl⟩ : ∃ b : Nat, x2 = b := ⟨x2.toNat, by omega⟩
  rw [jm_tn, jm_tn] at w1 w2
  rw [jm_w (x := 2 * (a : Int)) (by omega) (by omega), jm_w (x := 2 * (a : Int) + b) (by omega) (by omega), show 2 * (a : Int) + b = ((2 * a + b : Nat) : Int) by omega, jm_tn]
  obtain ⟨-, -, e3, e4⟩ := c2.1 a b (by omega) (by omega) (by omega)
  rw [e3, e4]
  refine ⟨by omega, fun z => ⟨fun y => ⟨by omega, ?_⟩, fun y => ⟨by omega, ?_⟩⟩, fun z => ?_⟩
  all_goals unfold nb_ at z
  · have z2 : 0 ≤ cb_ n m f g L a b := by
      unfold cb_
      split at z <;> omega
    rw [nb_p (show 0 ≤ (cv_ n m f g L n a b).2.2 from z2)]
    have := (w2 z2).2 y
    unfold cb_ at this
    rw [← this]; exact kk
  · have z2 : 0 ≤ cb_ n m f g L a b := by
      unfold cb_
      split at z <;> omega
    rw [← (w2 z2).1 y]; exact kk
  · have z2 : cb_ n m f g L a b < 0 := by
      unfold cb_
      split at z <;> omega
    rw [← w1 z2]; exact kk
/-- what code answers -/
def sp_code (n m : Nat) (f : Nat → Int) (g : Nat → Nat → Int) (L : Nat → Nat) (x1 x2 v : Int) : Prop :=
  (¬ (x2 = 0 ∨ x2 = 1) → v = -2) ∧ ((x2 = 0 ∨ x2 = 1) → n = 0 → v = -3) ∧ ((x2 = 0 ∨ x2 = 1) → 0 < n → (cb_ n m f g L 0 0 < 0 → v = -5) ∧ (0 ≤ cb_ n m f g L 0 0 → (x1 = -1 → v = (cs_l n m f g L).length) ∧ (¬ x1 = -1 → ¬ (0 ≤ x1 ∧ x1 < (cs_l n m f g L).length) → v = -6) ∧ ∀ y, (cs_l n m f g L)[x1.toNat]? = some y → 0 ≤ x1 → (x2 = 0 → v = (y.1 : Int)) ∧ (¬ x2 = 0 → v = (y.2 : Int))))
theorem tc_code {x1 x2 v : Int} {K : Int → jm_H → Prop} (hc : te_C h n f) (hp : pa_C h m g L) (ho : pa_ok m g L) (hw : tg_w n f) (hs : cs_C h n m f g L) (hv : sp_code n m f g L x1 x2 v) (hk : ∀ h2 : jm_H, (∀ u w, ¬ (30 ≤ u ∧ u ≤ 36) → h2 u w = h u w) → cs_C h2 n m f g L → K v h2) : jm_CI E jm_SH jm_m_Top_code 34 [jm_R 0, jm_I x1, jm_I x2] h K := by
  obtain ⟨v1, v2, v3⟩ := hv
  have k0 := hk h (fun _ _ _ => rfl) hs
  have hn := hc.2.1.1
  have hlen := cs_len (m := m) (g := g) (L := L) hc.2.1 ho
  refine jb_Top_code (rc_isBit (fun q => ⟨fun _ => ?_, fun z => by omega⟩) (fun q => ⟨fun z => absurd rfl z, fun _ => by rw [← v1 q]; exact k0⟩))
  rw [hc.1]
  refine ⟨fun q2 => ?_, fun q2 => by rw [← v2 q (by omega)]; exact k0⟩
  obtain ⟨w1, w2⟩ := v3 q (by omega)
  refine rc_refresh hc hp ho hw hs fun h2 c1 c2 c3 c4 => ?_
  have kk := hk h2 c1 (fun _ => ⟨c3, c4⟩)
  rw [c4.1]
  by_cases cc : cb_ n m f g L 0 0 < 0
  · have e : (cs_l n m f g L).length = 0 := by
      unfold cs_l
      rw [if_pos (Or.inr cc)]
      rfl
    rw [e]
    refine ⟨fun z => absurd rfl z, fun _ => ?_⟩
    rw [← w1 cc]; exact kk
  · have hne := cs_ne (m := m) (f := f) (g := g) (L := L) (show 0 < n by omega) (by omega)
    obtain ⟨u1, u2, u3⟩ := w2 (by omega)
    refine ⟨fun _ => ⟨fun y => ⟨fun z => ?_, fun z => ⟨fun z2 => ?_, fun z2 => ?_⟩⟩, fun y => ?_⟩, fun z => by omega⟩
    · rw [← u2 y (by omega)]; exact kk
    · have hl : x1.toNat < (cs_l n m f g L).length := by omega
      have e := List.getElem?_eq_getElem hl
      obtain ⟨e1, e2⟩ := c4.2 _ _ e
      rw [e1, e2]
      obtain ⟨t1, t2⟩ := u3 _ e (by omega)
      exact ⟨fun y2 => ⟨by omega, by rw [← t2 y2]; exact kk⟩, fun y2 => ⟨by omega, by rw [← t1 y2]; exact kk⟩⟩
    · rw [← u2 y (by omega)]; exact kk
    · rw [← u1 y]; exact kk
theorem mc_code {x1 x2 v : Int} {K : Int → jm_H → Prop} (hc : te_M h n f) (hp : pa_M h m g L) (ho : pa_ok m g L) (hv : sp_code n m f g L x1 x2 v) (hk : ∀ h2 : jm_H, sq_ h h2 → K v h2) : jm_CI E jm_SH jm_m_Mod_code 4 [jm_R 78, jm_I x1, jm_I x2] h K := by
  obtain ⟨v1, v2, v3⟩ := hv
  have k0 := hk h sq_.rf
  have hn := hc.2.1.1
  have hlen := cs_len (m := m) (g := g) (L := L) hc.2.1 ho
  refine jb_Mod_code (rm_in (fun q => ⟨fun _ => ?_, fun z => by omega⟩) (fun q => ⟨fun z => absurd rfl z, fun _ => by rw [← v1 (by omega)]; exact k0⟩))
  rw [hc.1]
  refine ⟨fun q2 => ?_, fun q2 => by rw [← v2 (by omega) (by omega)]; exact k0⟩
  obtain ⟨w1, w2⟩ := v3 (by omega) (by omega)
  refine rm_findCover hc hp ho fun h2 c1 c2 => ?_
  have s2 : sq_ h h2 := fun a b z => c1 a b (fun w => z (by unfold sc_; omega))
  have kk := hk h2 s2
  have hc2 := hc.fr (h2 := h2) fun u v z => c1 u v (by omega)
  have hp2 := hp.fr (h2 := h2) fun u v z => c1 u v (by omega)
  have hT : tk_M h2 n m f g L (pb_ n m f g L) (cb_ n m f g L) := ⟨hc2, hp2, fun a b ha hb => ⟨(c2.1 a b (by omega) ha hb).2.1, (c2.1 a b (by omega) ha hb).2.2.2⟩⟩
  have e93 : h2 93 0 = nb_ (cb_ n m f g L 0 0) := (hT.2.2 0 0 (by omega) (by omega)).2
  rw [e93]
  by_cases cc : cb_ n m f g L 0 0 < 0
  · rw [nb_n cc]
    refine ⟨fun z => by omega, fun _ => ?_⟩
    rw [← w1 cc]; exact kk
  · rw [nb_p (by omega)]
    refine ⟨fun _ => ?_, fun z => by omega⟩
    obtain ⟨u1, u2, u3⟩ := w2 (by omega)
    refine rm_findCode ho (cv_cq (n := n) (f := f) ho) hT (by omega) (show 0 ≤ cb_ n m f g L 0 0 by omega) fun h3 d1 d2 => ?_
    have d1' : cl_M h3 (cs_l n m f g L) := by
      unfold cs_l
      rw [if_neg (by omega)]
      exact d1
    have kk3 := hk h3 (s2.tr fun a b z => d2 a b (fun w => z (by unfold sc_; omega)))
    rw [d1'.1, jm_w (by omega) (by omega)]
    refine ⟨fun y => rm_in (fun z => ⟨fun _ => ?_, fun z2 => by omega⟩) (fun z => ⟨fun z2 => absurd rfl z2, fun _ => ?_⟩), fun y => ?_⟩
    · have hl : x1.toNat < (cs_l n m f g L).length := by omega
      have e := List.getElem?_eq_getElem hl
      obtain ⟨e1, e2⟩ := d1'.2 _ _ e
      rw [e1, e2]
      obtain ⟨t1, t2⟩ := u3 _ e (by omega)
      exact ⟨fun y2 => ⟨by omega, by rw [← t2 y2]; exact kk3⟩, fun y2 => ⟨by omega, by rw [← t1 y2]; exact kk3⟩⟩
    · rw [← u2 y (by omega)]; exact kk3
    · rw [← u1 y]; exact kk3
end CO
