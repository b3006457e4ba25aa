/-! calls that read the row: both sides, one answer -/
/-- places that nothing keeps -/
def sc_ (a b : Nat) : Prop := a = 3 ∨ a = 45 ∨ a = 46 ∨ a = 57 ∨ a = 58 ∨ a = 60 ∨ (a = 56 ∧ (b = 4 ∨ b = 5)) ∨ (82 ≤ a ∧ a ≤ 85) ∨ (90 ≤ a ∧ a ≤ 98) ∨ (105 ≤ a ∧ a ≤ 114) ∨ (a = 78 ∧ (b = 8 ∨ b = 22 ∨ b = 25 ∨ b = 36))
def sq_ (h h2 : jm_H) : Prop := ∀ a b, ¬ sc_ a b → h2 a b = h a b
theorem sq_.rf {h : jm_H} : sq_ h h := fun _ _ _ => rfl
theorem sq_.tr {h h1 h2 : jm_H} (p : sq_ h h1) (q : sq_ h1 h2) : sq_ h h2 := fun a b z => (q a b z).trans (p a b z)
theorem sq_up {h : jm_H} {a b : Nat} {x : Int} (hs : ∀ c, c = b → sc_ a c) : sq_ h (jm_up h a b x) := by
  intro u v z
  unfold jm_up
  by_cases e : u = a
  · rw [if_pos e]
    by_cases e2 : v = b
    · subst e
      exact absurd (hs v e2) z
    · rw [if_neg e2]
  · rw [if_neg e]
theorem rw_C.sq {h h2 : jm_H} {n : Nat} {r : Nat → Nat → Int} (hr : rw_C h n r) (q : sq_ h h2) : rw_C h2 n r := hr.off fun a b z => q a b (by unfold sc_; omega)
theorem rw_M.sq {h h2 : jm_H} {n : Nat} {r : Nat → Nat → Int} (hr : rw_M h n r) (q : sq_ h h2) : rw_M h2 n r := hr.off fun a b z => q a b (by unfold sc_; omega)
/-- is there an instruction x -/
def rw_in (n : Nat) (x : Int) : Prop := 0 ≤ x ∧ x < n
section RD
variable {E : jm_Env} {h : jm_H} {n : Nat} {r : Nat → Nat → Int} {kp : Int}
theorem rc_has {x : Int} {K : Int → jm_H → Prop} (hr : rw_C h n r) (k1 : 0 ≤ x ∧ x < n → K 1 h) (k0 : ¬ (0 ≤ x ∧ x < n) → K 0 h) : jm_CI E jm_SH jm_m_Row_has 0 [jm_R 37, jm_I x] h K := by
  refine jb_Row_has ?_
  rw [hr.1]
  exact ⟨fun q => k0 (by omega), fun q => ⟨fun z => k0 (by omega), fun z => k1 (by omega)⟩⟩
theorem rm_in {x a b : Int} {K : Int → jm_H → Prop} (k1 : a ≤ x ∧ x ≤ b → K 1 h) (k0 : ¬ (a ≤ x ∧ x ≤ b) → K 0 h) : jm_CI E jm_SH jm_m_Mod_in 0 [jm_L x, jm_L a, jm_L b] h K := by
  have e1 : jv_lcmp x a < 0 ↔ x < a := by
    unfold jv_lcmp
    split
    · omega
    · split <;> omega
  have e2 : 0 < jv_lcmp x b ↔ b < x := by
    unfold jv_lcmp
    split
    · omega
    · split <;> omega
  refine jb_Mod_in ⟨fun q => k0 ?_, fun q => ⟨fun z => k0 ?_, fun z => k1 ?_⟩⟩
  · rw [e1] at q; omega
  · rw [e2] at z; omega
  · rw [e1] at q; rw [e2] at z; omega
theorem rm_isIns {x : Int} {K : Int → jm_H → Prop} (hr : rw_M h n r) (k1 : 0 ≤ x ∧ x < n → K 1 h) (k0 : ¬ (0 ≤ x ∧ x < n) → K 0 h) : jm_CI E jm_SH jm_m_Mod_isInstruction 1 [jm_R 78, jm_I x] h K := by
  have hn := hr.2.1
  refine jb_Mod_isInstruction ?_
  rw [hr.1, jm_w (by omega) (by omega)]
  exact rm_in (fun q => ⟨Or.inr rfl, k1 (by omega)⟩) (fun q => ⟨Or.inl rfl, k0 (by omega)⟩)
theorem rm_lead {i k : Nat} {K : Int → jm_H → Prop} (hr : rw_M h n r) (hi : i < n) (hk : k < n) (k1 : rw_cl r i k → K 1 h) (k0 : ¬ rw_cl r i k → K 0 h) : jm_CI E jm_SH jm_m_Mod_mustLead 1 [jm_R 78, jm_I i, jm_I k] h K := by
  have hn := hr.2.1
  have e1 := (hr.2.2 i hi).2.1
  have f1 := (hr.2.2 k hk).2.1
  refine jb_Mod_mustLead ⟨by omega, by omega, ?_⟩
  rw [jm_tn, jm_tn, e1, f1]
  refine ⟨fun q => k1 (Or.inl q), fun q => ⟨by omega, ?_⟩⟩
  refine rm_uses hr hk (fun u => ⟨fun _ => k1 (Or.inr (Or.inl u)), fun z => by omega⟩) (fun u => ⟨fun z => absurd rfl z, fun _ => ⟨by omega, ?_⟩⟩)
  rw [f1]
  refine rm_uses hr hi (fun v => ⟨fun z => by omega, fun _ => k1 (Or.inr (Or.inr v))⟩) (fun v => ⟨fun _ => k0 ?_, fun z => absurd rfl z⟩)
  rintro (z | z | z)
  · exact q z
  · exact u z
  · exact v z
/-! the reference's end as written -/
theorem od_id_at (r : Nat → Nat → Int) (c : Nat → Int) (p : Nat) : od_at r (fun q => q) c p = rw_at r c p := by
  unfold od_at rw_at rw_s1 rw_s2
  by_cases q : r 0 p < 5
  · rw [if_pos q, if_pos q]
    rfl
  · rw [if_neg q, if_neg q]
    rfl
theorem rm_end4 {K : Int → jm_H → Prop} (ho : rw_ok n r) (hk : ∀ h2 : jm_H, sq_ h h2 → (∀ j, j < n → h2 106 j = rw_cy r n j) → K (rw_end (rw_cy r n) (r 4) n) h2) : ∀ (m i : Nat) (x1 x2 : Int) (h1 : jm_H), m + i = n → x2 = i → x1 = rw_end (rw_cy r n) (r 4) i → rw_M h1 n r → (∀ j, j < i → h1 105 j = (j : Int) ∧ h1 106 j = rw_cy r n j) → sq_ h h1 → jm_BI E jm_SH jm_m_Mod_endAsWritten 2 4 [some (jm_R 78), some (jm_I x1), some (jm_I x2)] [] h1 K
  | 0, i, x1, x2, h1, hm, h2, hx, hr, hc, hs => by
    subst h2
    refine jb_Mod_endAsWritten_4 ⟨fun q => ?_, fun q => by rw [hr.1] at q; omega⟩
    have : i = n := by omega
    subst this
    rw [hx]
    exact hk h1 hs (fun j hj => (hc j hj).2)
  | m + 1, i, x1, x2, h1, hm, h2, hx, hr, hc, hs => by
    have hn := hr.2.1
    subst h2
    have hin : i < n := by omega
    refine jb_Mod_endAsWritten_4 ⟨fun q => by rw [hr.1] at q; omega, fun q => ⟨by omega, ?_⟩⟩
    rw [jm_tn]
    have hb : ∀ j, j < i → 0 ≤ rw_cy r n j ∧ rw_cy r n j ≤ 72 := fun j hj => by
      have := rw_cy_lt ho n (by omega) j (by omega)
      omega
    have hq1 : sq_ h1 (jm_up h1 105 i (i : Int)) := sq_up fun _ _ => by unfold sc_; omega
    have hr1 := hr.sq hq1
    refine rm_start (o := fun q => q) (c := rw_cy r n) (b := 72) hr1 ho (by omega) (fun q hq => by omega) ⟨by simp [jm_up], fun q hq => ⟨?_, ?_⟩⟩ hb (by omega) ?_
    · simp only [jm_up, if_true, if_neg (Nat.ne_of_lt hq)]
      exact (hc q hq).1
    · show jm_up h1 105 i i 106 q = _
      unfold jm_up
      rw [if_neg (by omega)]
      exact (hc q hq).2
    · have ev : od_at r (fun q => q) (rw_cy r n) i = rw_cy r n i := by
        rw [od_id_at, rw_cy_step (show i < i + 1 by omega) (show i + 1 ≤ n by omega)]
        show _ = if i = i then _ else _
        rw [if_pos rfl]
        exact rw_at_congr fun j hj => rw_cy_step hj (by omega)
      rw [ev]
      have hw := (ho i hin).2.2.2.2.1
      have hcb := rw_cy_lt ho n (by omega) i hin
      have e103 : jm_up h1 105 i (i : Int) 103 i = r 4 i := (hr1.2.2 i hin).2.2.2.2.1
      have e106 : jm_up (jm_up h1 105 i (i : Int)) 106 i (rw_cy r n i) 106 i = rw_cy r n i := by simp [jm_up]
      rw [e103, e106, jm_w (by omega) (by omega), jm_w (by omega) (by omega)]
      have hq2 : sq_ (jm_up h1 105 i (i : Int)) (jm_up (jm_up h1 105 i (i : Int)) 106 i (rw_cy r n i)) := sq_up fun _ _ => by unfold sc_; omega
      have go : ∀ x : Int, x = rw_end (rw_cy r n) (r 4) (i + 1) → jm_BI E jm_SH jm_m_Mod_endAsWritten 2 4 [some (jm_R 78), some (jm_I x), some (jm_I ((i : Int) + 1))] [] (jm_up (jm_up h1 105 i (i : Int)) 106 i (rw_cy r n i)) K := fun x hx => by
        refine rm_end4 ho hk m (i + 1) _ _ _ (by omega) (by omega) hx (hr1.sq hq2) (fun j hj => ?_) ((hs.tr hq1).tr hq2)
        by_cases e : j = i
        · subst e
          simp [jm_up]
        · obtain ⟨a1, a2⟩ := hc j (by omega)
          simp [jm_up, e, a1, a2]
      refine ⟨by omega, by omega, by omega, fun z => go _ ?_, fun z => ⟨by omega, by omega, go _ ?_⟩⟩
      · show _ = max _ _
        rw [← hx]
        omega
      · show _ = max _ _
        rw [← hx]
        omega
theorem rm_end {K : Int → jm_H → Prop} (hr : rw_M h n r) (ho : rw_ok n r) (hk : ∀ h2 : jm_H, sq_ h h2 → (∀ j, j < n → h2 106 j = rw_cy r n j) → K (rw_end (rw_cy r n) (r 4) n) h2) : jm_CI E jm_SH jm_m_Mod_endAsWritten 2 [jm_R 78] h K :=
  jb_Mod_endAsWritten (rm_end4 ho hk n 0 _ _ h rfl rfl rfl hr (fun j hj => by omega) sq_.rf)
/-! the public calls -/
def sp_about (n : Nat) (r : Nat → Nat → Int) (x y : Int) : Int := if 0 ≤ x ∧ x < n then (if y < 0 ∨ 5 < y then -2 else if y = 5 then rw_cy r n x.toNat else r y.toNat x.toNat) else -1
theorem tc_about {x y : Int} {K : Int → jm_H → Prop} (hr : rw_C h n r) (ho : rw_ok n r) (hk : ∀ h2, sq_ h h2 → K (sp_about n r x y) h2) : jm_CI E jm_SH jm_m_Top_about 4 [jm_R 0, jm_I x, jm_I y] h K := by
  have hn := hr.2.1
  refine jb_Top_about (rc_has hr (fun q => ⟨fun _ => ⟨fun z => ?_, fun z => ⟨fun u => ⟨fun w => ⟨by omega, by omega, ?_⟩, fun w => ?_⟩, fun u => ?_⟩⟩, fun z => by omega⟩) (fun q => ⟨fun z => absurd rfl z, fun _ => ?_⟩))
  · have := hk h sq_.rf
    unfold sp_about at this
    rw [if_pos q, if_pos (by omega)] at this
    exact this
  · have := hk h sq_.rf
    unfold sp_about at this
    rw [if_pos q, if_neg (by omega), if_neg w] at this
    obtain ⟨e0, e1, e2, e3, e4, -⟩ := hr.2.2 x.toNat (by omega)
    rcases (show y = 0 ∨ y = 1 ∨ y = 2 ∨ y = 3 ∨ y = 4 by omega) with rfl | rfl | rfl | rfl | rfl
    · exact e0 ▸ this
    · exact e1 ▸ this
    · exact e2 ▸ this
    · exact e3 ▸ this
    · exact e4 ▸ this
  · obtain ⟨i, rfl⟩ : ∃ i : Nat, x = i := ⟨x.toNat, by omega⟩
    refine rc_cycleOf hr ho (by omega) fun h2 e => ?_
    have := hk h2 (fun a b z => e a b (fun w => z (by unfold sc_; omega)))
    unfold sp_about at this
    rw [if_pos q, if_neg (by omega), if_pos w] at this
    exact this
  · have := hk h sq_.rf
    unfold sp_about at this
    rw [if_pos q, if_pos (by omega)] at this
    exact this
  · have := hk h sq_.rf
    unfold sp_about at this
    rw [if_neg q] at this
    exact this
theorem mc_about {x y : Int} {K : Int → jm_H → Prop} (hr : rw_M h n r) (ho : rw_ok n r) (hk : ∀ h2, sq_ h h2 → K (sp_about n r x y) h2) : jm_CI E jm_SH jm_m_Mod_about 3 [jm_R 78, jm_I x, jm_I y] h K := by
  have hn := hr.2.1
  refine jb_Mod_about (rm_isIns hr (fun q => ⟨fun _ => ?_, fun z => by omega⟩) (fun q => ⟨fun z => absurd rfl z, fun _ => ?_⟩))
  · obtain ⟨e0, e1, e2, e3, e4, -⟩ := hr.2.2 x.toNat (by omega)
    have hb : 0 ≤ x ∧ x < 12 := by omega
    have h0 : ∀ z : Nat, z < 5 → y = z → K (r z x.toNat) h := fun z hz hy => by
      have := hk h sq_.rf
      unfold sp_about at this
      rw [if_pos q, if_neg (by omega), if_neg (by omega), hy, jm_tn] at this
      exact this
    refine ⟨fun z => ⟨hb, e0 ▸ h0 0 (by omega) z⟩, fun z => ⟨hb, e1 ▸ h0 1 (by omega) z⟩, fun z => ⟨hb, e2 ▸ h0 2 (by omega) z⟩, fun z => ⟨hb, e3 ▸ h0 3 (by omega) z⟩, fun z => ⟨hb, e4 ▸ h0 4 (by omega) z⟩, fun z => ?_, fun z => ?_⟩
    · refine rm_end hr ho fun h2 s c => ⟨hb, ?_⟩
      have := hk h2 s
      unfold sp_about at this
      rw [if_pos q, if_neg (by omega), if_pos z] at this
      rw [c x.toNat (by omega)]
      exact this
    · have := hk h sq_.rf
      unfold sp_about at this
      rw [if_pos q, if_pos (by omega)] at this
      exact this
  · have := hk h sq_.rf
    unfold sp_about at this
    rw [if_neg q] at this
    exact this
theorem tc_end {K : Int → jm_H → Prop} (hr : rw_C h n r) (ho : rw_ok n r) (hk : ∀ h2, sq_ h h2 → K (rw_end (rw_cy r n) (r 4) n) h2) : jm_CI E jm_SH jm_m_Top_end 4 [jm_R 0] h K :=
  jb_Top_end (rc_end hr ho fun h2 e => hk h2 (fun a b z => e a b (fun w => z (by unfold sc_; omega))))
theorem mc_end {K : Int → jm_H → Prop} (hr : rw_M h n r) (ho : rw_ok n r) (hk : ∀ h2, sq_ h h2 → K (rw_end (rw_cy r n) (r 4) n) h2) : jm_CI E jm_SH jm_m_Mod_end 3 [jm_R 78] h K :=
  jb_Mod_end (rm_end hr ho fun h2 s _ => hk h2 s)
/-- what ahead answers, by whether they clash -/
theorem tc_ahead {x y v : Int} {K : Int → jm_H → Prop} (hr : rw_C h n r) (h1 : ¬ ((0 ≤ x ∧ x < n) ∧ (0 ≤ y ∧ y < n)) → v = -1) (h2 : (0 ≤ x ∧ x < n) ∧ (0 ≤ y ∧ y < n) → y ≤ x → v = -2) (h3 : (0 ≤ x ∧ x < n) ∧ (0 ≤ y ∧ y < n) → x < y → (rw_cl r x.toNat y.toNat → v = 1) ∧ (¬ rw_cl r x.toNat y.toNat → v = 0)) (hk : K v h) : jm_CI E jm_SH jm_m_Top_ahead 3 [jm_R 0, jm_I x, jm_I y] h K := by
  have hn := hr.2.1
  refine jb_Top_ahead (rc_has hr (fun q => ⟨fun z => by omega, fun _ => ?_⟩) (fun q => ⟨fun _ => ?_, fun z => absurd rfl z⟩))
  · refine rc_has hr (fun q2 => ⟨fun _ => ⟨fun z => ?_, fun z => ?_⟩, fun z => by omega⟩) (fun q2 => ⟨fun z => absurd rfl z, fun _ => ?_⟩)
    · have h4 := h3 ⟨q, q2⟩ z
      obtain ⟨i, rfl⟩ : ∃ i : Nat, x = i := ⟨x.toNat, by omega⟩
      obtain ⟨k, rfl⟩ : ∃ k : Nat, y = k := ⟨y.toNat, by omega⟩
      refine rc_clash hr (by omega) (by omega) (fun u => ⟨fun w => by omega, fun _ => ?_⟩) (fun u => ⟨fun _ => ?_, fun w => absurd rfl w⟩)
      · rw [← h4.1 u]; exact hk
      · rw [← h4.2 u]; exact hk
    · rw [← h2 ⟨q, q2⟩ (by omega)]; exact hk
    · rw [← h1 (fun z => q2 z.2)]; exact hk
  · rw [← h1 (fun z => q z.1)]; exact hk
theorem mc_ahead {x y v : Int} {K : Int → jm_H → Prop} (hr : rw_M h n r) (h1 : ¬ ((0 ≤ x ∧ x < n) ∧ (0 ≤ y ∧ y < n)) → v = -1) (h2 : (0 ≤ x ∧ x < n) ∧ (0 ≤ y ∧ y < n) → y ≤ x → v = -2) (h3 : (0 ≤ x ∧ x < n) ∧ (0 ≤ y ∧ y < n) → x < y → (rw_cl r x.toNat y.toNat → v = 1) ∧ (¬ rw_cl r x.toNat y.toNat → v = 0)) (hk : K v h) : jm_CI E jm_SH jm_m_Mod_ahead 2 [jm_R 78, jm_I x, jm_I y] h K := by
  have hn := hr.2.1
  refine jb_Mod_ahead (rm_isIns hr (fun q => ⟨fun z => by omega, fun _ => ?_⟩) (fun q => ⟨fun _ => ?_, fun z => absurd rfl z⟩))
  · refine rm_isIns hr (fun q2 => ⟨fun _ => ⟨fun z => ?_, fun z => ?_⟩, fun z => by omega⟩) (fun q2 => ⟨fun z => absurd rfl z, fun _ => ?_⟩)
    · have h4 := h3 ⟨q, q2⟩ z
      obtain ⟨i, rfl⟩ : ∃ i : Nat, x = i := ⟨x.toNat, by omega⟩
      obtain ⟨k, rfl⟩ : ∃ k : Nat, y = k := ⟨y.toNat, by omega⟩
      refine rm_lead hr (by omega) (by omega) (fun u => ⟨fun w => by omega, fun _ => ?_⟩) (fun u => ⟨fun _ => ?_, fun w => absurd rfl w⟩)
      · rw [← h4.1 u]; exact hk
      · rw [← h4.2 u]; exact hk
    · rw [← h2 ⟨q, q2⟩ (by omega)]; exact hk
    · rw [← h1 (fun z => q2 z.2)]; exact hk
  · rw [← h1 (fun z => q z.1)]; exact hk
def sp_lives (n : Nat) (r : Nat → Nat → Int) (kp x : Int) : Int := if 0 ≤ x ∧ x < n then lf r n kp x.toNat - x else -1
theorem tc_lives {x : Int} {K : Int → jm_H → Prop} (hr : rw_C h n r) (hkp : h 56 3 = kp) (hk : K (sp_lives n r kp x) h) : jm_CI E jm_SH jm_m_Top_lives 3 [jm_R 0, jm_I x] h K := by
  have hn := hr.2.1
  unfold sp_lives at hk
  refine jb_Top_lives (rc_has hr (fun q => ⟨fun z => by omega, fun _ => ?_⟩) (fun q => ⟨fun _ => by rw [if_neg q] at hk; exact hk, fun z => absurd rfl z⟩))
  obtain ⟨i, rfl⟩ : ∃ i : Nat, x = i := ⟨x.toNat, by omega⟩
  rw [if_pos q, jm_tn] at hk
  have hb := lf_b (r := r) (kp := kp) (show i < n by omega)
  refine rc_until hr hkp (by omega) ?_
  rw [jm_w (by omega) (by omega)]
  exact hk
theorem mc_lives {x : Int} {K : Int → jm_H → Prop} (hr : rw_M h n r) (hkp : h 78 39 = kp) (hk : K (sp_lives n r kp x) h) : jm_CI E jm_SH jm_m_Mod_lives 2 [jm_R 78, jm_I x] h K := by
  have hn := hr.2.1
  unfold sp_lives at hk
  refine jb_Mod_lives (rm_isIns hr (fun q => ⟨fun z => by omega, fun _ => ?_⟩) (fun q => ⟨fun _ => by rw [if_neg q] at hk; exact hk, fun z => absurd rfl z⟩))
  obtain ⟨i, rfl⟩ : ∃ i : Nat, x = i := ⟨x.toNat, by omega⟩
  rw [if_pos q, jm_tn] at hk
  have hb := lf_b (r := r) (kp := kp) (show i < n by omega)
  refine rm_lives hr hkp (by omega) ?_
  rw [jm_w (by omega) (by omega)]
  exact hk
def sp_place (n : Nat) (r : Nat → Nat → Int) (kp x : Int) : Int := if 0 ≤ x ∧ x < n then (lf_pl r n kp x.toNat (x.toNat + 1) : Nat) else -1
theorem tc_place {x : Int} {K : Int → jm_H → Prop} (hr : rw_C h n r) (hkp : h 56 3 = kp) (hk : K (sp_place n r kp x) h) : jm_CI E jm_SH jm_m_Top_place 4 [jm_R 0, jm_I x] h K := by
  unfold sp_place at hk
  refine jb_Top_place (rc_has hr (fun q => ⟨fun z => by omega, fun _ => ?_⟩) (fun q => ⟨fun _ => by rw [if_neg q] at hk; exact hk, fun z => absurd rfl z⟩))
  obtain ⟨i, rfl⟩ : ∃ i : Nat, x = i := ⟨x.toNat, by omega⟩
  rw [if_pos q, jm_tn] at hk
  exact rc_living hr hkp (by omega) hk
theorem mc_place {x : Int} {K : Int → jm_H → Prop} (hr : rw_M h n r) (hkp : h 78 39 = kp) (hk : K (sp_place n r kp x) h) : jm_CI E jm_SH jm_m_Mod_place 3 [jm_R 78, jm_I x] h K := by
  unfold sp_place at hk
  refine jb_Mod_place (rm_isIns hr (fun q => ⟨fun z => by omega, fun _ => ?_⟩) (fun q => ⟨fun _ => by rw [if_neg q] at hk; exact hk, fun z => absurd rfl z⟩))
  obtain ⟨i, rfl⟩ : ∃ i : Nat, x = i := ⟨x.toNat, by omega⟩
  rw [if_pos q, jm_tn] at hk
  exact rm_place hr hkp (by omega) hk
theorem tc_crowd {K : Int → jm_H → Prop} (hr : rw_C h n r) (hkp : h 56 3 = kp) (hk : K (lf_cr r n kp n) h) : jm_CI E jm_SH jm_m_Top_crowd 5 [jm_R 0] h K := jb_Top_crowd (rc_crowd hr hkp hk)
end RD
