/-! SHORTEST: the reference tries all -/
def fm_ (h h2 : jm_H) : Prop := ∀ u v, ¬ (u = 111 ∨ u = 114) → h2 u v = h u v
theorem fm_.tr {h h1 h2 : jm_H} (p : fm_ h h1) (q : fm_ h1 h2) : fm_ h h2 := fun a b z => (q a b z).trans (p a b z)
section FR
variable {E : jm_Env} {h : jm_H} {T : Nat → Nat → Nat} {k : Nat}
theorem sm_M.fr {h h2 : jm_H} {T : Nat → Nat → Nat} (hm : sm_M h T) (e : fm_ h h2) : sm_M h2 T := ⟨fun c hc => by rw [e _ _ (by omega)]; exact hm.1 c hc, fun p hp => by rw [e _ _ (by omega)]; exact hm.2 p hp⟩
theorem rm_fr49 {x R : Nat} {K : Int → jm_H → Prop} (hk3 : k ≤ 3) (hx : x < 4000000) (hk : ∀ h2 : jm_H, fm_ h h2 → am_ h2 (dg_ k x) → (jm_CI E jm_SH jm_m_Mod_isAlike 1 [jm_R 78, jm_I k] h2 (fun v2 h3 => ((v2 = 0) → jm_BI E jm_SH jm_m_Mod_findRow 2 36 [some (jm_R 78), some (jm_I k), some (jm_I R), some (jm_I (jm_w32 ((x : Int) + 1))), none, none] [] h3 K) ∧ ((¬ v2 = 0) → K 1 h3)))) : ∀ (i left : Nat) (x4 x5 : Int) (tl : List Nat) (h1 : jm_H), i ≤ k → left < 4000000 → x4 = left → x5 = (i : Int) - 1 → dg_ k x = dg_ i left ++ tl → (∀ j c, tl[j]? = some c → h1 114 (i + j) = (c : Nat)) → fm_ h h1 → jm_BI E jm_SH jm_m_Mod_findRow 2 49 [some (jm_R 78), some (jm_I k), some (jm_I R), some (jm_I x), some (jm_I x4), some (jm_I x5)] [] h1 K
  | 0, left, x4, x5, tl, h1, hi, hleft, e4, e5, hd, ht, hf => by
    subst e4
    subst e5
    refine jb_Mod_findRow_49 ⟨fun _ => hk h1 hf (fun j c hc => ?_), fun z => absurd (by decide) z⟩
    rw [hd] at hc
    have := ht j c hc
    rw [Nat.zero_add] at this
    exact this
  | i + 1, left, x4, x5, tl, h1, hi, hleft, e4, e5, hd, ht, hf => by
    subst e4
    have e5' : x5 = (i : Int) := by omega
    subst e5'
    refine jb_Mod_findRow_49 ⟨fun z => by omega, fun _ => ⟨by omega, ?_⟩⟩
    rw [jm_tn, show (153 : Int) = ((153 : Nat) : Int) from rfl, jv_div_nat (by omega) (by omega), jv_rem_nat (by omega) (by omega), jm_w (by omega) (by omega)]
    refine rm_fr49 hk3 hx hk i (left / 153) _ _ (left % 153 :: tl) _ (by omega) (by omega) rfl (by omega) ?_ (fun j c hc => ?_) (hf.tr fun u v z => up_o (by omega))
    · rw [hd]
      show (dg_ i (left / 153) ++ [left % 153]) ++ tl = _
      simp
    · cases j with
      | zero =>
        simp at hc
        subst hc
        rw [Nat.add_zero, up_s]
      | succ j =>
        rw [up_o (by omega)]
        have := ht j c (by simpa using hc)
        rw [show i + (j + 1) = i + 1 + j by omega]
        exact this
theorem rm_fr36 {R : Nat} {K : Int → jm_H → Prop} (hk3 : k ≤ 3) (hR : R = 153 ^ k) (hm : sm_M h T) (k0 : (∀ s : List in_I, (∀ c ∈ s, vi_ c) → s.length = k → ¬ D_ T s) → ∀ h2 : jm_H, fm_ h h2 → K 0 h2) (k1 : ∀ (h2 : jm_H) (cs : List Nat), fm_ h h2 → cs.length = k → (∀ c ∈ cs, c < 153) → am_ h2 cs → D_ T (cs.map dk_) → (∀ s : List in_I, (∀ c ∈ s, vi_ c) → s.length = k → nm_ s 0 < nm_ (cs.map dk_) 0 → ¬ D_ T s) → K 1 h2) : ∀ (g x : Nat) (x3 : Int) (h1 : jm_H), g + x = R → x3 = x → fm_ h h1 → (∀ y, y < x → ¬ D_ T ((dg_ k y).map dk_)) → jm_BI E jm_SH jm_m_Mod_findRow 2 36 [some (jm_R 78), some (jm_I k), some (jm_I R), some (jm_I x3), none, none] [] h1 K
  | 0, x, x3, h1, hg, e3, hf, hp => by
    subst e3
    refine jb_Mod_findRow_36 ⟨fun _ => k0 (fun s z1 z2 => ?_) h1 hf, fun z => by omega⟩
    have hb := nm_b s 0 z1
    rw [Nat.zero_add, Nat.one_mul, z2] at hb
    have := dg_all z1
    rw [this, z2]
    exact hp _ (by omega)
  | g + 1, x, x3, h1, hg, e3, hf, hp => by
    subst e3
    have hxR : x < 153 ^ k := by omega
    have h3 : (153 : Nat) ^ k ≤ 153 ^ 3 := Nat.pow_le_pow_right (by omega) hk3
    have e153 : (153 : Nat) ^ 3 = 3581577 := rfl
    refine jb_Mod_findRow_36 ⟨fun z => by omega, fun _ => ?_⟩
    refine rm_fr49 (h := h) hk3 (show x < 4000000 by omega) (fun h2 c1 c2 => ?_) k x _ _ [] h1 (Nat.le_refl _) (by omega) rfl (by rw [jm_w (by omega) (by omega)]) (by simp) (fun j c hc => by simp at hc) hf
    have hlen := dg_len k x
    have hkk : ((k : Nat) : Int) = ((dg_ k x).length : Nat) := by rw [hlen]
    have hcall : jm_I (k : Int) = jm_I ((dg_ k x).length : Nat) := by rw [hlen]
    rw [hcall]
    refine rm_alike (T := T) (by omega) (dg_lt k x) c2 (hm.fr c1) (fun hD h4 d1 => ⟨fun z => by omega, fun _ => ?_⟩) (fun hD h4 d1 => ⟨fun _ => ?_, fun z => absurd rfl z⟩)
    · refine k1 h4 (dg_ k x) (c1.tr fun u v z => d1 u v (by omega)) hlen (dg_lt k x) (fun i c hc => by rw [d1 _ _ (by omega)]; exact c2 i c hc) hD (fun s z1 z2 z3 => ?_)
      rw [dg_nm k x hxR] at z3
      have := dg_all z1
      rw [this, z2]
      exact hp _ z3
    · rw [← hcall, jm_w (by omega) (by omega)]
      refine rm_fr36 hk3 hR hm k0 k1 g (x + 1) _ h4 (by omega) (by omega) (c1.tr fun u v z => d1 u v (by omega)) (fun y hy => ?_)
      by_cases e : y = x
      · subst e; exact hD
      · exact hp y (by omega)
theorem rm_findRow {K : Int → jm_H → Prop} (hk3 : k ≤ 3) (hm : sm_M h T) (k0 : (∀ s : List in_I, (∀ c ∈ s, vi_ c) → s.length = k → ¬ D_ T s) → ∀ h2 : jm_H, fm_ h h2 → K 0 h2) (k1 : ∀ (h2 : jm_H) (cs : List Nat), fm_ h h2 → cs.length = k → (∀ c ∈ cs, c < 153) → am_ h2 cs → D_ T (cs.map dk_) → (∀ s : List in_I, (∀ c ∈ s, vi_ c) → s.length = k → nm_ s 0 < nm_ (cs.map dk_) 0 → ¬ D_ T s) → K 1 h2) : jm_CI E jm_SH jm_m_Mod_findRow 2 [jm_R 78, jm_I k] h K := by
  have go : ∀ R : Nat, R = 153 ^ k → jm_BI E jm_SH jm_m_Mod_findRow 2 36 [some (jm_R 78), some (jm_I k), some (jm_I R), some (jm_I 0), none, none] [] h K := fun R hR => rm_fr36 hk3 hR hm k0 k1 R 0 _ h (by omega) rfl (fun _ _ _ => rfl) (fun y hy => by omega)
  refine jb_Mod_findRow ⟨fun z0 => ⟨fun z1 => ⟨fun z2 => ?_, fun z2 => ?_⟩, fun z1 => ?_⟩, fun z0 => ?_⟩
  · have e : k = 3 := by omega
    exact go 3581577 (by rw [e])
  · have e : k = 2 := by omega
    exact go 23409 (by rw [e])
  · have e : k = 1 := by omega
    exact go 153 (by rw [e])
  · have e : k = 0 := by omega
    exact go 1 (by rw [e])
end FR
section MH
variable {E : jm_Env} {h : jm_H} {n : Nat} {r : Nat → Nat → Int}
theorem rm_sh96 {T : Nat → Nat → Nat} {x1 x2 v : Int} {K : Int → jm_H → Prop} (hv : (∀ s, SH_ T s → (s.length : Int) ≤ x1 → (x2 = -1 → v = s.length) ∧ (∀ c, s[x2.toNat]? = some c → 0 ≤ x2 → v = (sn_ c : Nat)) ∧ (¬ x2 = -1 → ¬ (0 ≤ x2 ∧ x2 < s.length) → v = -6)) ∧ ((∀ s : List in_I, (∀ c ∈ s, vi_ c) → (s.length : Int) ≤ x1 → ¬ D_ T s) → v = -5)) {h1 : jm_H} {x3 : Int} (hm : sm_M h1 T) (hc : (x3 = -6 ∧ ∀ s : List in_I, (∀ c ∈ s, vi_ c) → (s.length : Int) ≤ x1 → ¬ D_ T s) ∨ ∃ cs : List Nat, x3 = cs.length ∧ cs.length ≤ 3 ∧ (cs.length : Int) ≤ x1 ∧ (∀ c ∈ cs, c < 153) ∧ am_ h1 cs ∧ SH_ T (cs.map dk_)) (hk : K v h1) : jm_BI E jm_SH jm_m_Mod_shortest 3 96 [some (jm_R 78), none, some (jm_I x2), some (jm_I x3), none] [] h1 K := by
  rcases hc with ⟨e3, hno⟩ | ⟨cs, e3, l3, l1, lc, ha, hS⟩
  · refine jb_Mod_shortest_96 ⟨fun z => by omega, fun _ => ?_⟩
    rw [← hv.2 hno]
    exact hk
  · subst e3
    obtain ⟨v1, v2, v3⟩ := hv.1 _ hS (by simpa using l1)
    have hlen : (cs.map dk_).length = cs.length := List.length_map _
    refine jb_Mod_shortest_96 ⟨fun _ => ⟨fun z => ?_, fun z => ?_⟩, fun z => by omega⟩
    · rw [jm_w (by omega) (by omega)]
      refine rm_in (fun y => ⟨fun w => by omega, fun _ => ⟨by omega, ?_⟩⟩) (fun y => ⟨fun _ => ?_, fun w => absurd rfl w⟩)
      · have hlt : x2.toNat < cs.length := by omega
        have hg := List.getElem?_eq_getElem hlt
        have hcb := lc _ (List.getElem_mem hlt)
        rw [ha _ _ hg, jm_tn, hm.1 _ hcb, ← v2 (dk_ cs[x2.toNat]) (by rw [List.getElem?_map, hg]; rfl) (by omega)]
        exact ⟨by omega, hk⟩
      · rw [← v3 z (by rw [hlen]; omega)]
        exact hk
    · have := v1 z
      rw [hlen] at this
      rw [← this]
      exact hk
theorem rm_sh64 {T : Nat → Nat → Nat} {x1 x2 v : Int} {K : Int → jm_H → Prop} (hx : 0 ≤ x1 ∧ x1 ≤ 3) (hv : (∀ s, SH_ T s → (s.length : Int) ≤ x1 → (x2 = -1 → v = s.length) ∧ (∀ c, s[x2.toNat]? = some c → 0 ≤ x2 → v = (sn_ c : Nat)) ∧ (¬ x2 = -1 → ¬ (0 ≤ x2 ∧ x2 < s.length) → v = -6)) ∧ ((∀ s : List in_I, (∀ c ∈ s, vi_ c) → (s.length : Int) ≤ x1 → ¬ D_ T s) → v = -5)) (hk : ∀ h2 : jm_H, fm_ h h2 → K v h2) : ∀ (g k : Nat) (x4 : Int) (h1 : jm_H), g + k = 4 → x4 = k → sm_M h1 T → (∀ s : List in_I, (∀ c ∈ s, vi_ c) → s.length < k → ¬ D_ T s) → fm_ h h1 → jm_BI E jm_SH jm_m_Mod_shortest 3 64 [some (jm_R 78), some (jm_I x1), some (jm_I x2), some (jm_I (-6)), some (jm_I x4)] [] h1 K
  | 0, k, x4, h1, hg, e4, hm, hp, hf => by
    subst e4
    refine jb_Mod_shortest_64 ⟨fun _ => rm_sh96 hv hm (Or.inl ⟨rfl, fun s z1 z2 => hp s z1 (by omega)⟩) (hk h1 hf), fun z => by omega⟩
  | g + 1, k, x4, h1, hg, e4, hm, hp, hf => by
    subst e4
    refine jb_Mod_shortest_64 ⟨fun z => rm_sh96 hv hm (Or.inl ⟨rfl, fun s z1 z2 => hp s z1 (by omega)⟩) (hk h1 hf), fun z => ⟨fun y => absurd y (by omega), fun _ => ?_⟩⟩
    refine rm_findRow (by omega) hm (fun hno h2 c1 => ⟨fun _ => ?_, fun w => absurd rfl w⟩) (fun h2 cs c1 c2 c3 c4 c5 c6 => ⟨fun w => by omega, fun _ => ?_⟩)
    · rw [jm_w (by omega) (by omega)]
      refine rm_sh64 hx hv hk g (k + 1) _ h2 (by omega) (by omega) (hm.fr c1) (fun s z1 z2 => ?_) (hf.tr c1)
      by_cases e : s.length = k
      · exact hno s z1 e
      · exact hp s z1 (by omega)
    · have hS : SH_ T (cs.map dk_) := by
        refine ⟨fun c hc => ?_, c5, fun s2 z1 z2 => ?_⟩
        · obtain ⟨d, d1, d2⟩ := List.mem_map.mp hc
          rw [← d2]
          exact dk_vi (c3 d d1)
        · rw [List.length_map, c2] at z2
          rcases z2 with z2 | ⟨z2, z3⟩
          · exact hp s2 z1 z2
          · exact c6 s2 z1 z2 z3
      have hc : ((k : Int) = -6 ∧ ∀ s : List in_I, (∀ c ∈ s, vi_ c) → (s.length : Int) ≤ x1 → ¬ D_ T s) ∨ ∃ cs : List Nat, (k : Int) = cs.length ∧ cs.length ≤ 3 ∧ (cs.length : Int) ≤ x1 ∧ (∀ c ∈ cs, c < 153) ∧ am_ h2 cs ∧ SH_ T (cs.map dk_) := Or.inr ⟨cs, by omega, by omega, by omega, c3, c4, hS⟩
      refine jb_Mod_shortest_64 ⟨fun w => rm_sh96 hv (hm.fr c1) hc (hk h2 (hf.tr c1)), fun w => ⟨fun _ => rm_sh96 hv (hm.fr c1) hc (hk h2 (hf.tr c1)), fun u => absurd (by omega) u⟩⟩
theorem rm_sh21 {x1 x2 v : Int} {K : Int → jm_H → Prop} (ho : rw_ok n r) (hx : 0 ≤ x1 ∧ x1 ≤ 3) (hv : sp_short n r x1 x2 v) (hk : ∀ h2 : jm_H, sq_ h h2 → K v h2) : ∀ (g p : Nat) (x3 : Int) (h1 : jm_H), g + p = 256 → x3 = p → rw_M h1 n r → (∀ c, c < 153 → h1 113 c = (sn_ (dk_ c) : Nat)) → (∀ p2, p2 < p → h1 112 p2 = (sT_ r n (p2 / 16) (p2 % 16) : Nat)) → sq_ h h1 → jm_BI E jm_SH jm_m_Mod_shortest 3 21 [some (jm_R 78), some (jm_I x1), some (jm_I x2), some (jm_I x3), none] [] h1 K
  | 0, p, x3, h1, hg, e3, hr, h113, h112, hf => by
    subst e3
    refine jb_Mod_shortest_21 ⟨fun _ => ?_, fun z => by omega⟩
    exact rm_sh64 (h := h1) (T := sT_ r n) hx (hv.2 hx) (fun h2 c1 => hk h2 (hf.tr fun u v z => c1 u v (fun w => z (by unfold sc_; omega)))) 4 0 _ h1 rfl rfl ⟨h113, fun q hq => h112 q (by omega)⟩ (fun s _ z => by omega) (fun _ _ _ => rfl)
  | g + 1, p, x3, h1, hg, e3, hr, h113, h112, hf => by
    subst e3
    refine jb_Mod_shortest_21 ⟨fun z => by omega, fun _ => ?_⟩
    obtain ⟨q1, q2⟩ := dk_4 ⟨p, by omega⟩
    simp only at q1 q2
    rw [q1, q2]
    refine rm_runRow hr ho (by omega) (by omega) (fun h2 c1 c2 => ⟨by omega, ?_⟩)
    rw [jm_tn, c2 0 (by omega), jm_w (by omega) (by omega)]
    have s1 : sq_ h1 (jm_up h2 112 p (rg_ r (i0_ (p / 16) (p % 16)) n 0 : Nat)) := fun u v z => by
      have z1 : ¬ u = 111 := fun w => z (by unfold sc_; omega)
      have z2 : ¬ u = 112 := fun w => z (by unfold sc_; omega)
      rw [up_o (by omega), c1 u v z1]
    refine rm_sh21 ho hx hv hk g (p + 1) _ _ (by omega) (by omega) (hr.sq s1) (fun c hc => by rw [up_o (by omega), c1 _ _ (by omega)]; exact h113 c hc) (fun p2 hp2 => ?_) (hf.tr s1)
    by_cases e : p2 = p
    · subst e
      rw [up_s]
      rfl
    · rw [up_o (by omega), c1 _ _ (by omega)]
      exact h112 p2 (by omega)
theorem mc_shortest {x1 x2 v : Int} {K : Int → jm_H → Prop} (hr : rw_M h n r) (ho : rw_ok n r) (hv : sp_short n r x1 x2 v) (hk : ∀ h2 : jm_H, sq_ h h2 → K v h2) : jm_CI E jm_SH jm_m_Mod_shortest 3 [jm_R 78, jm_I x1, jm_I x2] h K := by
  refine jb_Mod_shortest (rm_in (fun q => ⟨fun _ => rm_layShorts (fun h2 c1 => ?_), fun z => by omega⟩) (fun q => ⟨fun z => absurd rfl z, fun _ => by rw [← hv.1 q]; exact hk h sq_.rf⟩))
  have s1 : sq_ h h2 := fun u v z => c1.1 u v (fun w => z (by unfold sc_; omega))
  exact rm_sh21 (h := h) ho q hv hk 256 0 _ h2 rfl rfl (hr.sq s1) c1.2 (fun p2 h3 => by omega) s1
end MH
