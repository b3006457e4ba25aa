/-! SHORTEST: the reference's -/
theorem jv_div_nat {a b : Nat} (ha : a < 2147483648) (hb : b < 2147483648) : jv_div (a : Int) (b : Int) = ((a / b : Nat) : Int) := by
  unfold jv_div
  rw [Int32.toInt_div, jm_i32, jm_i32, jm_w (by omega) (by omega), jm_w (by omega) (by omega)]
  have h1 : a / b ≤ a := Nat.div_le_self _ _
  show jm_w32 ((a / b : Nat) : Int) = _
  generalize a / b = c at h1 ⊢
  rw [jm_w (by omega) (by omega)]
theorem jv_rem_nat {a b : Nat} (ha : a < 2147483648) (hb : b < 2147483648) : jv_rem (a : Int) (b : Int) = ((a % b : Nat) : Int) := by
  unfold jv_rem
  have h1 : a / b ≤ a := Nat.div_le_self _ _
  have e : Int32.ofInt (a : Int) / Int32.ofInt (b : Int) = Int32.ofInt ((a / b : Nat) : Int) := by
    apply Int32.toInt_inj.mp
    have := jv_div_nat ha hb
    unfold jv_div at this
    rw [this, jm_i32]
    generalize a / b = c at h1 ⊢
    rw [jm_w (by omega) (by omega)]
  rw [e, ← Int32.ofInt_mul, ← Int32.ofInt_sub, jm_i32]
  have h2 : (a : Int) - ((a / b : Nat) : Int) * (b : Int) = ((a % b : Nat) : Int) := by
    have := Nat.div_add_mod a b
    have h3 : ((b * (a / b) + a % b : Nat) : Int) = (a : Int) := by rw [this]
    rw [← h3, Int.natCast_add, Int.natCast_mul, Int.mul_comm]
    omega
  have h4 : a % b ≤ a := Nat.mod_le _ _
  rw [h2, jm_w (by omega) (by omega)]
def dk_ (c : Nat) : in_I := if c < 135 then (c / 27, c / 9 % 3, c / 3 % 3, c % 3) else (5 + (c - 135) / 9, (c - 135) / 3 % 3, (c - 135) % 3, 0)
theorem dk_1 : ∀ c : Fin 153, (dk_ c).1 < 7 ∧ (dk_ c).2.1 < 3 ∧ (dk_ c).2.2.1 < 3 ∧ (dk_ c).2.2.2 < 3 ∧ (5 ≤ (dk_ c).1 → (dk_ c).2.2.2 = 0) := by decide +kernel
theorem dk_2 : ∀ c : Fin 153, kc_ (dk_ c) = (c : Nat) := by decide +kernel
theorem dk_3 : ∀ c : Fin 153, jv_div (sn_ (dk_ c) : Nat) 1000 = ((dk_ c).1 : Nat) ∧ jv_rem (jv_div (sn_ (dk_ c) : Nat) 100) 10 = ((dk_ c).2.1 : Nat) ∧ jv_rem (jv_div (sn_ (dk_ c) : Nat) 10) 10 = ((dk_ c).2.2.1 : Nat) ∧ jv_rem (sn_ (dk_ c) : Nat) 10 = ((dk_ c).2.2.2 : Nat) := by decide +kernel
theorem dk_4 : ∀ p : Fin 256, jv_div ((p : Nat) : Int) 16 = (((p : Nat) / 16 : Nat) : Int) ∧ jv_rem ((p : Nat) : Int) 16 = (((p : Nat) % 16 : Nat) : Int) := by decide +kernel
theorem dk_vi {c : Nat} (h : c < 153) : vi_ (dk_ c) := dk_1 ⟨c, h⟩
def lp_ (o t a b : Nat) : Nat := if o < 5 then 27 * o + 9 * t + 3 * a + b else 135 + 9 * (o - 5) + 3 * t + a + b
theorem lp_1 : ∀ (o : Fin 7) (t a b : Fin 3), ((o : Nat) < 5 ∨ (b : Nat) = 0) → dk_ (lp_ o t a b) = ((o : Nat), (t : Nat), (a : Nat), (b : Nat)) ∧ lp_ o t a b < 153 := by decide +kernel
/-- the digits of a row's number -/
def dg_ : Nat → Nat → List Nat
  | 0, _ => []
  | k + 1, x => dg_ k (x / 153) ++ [x % 153]
theorem dg_len : ∀ k x, (dg_ k x).length = k
  | 0, _ => rfl
  | k + 1, x => by
    show (dg_ k (x / 153) ++ [x % 153]).length = k + 1
    rw [List.length_append, dg_len k]
    rfl
theorem dg_lt : ∀ k x, ∀ c ∈ dg_ k x, c < 153
  | 0, _, c, h => by simp [dg_] at h
  | k + 1, x, c, h => by
    rcases List.mem_append.mp h with h | h
    · exact dg_lt k _ c h
    · simp at h
      omega
theorem nm_snoc : ∀ (l : List in_I) (c : in_I) (a : Nat), nm_ (l ++ [c]) a = 153 * nm_ l a + kc_ c
  | [], _, _ => rfl
  | d :: l, c, a => nm_snoc l c (153 * a + kc_ d)
theorem dg_nm : ∀ k x, x < 153 ^ k → nm_ ((dg_ k x).map dk_) 0 = x
  | 0, x, h => by
    simp at h
    rw [h]
    rfl
  | k + 1, x, h => by
    rw [Nat.pow_succ] at h
    show nm_ ((dg_ k (x / 153) ++ [x % 153]).map dk_) 0 = x
    rw [List.map_append, List.map_cons, List.map_nil, nm_snoc, dg_nm k (x / 153) (by omega), dk_2 ⟨x % 153, by omega⟩]
    simp only
    omega
theorem dg_vi (k x : Nat) : ∀ c ∈ (dg_ k x).map dk_, vi_ c := by
  intro c hc
  obtain ⟨d, h1, h2⟩ := List.mem_map.mp hc
  rw [← h2]
  exact dk_vi (dg_lt k x d h1)
theorem nm_b : ∀ (l : List in_I) (a : Nat), (∀ c ∈ l, vi_ c) → nm_ l a < (a + 1) * 153 ^ l.length
  | [], a, _ => by simp [nm_]
  | c :: l, a, h => by
    have h1 := nm_b l (153 * a + kc_ c) (fun x hx => h x (by simp [hx]))
    have h2 := kc_lt (h c (by simp))
    show nm_ l (153 * a + kc_ c) < (a + 1) * 153 ^ (l.length + 1)
    refine Nat.lt_of_lt_of_le h1 ?_
    rw [Nat.pow_succ, Nat.mul_comm (153 ^ l.length) 153, ← Nat.mul_assoc]
    exact Nat.mul_le_mul_right _ (by omega)
theorem dg_all {s : List in_I} (hv : ∀ c ∈ s, vi_ c) : s = (dg_ s.length (nm_ s 0)).map dk_ := by
  have hb := nm_b s 0 hv
  rw [Nat.zero_add, Nat.one_mul] at hb
  exact (nm_inj s _ 0 0 (by rw [List.length_map, dg_len]) hv (dg_vi _ _) (by rw [dg_nm _ _ hb])).2
theorem fr_lt : ∀ (l : List in_I) (s : Nat → Nat), (∀ q, s q < 16) → ∀ q, fr_ l s q < 16
  | [], s, h, q => h q
  | c :: l, s, h, q => fr_lt l (ev_ c s) (fun q => by
    unfold ev_
    split
    · exact wo_lt _ (h _) (h _)
    · exact h q) q
theorem fr_app : ∀ (l l2 : List in_I) (s : Nat → Nat), fr_ (l ++ l2) s = fr_ l2 (fr_ l s)
  | [], _, _ => rfl
  | c :: l, l2, s => fr_app l l2 (ev_ c s)
section LS
variable {E : jm_Env} {h : jm_H}
def lw_ (h h1 : jm_H) (n : Nat) : Prop := (∀ u v, ¬ u = 113 → h1 u v = h u v) ∧ ∀ c, c < n → h1 113 c = (sn_ (dk_ c) : Nat)
theorem rm_ls29 {o t a : Nat} {K : jm_H → Prop} (ho : o < 7) (ht : t < 3) (ha : a < 3) (hk : ∀ h2 : jm_H, lw_ h h2 (lp_ o t (a + 1) 0) → jm_BV E jm_SH jm_m_Mod_layShorts 0 20 [some (jm_R 78), some (jm_I (lp_ o t (a + 1) 0 : Nat)), some (jm_I o), some (jm_I t), some (jm_I (jm_w32 ((a : Int) + 1))), none] [] h2 K) : ∀ (g b : Nat) (x1 x5 : Int) (h1 : jm_H), g + b = (if o < 5 then 3 else 1) → x1 = (lp_ o t a b : Nat) → x5 = b → lw_ h h1 (lp_ o t a b) → jm_BV E jm_SH jm_m_Mod_layShorts 0 29 [some (jm_R 78), some (jm_I x1), some (jm_I o), some (jm_I t), some (jm_I a), some (jm_I x5)] [] h1 K
  | 0, b, x1, x5, h1, hg, e1, e5, hw => by
    subst e1
    subst e5
    have e : lp_ o t a b = lp_ o t (a + 1) 0 := by
      unfold lp_
      by_cases q : o < 5
      · rw [if_pos q, if_pos q]
        rw [if_pos q] at hg
        omega
      · rw [if_neg q, if_neg q]
        rw [if_neg q] at hg
        omega
    rw [e] at hw ⊢
    have := hk h1 hw
    refine jb_Mod_layShorts_29 ⟨fun q => ⟨fun _ => this, fun z => ?_⟩, fun q => ⟨fun _ => this, fun z => ?_⟩⟩
    · rw [if_neg (by omega)] at hg; omega
    · rw [if_pos (by omega)] at hg; omega
  | g + 1, b, x1, x5, h1, hg, e1, e5, hw => by
    subst e1
    subst e5
    have hb : b < 3 ∧ (o < 5 ∨ b = 0) := by
      by_cases q : o < 5
      · rw [if_pos q] at hg; omega
      · rw [if_neg q] at hg; omega
    obtain ⟨l1, l2⟩ := lp_1 ⟨o, ho⟩ ⟨t, ht⟩ ⟨a, ha⟩ ⟨b, hb.1⟩ hb.2
    simp only at l1 l2
    have e : lp_ o t a b + 1 = lp_ o t a (b + 1) := by
      unfold lp_
      split <;> omega
    have go : (0 ≤ ((lp_ o t a b : Nat) : Int) ∧ ((lp_ o t a b : Nat) : Int) < 153) ∧ jm_BV E jm_SH jm_m_Mod_layShorts 0 29 [some (jm_R 78), some (jm_I (jm_w32 (((lp_ o t a b : Nat) : Int) + 1))), some (jm_I o), some (jm_I t), some (jm_I a), some (jm_I (jm_w32 ((b : Int) + 1)))] [] (jm_up h1 113 (Int.toNat ((lp_ o t a b : Nat) : Int)) (jm_w32 ((jm_w32 ((jm_w32 ((jm_w32 (1000 * (o : Int))) + (jm_w32 (100 * (t : Int))))) + (jm_w32 (10 * (a : Int))))) + (b : Int)))) K := by
      refine ⟨by omega, ?_⟩
      rw [jm_tn, jm_w (x := ((lp_ o t a b : Nat) : Int) + 1) (by omega) (by omega), jm_w (x := (b : Int) + 1) (by omega) (by omega), jm_w (x := 1000 * (o : Int)) (by omega) (by omega), jm_w (x := 100 * (t : Int)) (by omega) (by omega), jm_w (x := 1000 * (o : Int) + 100 * (t : Int)) (by omega) (by omega), jm_w (x := 10 * (a : Int)) (by omega) (by omega), jm_w (x := 1000 * (o : Int) + 100 * (t : Int) + 10 * (a : Int)) (by omega) (by omega), jm_w (by omega) (by omega)]
      refine rm_ls29 ho ht ha hk g (b + 1) _ _ _ (by omega) (by omega) (by omega) ⟨fun u v z => by rw [up_o (by omega)]; exact hw.1 u v z, fun c hc => ?_⟩
      by_cases q : c = lp_ o t a b
      · rw [q, up_s, l1]
        show _ = ((1000 * o + 100 * t + 10 * a + b : Nat) : Int)
        omega
      · rw [up_o (by omega)]
        exact hw.2 c (by omega)
    refine jb_Mod_layShorts_29 ⟨fun q => ⟨fun z => ?_, fun _ => go⟩, fun q => ⟨fun z => ?_, fun _ => go⟩⟩
    · rw [if_neg (by omega)] at hg; omega
    · rw [if_pos (by omega)] at hg; omega
theorem rm_ls20 {o t : Nat} {K : jm_H → Prop} (ho : o < 7) (ht : t < 3) (hk : ∀ h2 : jm_H, lw_ h h2 (lp_ o (t + 1) 0 0) → jm_BV E jm_SH jm_m_Mod_layShorts 0 12 [some (jm_R 78), some (jm_I (lp_ o (t + 1) 0 0 : Nat)), some (jm_I o), some (jm_I (jm_w32 ((t : Int) + 1))), none, none] [] h2 K) : ∀ (g a : Nat) (x4 : Int) (h1 : jm_H), g + a = 3 → x4 = a → lw_ h h1 (lp_ o t a 0) → jm_BV E jm_SH jm_m_Mod_layShorts 0 20 [some (jm_R 78), some (jm_I (lp_ o t a 0 : Nat)), some (jm_I o), some (jm_I t), some (jm_I x4), none] [] h1 K
  | 0, a, x4, h1, hg, e4, hw => by
    subst e4
    have e : lp_ o t a 0 = lp_ o (t + 1) 0 0 := by
      unfold lp_
      split <;> omega
    rw [e] at hw ⊢
    exact jb_Mod_layShorts_20 ⟨fun _ => hk h1 hw, fun z => by omega⟩
  | g + 1, a, x4, h1, hg, e4, hw => by
    subst e4
    refine jb_Mod_layShorts_20 ⟨fun z => by omega, fun _ => rm_ls29 ho ht (by omega) (fun h2 hw2 => ?_) (if o < 5 then 3 else 1) 0 _ _ h1 (by omega) rfl rfl hw⟩
    rw [jm_w (by omega) (by omega)]
    exact rm_ls20 ho ht hk g (a + 1) _ h2 (by omega) (by omega) hw2
theorem rm_ls12 {o : Nat} {K : jm_H → Prop} (ho : o < 7) (hk : ∀ h2 : jm_H, lw_ h h2 (lp_ (o + 1) 0 0 0) → jm_BV E jm_SH jm_m_Mod_layShorts 0 4 [some (jm_R 78), some (jm_I (lp_ (o + 1) 0 0 0 : Nat)), some (jm_I (jm_w32 ((o : Int) + 1))), none, none, none] [] h2 K) : ∀ (g t : Nat) (x3 : Int) (h1 : jm_H), g + t = 3 → x3 = t → lw_ h h1 (lp_ o t 0 0) → jm_BV E jm_SH jm_m_Mod_layShorts 0 12 [some (jm_R 78), some (jm_I (lp_ o t 0 0 : Nat)), some (jm_I o), some (jm_I x3), none, none] [] h1 K
  | 0, t, x3, h1, hg, e3, hw => by
    subst e3
    have e : lp_ o t 0 0 = lp_ (o + 1) 0 0 0 := by
      unfold lp_
      split <;> split <;> omega
    rw [e] at hw ⊢
    exact jb_Mod_layShorts_12 ⟨fun _ => hk h1 hw, fun z => by omega⟩
  | g + 1, t, x3, h1, hg, e3, hw => by
    subst e3
    refine jb_Mod_layShorts_12 ⟨fun z => by omega, fun _ => rm_ls20 ho (by omega) (fun h2 hw2 => ?_) 3 0 _ h1 rfl rfl hw⟩
    rw [jm_w (by omega) (by omega)]
    exact rm_ls12 ho hk g (t + 1) _ h2 (by omega) (by omega) hw2
theorem rm_ls4 {K : jm_H → Prop} (hk : ∀ h2 : jm_H, lw_ h h2 153 → K h2) : ∀ (g o : Nat) (x2 : Int) (h1 : jm_H), g + o = 7 → x2 = o → lw_ h h1 (lp_ o 0 0 0) → jm_BV E jm_SH jm_m_Mod_layShorts 0 4 [some (jm_R 78), some (jm_I (lp_ o 0 0 0 : Nat)), some (jm_I x2), none, none, none] [] h1 K
  | 0, o, x2, h1, hg, e2, hw => by
    subst e2
    have ho : o = 7 := by omega
    subst ho
    exact jb_Mod_layShorts_4 ⟨fun _ => hk h1 hw, fun z => by omega⟩
  | g + 1, o, x2, h1, hg, e2, hw => by
    subst e2
    refine jb_Mod_layShorts_4 ⟨fun z => by omega, fun _ => rm_ls12 (by omega) (fun h2 hw2 => ?_) 3 0 _ h1 rfl rfl hw⟩
    rw [jm_w (by omega) (by omega)]
    exact rm_ls4 hk g (o + 1) _ h2 (by omega) (by omega) hw2
theorem rm_layShorts {K : jm_H → Prop} (hk : ∀ h2 : jm_H, lw_ h h2 153 → K h2) : jm_CV E jm_SH jm_m_Mod_layShorts 0 [jm_R 78] h K :=
  jb_Mod_layShorts (rm_ls4 hk 7 0 _ h rfl rfl ⟨fun _ _ _ => rfl, fun c hc => absurd hc (by simp [lp_])⟩)
end LS
/-- a row's numbers in the reference's array -/
def am_ (h : jm_H) (cs : List Nat) : Prop := ∀ i c, cs[i]? = some c → h 114 i = (c : Nat)
section AL
variable {E : jm_Env} {h : jm_H} {T : Nat → Nat → Nat} {cs : List Nat}
def sm_M (h : jm_H) (T : Nat → Nat → Nat) : Prop := (∀ c, c < 153 → h 113 c = (sn_ (dk_ c) : Nat)) ∧ ∀ p, p < 256 → h 112 p = (T (p / 16) (p % 16) : Nat)
theorem rm_al23 {p : Nat} {K : Int → jm_H → Prop} (hs : cs.length ≤ 3) (hv : ∀ c ∈ cs, c < 153) (hp : p < 256) (hk : ∀ h2 : jm_H, (∀ u v, ¬ u = 111 → h2 u v = h u v) → (fr_ (cs.map dk_) (i0_ (p / 16) (p % 16)) 0 = T (p / 16) (p % 16) → jm_BI E jm_SH jm_m_Mod_isAlike 1 2 [some (jm_R 78), some (jm_I cs.length), some (jm_I (jm_w32 ((p : Int) + 1))), none, none] [] h2 K) ∧ (¬ fr_ (cs.map dk_) (i0_ (p / 16) (p % 16)) 0 = T (p / 16) (p % 16) → K 0 h2)) : ∀ (l l2 : List Nat) (x3 : Int) (h1 : jm_H), cs = l2 ++ l → x3 = l2.length → am_ h1 cs → sm_M h1 T → (∀ u v, ¬ u = 111 → h1 u v = h u v) → (∀ q, q < 6 → h1 111 q = (fr_ (l2.map dk_) (i0_ (p / 16) (p % 16)) q : Nat)) → jm_BI E jm_SH jm_m_Mod_isAlike 1 23 [some (jm_R 78), some (jm_I cs.length), some (jm_I p), some (jm_I x3), none] [] h1 K
  | [], l2, x3, h1, hl, hx, ha, hm, hf, h111 => by
    subst hx
    rw [List.append_nil] at hl
    obtain ⟨k1, k0⟩ := hk h1 hf
    refine jb_Mod_isAlike_23 ⟨fun _ => ⟨by omega, ?_⟩, fun q => by rw [hl] at q; omega⟩
    rw [jm_tn, h111 0 (by omega), hm.2 p hp, ← hl]
    exact ⟨fun z => k1 (by omega), fun z => k0 (fun y => z (by rw [y]))⟩
  | c :: l, l2, x3, h1, hl, hx, ha, hm, hf, h111 => by
    subst hx
    have hlen : cs.length = l2.length + (l.length + 1) := by rw [hl]; simp
    have hget : cs[l2.length]? = some c := by rw [hl]; simp
    have e0 := ha _ _ hget
    have hc := hv c (by rw [hl]; simp)
    obtain ⟨c1, c2, c3, c4, -⟩ := dk_vi hc
    obtain ⟨d1, d2, d3, d4⟩ := dk_3 ⟨c, hc⟩
    simp only at d1 d2 d3 d4
    have h16 : ∀ q, fr_ (l2.map dk_) (i0_ (p / 16) (p % 16)) q < 16 := fr_lt _ _ (i0_lt (by omega) (by omega))
    refine jb_Mod_isAlike_23 ⟨fun q => by omega, fun _ => ?_⟩
    rw [jm_tn, e0, jm_tn, hm.1 c hc, d1, d2, d3, d4, jm_tn, jm_tn, jm_tn, h111 _ (by omega), h111 _ (by omega)]
    refine ⟨by omega, by omega, by omega, by omega, rm_worked (h16 _) (h16 _) ⟨by omega, ?_⟩⟩
    rw [jm_w (by omega) (by omega)]
    refine rm_al23 hs hv hp hk l (l2 ++ [c]) _ _ (by rw [hl]; simp) (by simp) (fun i d hd => by rw [up_o (by omega)]; exact ha i d hd) ⟨fun d hd => by rw [up_o (by omega)]; exact hm.1 d hd, fun q hq => by rw [up_o (by omega)]; exact hm.2 q hq⟩ (fun u v z => by rw [up_o (by omega)]; exact hf u v z) (fun q hq => ?_)
    rw [List.map_append, List.map_cons, List.map_nil, fr_app]
    show _ = ((ev_ (dk_ c) (fr_ (l2.map dk_) (i0_ (p / 16) (p % 16))) q : Nat) : Int)
    unfold ev_
    by_cases e : q = (dk_ c).2.1
    · rw [if_pos e, e, up_s]
    · rw [if_neg e, up_o (by omega)]
      exact h111 q hq
theorem rm_al2 {K : Int → jm_H → Prop} (hs : cs.length ≤ 3) (hv : ∀ c ∈ cs, c < 153) (k1 : D_ T (cs.map dk_) → ∀ h2 : jm_H, (∀ u v, ¬ u = 111 → h2 u v = h u v) → K 1 h2) (k0 : ¬ D_ T (cs.map dk_) → ∀ h2 : jm_H, (∀ u v, ¬ u = 111 → h2 u v = h u v) → K 0 h2) : ∀ (g p : Nat) (x2 : Int) (h1 : jm_H), g + p = 256 → x2 = p → am_ h1 cs → sm_M h1 T → (∀ u v, ¬ u = 111 → h1 u v = h u v) → (∀ p2, p2 < p → fr_ (cs.map dk_) (i0_ (p2 / 16) (p2 % 16)) 0 = T (p2 / 16) (p2 % 16)) → jm_BI E jm_SH jm_m_Mod_isAlike 1 2 [some (jm_R 78), some (jm_I cs.length), some (jm_I x2), none, none] [] h1 K
  | 0, p, x2, h1, hg, e2, ha, hm, hf, hd => by
    subst e2
    refine jb_Mod_isAlike_2 ⟨fun _ => k1 (fun a w z1 z2 => ?_) h1 hf, fun z => by omega⟩
    have := hd (16 * a + w) (by omega)
    rw [show (16 * a + w) / 16 = a by omega, show (16 * a + w) % 16 = w by omega] at this
    exact this
  | g + 1, p, x2, h1, hg, e2, ha, hm, hf, hd => by
    subst e2
    refine jb_Mod_isAlike_2 ⟨fun z => by omega, fun _ => ?_⟩
    obtain ⟨q1, q2⟩ := dk_4 ⟨p, by omega⟩
    simp only at q1 q2
    rw [q1, q2]
    refine rm_begin (fun h2 c1 c2 => ?_)
    refine rm_al23 (h := h) (T := T) hs hv (show p < 256 by omega) (fun h3 d1 => ⟨fun z => ?_, fun z => k0 (fun y => z (y _ _ (by omega) (by omega))) h3 d1⟩) cs [] _ h2 (by simp) rfl (fun i c hc => by rw [c1 _ _ (by omega)]; exact ha i c hc) ⟨fun c hc => by rw [c1 _ _ (by omega)]; exact hm.1 c hc, fun q hq => by rw [c1 _ _ (by omega)]; exact hm.2 q hq⟩ (fun u v z => by rw [c1 u v z]; exact hf u v z) c2
    rw [jm_w (by omega) (by omega)]
    refine rm_al2 hs hv k1 k0 g (p + 1) _ h3 (by omega) (by omega) (fun i c hc => ?_) ⟨fun c hc => ?_, fun q hq => ?_⟩ d1 (fun p2 hp2 => ?_)
    · rw [d1 _ _ (by omega), ← hf _ _ (by omega)]; exact ha i c hc
    · rw [d1 _ _ (by omega), ← hf _ _ (by omega)]; exact hm.1 c hc
    · rw [d1 _ _ (by omega), ← hf _ _ (by omega)]; exact hm.2 q hq
    · by_cases e : p2 = p
      · subst e; exact z
      · exact hd p2 (by omega)
theorem rm_alike {K : Int → jm_H → Prop} (hs : cs.length ≤ 3) (hv : ∀ c ∈ cs, c < 153) (ha : am_ h cs) (hm : sm_M h T) (k1 : D_ T (cs.map dk_) → ∀ h2 : jm_H, (∀ u v, ¬ u = 111 → h2 u v = h u v) → K 1 h2) (k0 : ¬ D_ T (cs.map dk_) → ∀ h2 : jm_H, (∀ u v, ¬ u = 111 → h2 u v = h u v) → K 0 h2) : jm_CI E jm_SH jm_m_Mod_isAlike 1 [jm_R 78, jm_I cs.length] h K :=
  jb_Mod_isAlike (rm_al2 hs hv k1 k0 256 0 _ h rfl rfl ha hm (fun _ _ _ => rfl) (fun p2 h2 => by omega))
end AL
