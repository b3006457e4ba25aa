/-! say, wipe, fault, told; patterns: g p 0 head, g p 1 price, g p (i + 2) sign i, L p how many signs -/
def pa_C (h : jm_H) (m : Nat) (g : Nat → Nat → Int) (L : Nat → Nat) : Prop := h 9 4 = m ∧ m ≤ 16 ∧ ∀ p, p < m → h 10 p = g p 0 ∧ h 11 p = g p 1 ∧ h 12 p = L p ∧ ∀ i, i < L p → h (14 + p) i = g p (i + 2)
def pa_M (h : jm_H) (m : Nat) (g : Nat → Nat → Int) (L : Nat → Nat) : Prop := h 78 14 = m ∧ m ≤ 16 ∧ ∀ p, p < m → h 86 p = g p 0 ∧ h 87 p = g p 1 ∧ h 89 p = L p ∧ ∀ i, i < L p → h 88 (12 * p + i) = g p (i + 2)
def pa_ok (m : Nat) (g : Nat → Nat → Int) (L : Nat → Nat) : Prop := ∀ p, p < m → (g p 0 = 0 ∨ g p 0 = 1) ∧ (0 ≤ g p 1 ∧ g p 1 ≤ 20) ∧ L p ≤ 12 ∧ sp_ (fun i => g p (i + 2)) (L p) 1 0
def hd_ (c : Int) : Int := if c = 82 then 0 else if c = 65 then 1 else -1
def pa_al (n : Nat) (f : Nat → Int) (x : Int) : Prop := n ≤ 12 ∧ wk_ 1 f n 0 (some []) = -6 ∧ ¬ (n = 1 ∧ hd_ (f 0) = x)
def pa_g (g : Nat → Nat → Int) (m : Nat) (f : Nat → Int) (x y : Int) : Nat → Nat → Int := fun p j => if p = m then (if j = 0 then x else if j = 1 then y else f (j - 2)) else g p j
def pa_L (L : Nat → Nat) (m n : Nat) : Nat → Nat := fun p => if p = m then n else L p
theorem pa_ok_new {m n : Nat} {g : Nat → Nat → Int} {L : Nat → Nat} {f : Nat → Int} {x y : Int} (ho : pa_ok m g L) (hx : x = 0 ∨ x = 1) (hy : 0 ≤ y ∧ y ≤ 20) (ha : pa_al n f x) : pa_ok (m + 1) (pa_g g m f x y) (pa_L L m n) := by
  intro p hp
  by_cases e : p = m
  · subst e
    have h0 : sp_ f n 1 0 := wk_sp n 0 (some []) (fun s2 e2 => by
      cases e2
      intro q hq
      cases hq) ha.2.1
    have e1 : (fun i => pa_g g p f x y p (i + 2)) = f := by
      funext i
      simp [pa_g]
    rw [e1]
    simpa [pa_g, pa_L] using ⟨hx, hy, ha.1, h0⟩
  · have := ho p (by omega)
    have e1 : (fun i => pa_g g m f x y p (i + 2)) = fun i => g p (i + 2) := by
      funext i
      simp [pa_g, e]
    rw [e1]
    simpa [pa_g, pa_L, e] using this
section PA
variable {E : jm_Env} {h : jm_H} {n m : Nat} {f : Nat → Int} {g : Nat → Nat → Int} {L : Nat → Nat}
theorem rc_hd {c : Int} {K : Int → jm_H → Prop} (hk : K (hd_ c) h) : jm_CI E jm_SH jm_m_Patterns_headOf 0 [jm_I c] h K := by
  unfold hd_ at hk
  refine rc_headOf (fun q => ?_) (fun q => ?_) (fun q q2 => ?_)
  · rw [if_pos q] at hk; exact hk
  · rw [if_neg (by omega), if_pos q] at hk; exact hk
  · rw [if_neg q, if_neg q2] at hk; exact hk
theorem rm_hd {c : Int} {K : Int → jm_H → Prop} (hk : ∀ v : Int, (0 ≤ hd_ c → v = hd_ c) → (hd_ c < 0 → v = -6) → K v h) : jm_CI E jm_SH jm_m_Mod_headFor 0 [jm_I c] h K := by
  unfold hd_ at hk
  refine jb_Mod_headFor ⟨fun q => ⟨fun q2 => ?_, fun q2 => ?_⟩, fun q => ?_⟩
  · rw [if_neg q, if_neg q2] at hk; exact hk _ (fun w => by omega) (fun _ => rfl)
  · rw [if_neg q, if_pos q2] at hk; exact hk _ (fun _ => rfl) (fun w => by omega)
  · rw [if_pos q] at hk; exact hk _ (fun _ => rfl) (fun w => by omega)
theorem tc_say {x : Int} {K : Int → jm_H → Prop} (hp : pd_C h n f) (k0 : ¬ (33 ≤ x ∧ x ≤ 126) → K (-2) h) (kf : 33 ≤ x ∧ x ≤ 126 → n = 60 → K (-4) h) (kk : 33 ≤ x ∧ x ≤ 126 → n < 60 → ∀ h2 : jm_H, pd_C h2 (n + 1) (fun i => if i = n then x else f i) → (∀ a b, ¬ (a = 2 ∨ (a = 1 ∧ b = 2)) → h2 a b = h a b) → K ((n : Int) + 1) h2) : jm_CI E jm_SH jm_m_Top_say 1 [jm_R 0, jm_I x] h K := by
  obtain ⟨p1, p2, p3⟩ := hp
  refine jb_Top_say ⟨fun q => k0 (by omega), fun q => ⟨fun z => ?_, fun z => k0 (by omega)⟩⟩
  refine jb_Pad_lay ⟨fun w => ?_, fun w => ⟨fun _ => kf (by omega) (by omega), fun u => absurd rfl u⟩⟩
  rw [p1] at w ⊢
  rw [jm_tn, jm_w (by omega) (by omega), up_s]
  refine ⟨by omega, fun u => by omega, fun _ => kk (by omega) (by omega) _ ⟨?_, by omega, fun i hi => ?_⟩ (fun a b u => ?_)⟩
  · rw [up_s]; omega
  · rw [up_o (by omega)]
    by_cases e : i = n
    · subst e
      rw [up_s]
      show x = if i = i then x else f i
      rw [if_pos rfl]
    · rw [up_o (by omega), p3 i (by omega)]
      show _ = if i = n then x else f i
      rw [if_neg e]
  · rw [up_o (by omega), up_o (by omega)]
theorem mc_say {x : Int} {K : Int → jm_H → Prop} (hp : pd_M h n f) (k0 : ¬ (33 ≤ x ∧ x ≤ 126) → K (-2) h) (kf : 33 ≤ x ∧ x ≤ 126 → n = 60 → K (-4) h) (kk : 33 ≤ x ∧ x ≤ 126 → n < 60 → ∀ h2 : jm_H, pd_M h2 (n + 1) (fun i => if i = n then x else f i) → (∀ a b, ¬ (a = 79 ∨ (a = 78 ∧ b = 1)) → h2 a b = h a b) → K ((n : Int) + 1) h2) : jm_CI E jm_SH jm_m_Mod_say 1 [jm_R 78, jm_I x] h K := by
  obtain ⟨p1, p2, p3⟩ := hp
  refine jb_Mod_say (rm_in (fun q => ⟨fun _ => ?_, fun z => by omega⟩) (fun q => ⟨fun z => absurd rfl z, fun _ => k0 q⟩))
  rw [p1]
  refine ⟨fun w => ⟨by omega, ?_⟩, fun w => kf q (by omega)⟩
  rw [jm_tn, jm_w (by omega) (by omega)]
  refine kk q (by omega) _ ⟨?_, by omega, fun i hi => ?_⟩ (fun a b u => ?_)
  · rw [up_s]; omega
  · rw [up_o (by omega)]
    by_cases e : i = n
    · subst e
      rw [up_s]
      show x = if i = i then x else f i
      rw [if_pos rfl]
    · rw [up_o (by omega), p3 i (by omega)]
      show _ = if i = n then x else f i
      rw [if_neg e]
  · rw [up_o (by omega), up_o (by omega)]
theorem tc_wipe {K : Int → jm_H → Prop} (hp : pd_C h n f) (kk : K n (jm_up h 1 2 0)) : jm_CI E jm_SH jm_m_Top_wipe 0 [jm_R 0] h K := by
  refine jb_Top_wipe ?_
  rw [hp.1]
  exact kk
theorem mc_wipe {K : Int → jm_H → Prop} (hp : pd_M h n f) (kk : K n (jm_up h 78 1 0)) : jm_CI E jm_SH jm_m_Mod_wipe 0 [jm_R 78] h K := by
  refine jb_Mod_wipe ?_
  rw [hp.1]
  exact kk
theorem tc_fault {K : Int → jm_H → Prop} (hp : pd_C h n f) (kk : ∀ h2, sq_ h h2 → K (wk_ 0 f n 0 (some [])) h2) : jm_CI E jm_SH jm_m_Top_fault 4 [jm_R 0] h K :=
  jb_Top_fault (jb_Pad_faultAsTree (rc_firstFault hp fun h2 e => kk h2 (fun a b z => e a b (fun w => z (Or.inl w)))))
theorem mc_fault {K : Int → jm_H → Prop} (hp : pd_M h n f) (kk : ∀ h2, sq_ h h2 → K (wk_ 0 f n 0 (some [])) h2) : jm_CI E jm_SH jm_m_Mod_fault 4 [jm_R 78] h K :=
  jb_Mod_fault (rm_walk hp fun h2 e _ => kk h2 (fun a b z => e a b (fun w => z (by unfold sc_; unfold wq_ at w; omega))))
/-- what told answers -/
def sp_told (a b c d e x : Int) : Int := if x = 0 then a else if x = 1 then b else if x = 2 then c else if x = 3 then d else if x = 4 then e else -2
theorem tc_told {x : Int} {K : Int → jm_H → Prop} (kk : K (sp_told (h 1 2) (h 4 4) (h 9 4) (h 37 3) (h 56 3) x) h) : jm_CI E jm_SH jm_m_Top_told 0 [jm_R 0, jm_I x] h K := by
  unfold sp_told at kk
  refine jb_Top_told ⟨fun q => ?_, fun q => ?_, fun q => ?_, fun q => ?_, fun q => ?_, fun q => ?_⟩
  · rw [if_pos q] at kk; exact kk
  · rw [if_neg (by omega), if_pos q] at kk; exact kk
  · rw [if_neg (by omega), if_neg (by omega), if_pos q] at kk; exact kk
  · rw [if_neg (by omega), if_neg (by omega), if_neg (by omega), if_pos q] at kk; exact kk
  · rw [if_neg (by omega), if_neg (by omega), if_neg (by omega), if_neg (by omega), if_pos q] at kk; exact kk
  · rw [if_neg (by omega), if_neg (by omega), if_neg (by omega), if_neg (by omega), if_neg (by omega)] at kk; exact kk
theorem mc_told {x : Int} {K : Int → jm_H → Prop} (kk : K (sp_told (h 78 1) (h 78 4) (h 78 14) (h 78 32) (h 78 39) x) h) : jm_CI E jm_SH jm_m_Mod_told 0 [jm_R 78, jm_I x] h K := by
  unfold sp_told at kk
  refine jb_Mod_told ⟨fun q => ?_, fun q => ?_, fun q => ?_, fun q => ?_, fun q => ?_, fun q => ?_⟩
  · rw [if_pos q] at kk; exact kk
  · rw [if_neg (by omega), if_pos q] at kk; exact kk
  · rw [if_neg (by omega), if_neg (by omega), if_pos q] at kk; exact kk
  · rw [if_neg (by omega), if_neg (by omega), if_neg (by omega), if_pos q] at kk; exact kk
  · rw [if_neg (by omega), if_neg (by omega), if_neg (by omega), if_neg (by omega), if_pos q] at kk; exact kk
  · rw [if_neg (by omega), if_neg (by omega), if_neg (by omega), if_neg (by omega), if_neg (by omega)] at kk; exact kk
theorem rc_isHead {x : Int} {K : Int → jm_H → Prop} (k1 : x = 0 ∨ x = 1 → K 1 h) (k0 : ¬ (x = 0 ∨ x = 1) → K 0 h) : jm_CI E jm_SH jm_m_Top_isHead 0 [jm_I x] h K :=
  jb_Top_isHead ⟨fun q => k1 (by omega), fun q => ⟨fun z => k0 (by omega), fun z => k1 (by omega)⟩⟩
theorem rc_isBit {x : Int} {K : Int → jm_H → Prop} (k1 : x = 0 ∨ x = 1 → K 1 h) (k0 : ¬ (x = 0 ∨ x = 1) → K 0 h) : jm_CI E jm_SH jm_m_Top_isBit 0 [jm_I x] h K :=
  jb_Top_isBit ⟨fun q => k1 (by omega), fun q => ⟨fun z => k0 (by omega), fun z => k1 (by omega)⟩⟩
theorem rc_isPrice {x : Int} {K : Int → jm_H → Prop} (k1 : 0 ≤ x ∧ x ≤ 20 → K 1 h) (k0 : ¬ (0 ≤ x ∧ x ≤ 20) → K 0 h) : jm_CI E jm_SH jm_m_Top_isPrice 0 [jm_I x] h K :=
  jb_Top_isPrice ⟨fun q => k0 (by omega), fun q => ⟨fun z => k0 (by omega), fun z => k1 (by omega)⟩⟩
theorem rm_isHead {x : Int} {K : Int → jm_H → Prop} (k1 : x = 0 ∨ x = 1 → K 1 h) (k0 : ¬ (x = 0 ∨ x = 1) → K 0 h) : jm_CI E jm_SH jm_m_Mod_isHead 1 [jm_I x] h K :=
  jb_Mod_isHead (rm_in (fun q => ⟨Or.inr rfl, k1 (by omega)⟩) (fun q => ⟨Or.inl rfl, k0 (by omega)⟩))
theorem tc_clear {K : Int → jm_H → Prop} (hp : pa_C h m g L) (kk : ∀ h2 : jm_H, h2 9 4 = 0 → h2 30 9 = 1 → (∀ a b, ¬ (a = 9 ∧ b = 4) → ¬ (a = 30 ∧ b = 9) → h2 a b = h a b) → K m h2) : jm_CI E jm_SH jm_m_Top_clear 0 [jm_R 0] h K := by
  refine jb_Top_clear ?_
  rw [hp.1]
  exact kk _ (by rw [up_o (by omega), up_s]) (by rw [up_s]) (fun a b z1 z2 => by rw [up_o z2, up_o z1])
theorem mc_clear {K : Int → jm_H → Prop} (hp : pa_M h m g L) (kk : K m (jm_up h 78 14 0)) : jm_CI E jm_SH jm_m_Mod_clear 0 [jm_R 78] h K := by
  refine jb_Mod_clear ?_
  rw [hp.1]
  exact kk
/-- another price -/
def pr_g (g : Nat → Nat → Int) (x : Nat) (v : Int) : Nat → Nat → Int := fun p j => if p = x ∧ j = 1 then v else g p j
theorem pr_ok {x : Nat} {v : Int} (ho : pa_ok m g L) (hv : 0 ≤ v ∧ v ≤ 20) : pa_ok m (pr_g g x v) L := by
  intro p hp
  have := ho p hp
  have e : (fun i => pr_g g x v p (i + 2)) = fun i => g p (i + 2) := by
    funext i
    simp [pr_g]
  rw [e]
  refine ⟨by simpa [pr_g] using this.1, ?_, this.2.2⟩
  unfold pr_g
  split
  · exact hv
  · exact this.2.1
theorem tc_price {x v : Int} {K : Int → jm_H → Prop} (hp : pa_C h m g L) (k0 : ¬ (0 ≤ x ∧ x < m) → K (-1) h) (k1 : 0 ≤ x ∧ x < m → ¬ (0 ≤ v ∧ v ≤ 20) → K (-2) h) (kk : 0 ≤ x ∧ x < m → 0 ≤ v ∧ v ≤ 20 → ∀ h2 : jm_H, pa_C h2 m (pr_g g x.toNat v) L → h2 30 9 = 1 → (∀ a b, ¬ a = 11 → ¬ (a = 30 ∧ b = 9) → h2 a b = h a b) → K (g x.toNat 1) h2) : jm_CI E jm_SH jm_m_Top_price 1 [jm_R 0, jm_I x, jm_I v] h K := by
  obtain ⟨p1, p2, p3⟩ := hp
  refine jb_Top_price ?_
  rw [p1]
  refine ⟨fun q => k0 (by omega), fun q => ⟨fun z => ?_, fun z => k0 (by omega)⟩⟩
  refine rc_isPrice (fun w => ⟨fun _ => ⟨by omega, by omega, ?_⟩, fun u => by omega⟩) (fun w => ⟨fun u => absurd rfl u, fun _ => k1 (by omega) w⟩)
  rw [(p3 x.toNat (by omega)).2.1]
  refine kk (by omega) w _ ⟨?_, p2, fun p hp => ?_⟩ (by rw [up_s]) (fun a b z1 z2 => by rw [up_o z2, up_o (by omega)])
  · rw [up_o (by omega), up_o (by omega), p1]
  · obtain ⟨e0, e1, e2, e3⟩ := p3 p hp
    refine ⟨?_, ?_, ?_, fun i hi => ?_⟩
    · rw [up_o (by omega), up_o (by omega), e0]; simp [pr_g]
    · rw [up_o (by omega)]
      by_cases e : p = x.toNat
      · rw [e, up_s]; simp [pr_g]
      · rw [up_o (by omega), e1]; simp [pr_g, e]
    · rw [up_o (by omega), up_o (by omega), e2]
    · rw [up_o (by omega), up_o (by omega), e3 i hi]; simp [pr_g]
theorem mc_price {x v : Int} {K : Int → jm_H → Prop} (hp : pa_M h m g L) (k0 : ¬ (0 ≤ x ∧ x < m) → K (-1) h) (k1 : 0 ≤ x ∧ x < m → ¬ (0 ≤ v ∧ v ≤ 20) → K (-2) h) (kk : 0 ≤ x ∧ x < m → 0 ≤ v ∧ v ≤ 20 → ∀ h2 : jm_H, pa_M h2 m (pr_g g x.toNat v) L → (∀ a b, ¬ a = 87 → h2 a b = h a b) → K (g x.toNat 1) h2) : jm_CI E jm_SH jm_m_Mod_price 1 [jm_R 78, jm_I x, jm_I v] h K := by
  obtain ⟨p1, p2, p3⟩ := hp
  refine jb_Mod_price ?_
  rw [p1, jm_w (by omega) (by omega)]
  refine rm_in (fun q => ⟨fun _ => ?_, fun u => by omega⟩) (fun q => ⟨fun u => absurd rfl u, fun _ => k0 (by omega)⟩)
  refine rm_in (fun w => ⟨fun _ => ⟨by omega, by omega, ?_⟩, fun u => by omega⟩) (fun w => ⟨fun u => absurd rfl u, fun _ => k1 (by omega) w⟩)
  rw [(p3 x.toNat (by omega)).2.1]
  refine kk (by omega) w _ ⟨?_, p2, fun p hp => ?_⟩ (fun a b z1 => by rw [up_o (by omega)])
  · rw [up_o (by omega), p1]
  · obtain ⟨e0, e1, e2, e3⟩ := p3 p hp
    refine ⟨?_, ?_, ?_, fun i hi => ?_⟩
    · rw [up_o (by omega), e0]; simp [pr_g]
    · by_cases e : p = x.toNat
      · rw [e, up_s]; simp [pr_g]
      · rw [up_o (by omega), e1]; simp [pr_g, e]
    · rw [up_o (by omega), e2]
    · rw [up_o (by omega), e3 i hi]; simp [pr_g]
/-! a new pattern -/
theorem rc_take51 {K : jm_H → Prop} (hm : m < 16) (hn : n ≤ 12) (hk : ∀ h2 : jm_H, (∀ a b, ¬ a = 14 + m → h2 a b = h a b) → (∀ j, j < n → h2 (14 + m) j = f j) → K (jm_up h2 9 4 ((m : Int) + 1))) : ∀ (d i : Nat) (x : Int) (h1 : jm_H), d + i = n → x = i → h1 9 4 = m → h1 12 m = n → (∀ j, j < n → h1 2 j = f j) → (∀ j, j < i → h1 (14 + m) j = f j) → (∀ a b, ¬ a = 14 + m → h1 a b = h a b) → jm_BV E jm_SH jm_m_Patterns_take 1 51 [some (jm_R 9), some (jm_R 1), none, none, some (jm_I x)] [] h1 K
  | 0, i, x, h1, hd, hx, h9, h12, h2, hg, hf => by
    have : i = n := by omega
    subst this
    refine jb_Patterns_take_51 ⟨by omega, ?_⟩
    rw [h9, jm_tn, h12, jm_w (by omega) (by omega)]
    exact ⟨fun _ => hk h1 hf hg, fun q => by omega⟩
  | d + 1, i, x, h1, hd, hx, h9, h12, h2, hg, hf => by
    subst hx
    refine jb_Patterns_take_51 ⟨by omega, ?_⟩
    rw [h9, jm_tn, h12]
    refine ⟨fun q => by omega, fun q => ⟨by omega, by omega, by omega, ?_⟩⟩
    rw [jm_tn, h2 i (by omega), jm_w (by omega) (by omega)]
    refine rc_take51 hm hn hk d (i + 1) _ _ (by omega) (by omega) ?_ ?_ (fun j hj => ?_) (fun j hj => ?_) (fun a b z => ?_)
    · rw [up_o (by omega), h9]
    · rw [up_o (by omega), h12]
    · rw [up_o (by omega), h2 j hj]
    · by_cases e : j = i
      · rw [e, up_s]
      · rw [up_o (by omega), hg j (by omega)]
    · rw [up_o (by omega), hf a b z]
theorem tc_pattern {x y : Int} {K : Int → jm_H → Prop} (hd : pd_C h n f) (hp : pa_C h m g L) (k0 : ¬ ((x = 0 ∨ x = 1) ∧ 0 ≤ y ∧ y ≤ 20) → K (-2) h) (kf : (x = 0 ∨ x = 1) ∧ 0 ≤ y ∧ y ≤ 20 → m = 16 → K (-4) h) (kn : (x = 0 ∨ x = 1) ∧ 0 ≤ y ∧ y ≤ 20 → m < 16 → ¬ pa_al n f x → ∀ h2, sq_ h h2 → K (-5) h2)
    (kk : (x = 0 ∨ x = 1) ∧ 0 ≤ y ∧ y ≤ 20 → m < 16 → pa_al n f x → ∀ h2 : jm_H, pa_C h2 (m + 1) (pa_g g m f x y) (pa_L L m n) → h2 1 2 = 0 → h2 30 9 = 1 → (∀ a b, ¬ (a = 3) → ¬ (9 ≤ a ∧ a ≤ 29) → ¬ (a = 30 ∧ b = 9) → ¬ (a = 1 ∧ b = 2) → h2 a b = h a b) → K m h2) : jm_CI E jm_SH jm_m_Top_pattern 5 [jm_R 0, jm_I x, jm_I y] h K := by
  have hp0 := hp
  obtain ⟨p1, p2, p3⟩ := hp
  refine jb_Top_pattern (rc_isHead (fun q => ⟨fun z => by omega, fun _ => ?_⟩) (fun q => ⟨fun _ => k0 (fun z => q z.1), fun z => absurd rfl z⟩))
  refine rc_isPrice (fun q2 => ⟨fun _ => ⟨fun z => ?_, fun z => kf ⟨q, q2⟩ (by omega)⟩, fun u => by omega⟩) (fun q2 => ⟨fun u => absurd rfl u, fun _ => k0 (fun z => q2 z.2)⟩)
  have hm : m < 16 := by omega
  have no : ¬ pa_al n f x → ∀ h2, (∀ a b, a ≠ 3 → h2 a b = h a b) → K (-5) h2 := fun w h2 e => kn ⟨q, q2⟩ hm w h2 (fun a b z => e a b (fun u => z (Or.inl u)))
  have yes : pa_al n f x → ∀ h2, (∀ a b, a ≠ 3 → h2 a b = h a b) → jm_CV E jm_SH jm_m_Patterns_take 1 [jm_R 9, jm_R 1, jm_I x, jm_I y] h2 (fun h8 => K (jm_w32 ((h8 9 4) - 1)) (jm_up (jm_up h8 30 9 1) 1 2 0)) := fun w h2 e => by
    have hd2 := hd.off e
    have e94 : h2 9 4 = m := by rw [e _ _ (by omega), p1]
    refine jb_Patterns_take ⟨fun _ => ⟨by omega, by omega, by omega, ?_⟩, fun u => by omega⟩
    rw [e94, jm_tn, hd2.1, show min (n : Int) 12 = n by have := w.1; omega]
    refine rc_take51 (h := jm_up (jm_up (jm_up h2 10 m x) 11 m y) 12 m n) (f := f) hm w.1 (fun h3 c1 c2 => ?_) n 0 _ _ rfl rfl ?_ up_s (fun j hj => ?_) (fun j hj => by omega) (fun _ _ _ => rfl)
    · rw [up_s, jm_w (by omega) (by omega), show (m : Int) + 1 - 1 = m by omega]
      refine kk ⟨q, q2⟩ hm w _ ⟨?_, by omega, fun p hp => ?_⟩ up_s ?_ (fun a b z0 z1 z2 z3 => ?_)
      · rw [up_o (by omega), up_o (by omega), up_s]; omega
      · by_cases ep : p = m
        · subst ep
          refine ⟨?_, ?_, ?_, fun i hi => ?_⟩
          · rw [up_o (by omega), up_o (by omega), up_o (by omega), c1 _ _ (by omega), up_o (by omega), up_o (by omega), up_s]; simp [pa_g]
          · rw [up_o (by omega), up_o (by omega), up_o (by omega), c1 _ _ (by omega), up_o (by omega), up_s]; simp [pa_g]
          · rw [up_o (by omega), up_o (by omega), up_o (by omega), c1 _ _ (by omega), up_s]; simp [pa_L]
          · have hi2 : i < n := by simpa [pa_L] using hi
            rw [up_o (by omega), up_o (by omega), up_o (by omega), c2 i hi2]; simp [pa_g]
        · obtain ⟨e0, e1, e2, e3⟩ := p3 p (by omega)
          refine ⟨?_, ?_, ?_, fun i hi => ?_⟩
          · rw [up_o (by omega), up_o (by omega), up_o (by omega), c1 _ _ (by omega), up_o (by omega), up_o (by omega), up_o (by omega), e _ _ (by omega), e0]; simp [pa_g, ep]
          · rw [up_o (by omega), up_o (by omega), up_o (by omega), c1 _ _ (by omega), up_o (by omega), up_o (by omega), up_o (by omega), e _ _ (by omega), e1]; simp [pa_g, ep]
          · rw [up_o (by omega), up_o (by omega), up_o (by omega), c1 _ _ (by omega), up_o (by omega), up_o (by omega), up_o (by omega), e _ _ (by omega), e2]; simp [pa_L, ep]
          · have hi2 : i < L p := by simpa [pa_L, ep] using hi
            rw [up_o (by omega), up_o (by omega), up_o (by omega), c1 _ _ (by omega), up_o (by omega), up_o (by omega), up_o (by omega), e _ _ (by omega), e3 i hi2]; simp [pa_g, ep]
      · rw [up_o (by omega), up_s]
      · rw [up_o (by omega), up_o (by omega), up_o (by omega), c1 _ _ (by omega), up_o (by omega), up_o (by omega), up_o (by omega), e _ _ (by omega)]
    · rw [up_o (by omega), up_o (by omega), up_o (by omega), e94]
    · rw [up_o (by omega), up_o (by omega), up_o (by omega), hd2.2.2 j hj]
  refine jb_Patterns_allows ?_
  rw [hd.1]
  refine ⟨fun w => ⟨fun u => absurd rfl u, fun _ => no (fun v => by have := v.1; omega) h (fun _ _ _ => rfl)⟩, fun w => ?_⟩
  refine jb_Pad_faultAsPattern (rc_firstFault hd fun h2 e => ?_)
  have hd2 := hd.off e
  rw [hd2.1]
  refine ⟨fun u => ⟨fun v => ⟨fun _ => yes ⟨by omega, u, fun t => v (by omega)⟩ h2 e, fun t => by omega⟩, fun v => rc_hd ?_⟩, fun u => ⟨fun t => absurd rfl t, fun _ => no (fun t => u t.2.1) h2 e⟩⟩
  rw [hd2.2.2 0 (by omega)]
  exact ⟨fun t => ⟨fun r => absurd rfl r, fun _ => no (fun r => r.2.2 ⟨by omega, t⟩) h2 e⟩, fun t => ⟨fun _ => yes ⟨by omega, u, fun r => t r.2⟩ h2 e, fun r => by omega⟩⟩
theorem rm_pat121 {K : Int → jm_H → Prop} (hm : m < 16) (hn : n ≤ 12) (hk : ∀ h2 : jm_H, (∀ a b, ¬ (a = 88 ∧ 12 * m ≤ b ∧ b < 12 * m + 12) → h2 a b = h a b) → (∀ j, j < n → h2 88 (12 * m + j) = f j) → K m (jm_up (jm_up h2 78 1 0) 78 14 ((m : Int) + 1))) : ∀ (d i : Nat) (x : Int) (h1 : jm_H), d + i = n → x = i → h1 78 14 = m → h1 78 1 = n → (∀ j, j < n → h1 79 j = f j) → (∀ j, j < i → h1 88 (12 * m + j) = f j) → (∀ a b, ¬ (a = 88 ∧ 12 * m ≤ b ∧ b < 12 * m + 12) → h1 a b = h a b) → jm_BI E jm_SH jm_m_Mod_pattern 4 121 [some (jm_R 78), none, none, none, some (jm_I x)] [] h1 K
  | 0, i, x, h1, hd, hx, h9, h12, h2, hg, hf => by
    have : i = n := by omega
    subst this
    refine jb_Mod_pattern_121 ?_
    rw [h9, h12, jm_w (x := (m : Int) + 1) (by omega) (by omega), jm_w (by omega) (by omega), show (m : Int) + 1 - 1 = m by omega]
    exact ⟨fun _ => hk h1 hf hg, fun q => by omega⟩
  | d + 1, i, x, h1, hd, hx, h9, h12, h2, hg, hf => by
    subst hx
    refine jb_Mod_pattern_121 ?_
    rw [h9, h12, jm_w (x := 12 * (m : Int)) (by omega) (by omega), jm_w (x := 12 * (m : Int) + (i : Int)) (by omega) (by omega), jm_w (x := (i : Int) + 1) (by omega) (by omega), show 12 * (m : Int) + (i : Int) = ((12 * m + i : Nat) : Int) by omega, jm_tn, jm_tn, h2 i (by omega)]
    refine ⟨fun q => by omega, fun q => ⟨by omega, by omega, ?_⟩⟩
    refine rm_pat121 hm hn hk d (i + 1) _ _ (by omega) (by omega) ?_ ?_ (fun j hj => ?_) (fun j hj => ?_) (fun a b z => ?_)
    · rw [up_o (by omega), h9]
    · rw [up_o (by omega), h12]
    · rw [up_o (by omega), h2 j hj]
    · by_cases e : j = i
      · rw [e, up_s]
      · rw [up_o (by omega), hg j (by omega)]
    · rw [up_o (by omega), hf a b z]
theorem mc_pattern {x y : Int} {K : Int → jm_H → Prop} (hd : pd_M h n f) (hp : pa_M h m g L) (ho : pa_ok m g L) (k0 : ¬ ((x = 0 ∨ x = 1) ∧ 0 ≤ y ∧ y ≤ 20) → K (-2) h) (kf : (x = 0 ∨ x = 1) ∧ 0 ≤ y ∧ y ≤ 20 → m = 16 → K (-4) h) (kn : (x = 0 ∨ x = 1) ∧ 0 ≤ y ∧ y ≤ 20 → m < 16 → ¬ pa_al n f x → ∀ h2, sq_ h h2 → K (-5) h2)
    (kk : (x = 0 ∨ x = 1) ∧ 0 ≤ y ∧ y ≤ 20 → m < 16 → pa_al n f x → ∀ h2 : jm_H, pa_M h2 (m + 1) (pa_g g m f x y) (pa_L L m n) → h2 78 1 = 0 → (∀ a b, ¬ (86 ≤ a ∧ a ≤ 89) → ¬ (82 ≤ a ∧ a ≤ 84) → ¬ (a = 78 ∧ (b = 1 ∨ b = 8 ∨ b = 14)) → h2 a b = h a b) → K m h2) : jm_CI E jm_SH jm_m_Mod_pattern 4 [jm_R 78, jm_I x, jm_I y] h K := by
  have hp0 := hp
  obtain ⟨p1, p2, p3⟩ := hp
  refine jb_Mod_pattern (rm_isHead (fun q => ⟨fun z => by omega, fun _ => ?_⟩) (fun q => ⟨fun _ => k0 (fun z => q z.1), fun z => absurd rfl z⟩))
  refine rm_in (fun q2 => ⟨fun _ => ?_, fun u => by omega⟩) (fun q2 => ⟨fun u => absurd rfl u, fun _ => k0 (fun z => q2 z.2)⟩)
  rw [p1, hd.1]
  refine ⟨fun z => ?_, fun z => kf ⟨q, q2⟩ (by omega)⟩
  have hm : m < 16 := by omega
  have no : ¬ pa_al n f x → ∀ h2, (∀ a b, ¬ wq_ a b → h2 a b = h a b) → K (-5) h2 := fun w h2 e => kn ⟨q, q2⟩ hm w h2 (fun a b z => e a b (fun u => z (by unfold sc_; unfold wq_ at u; omega)))
  have go : ¬ (n = 1 ∧ hd_ (f 0) = x) → jm_BI E jm_SH jm_m_Mod_pattern 4 59 [some (jm_R 78), some (jm_I x), some (jm_I y), none, none] [] h K := fun own => by
    refine jb_Mod_pattern_59 ?_
    rw [hd.1]
    refine ⟨fun w => no (fun v => by have := v.1; omega) h (fun _ _ _ => rfl), fun w => rm_walk hd fun h2 e _ => ?_⟩
    by_cases u : wk_ 1 f n 0 (some []) = -6
    · have al : pa_al n f x := ⟨by omega, u, own⟩
      have hd2 := hd.off e
      have e94 : h2 78 14 = m := by rw [e _ _ (by unfold wq_; omega), p1]
      rw [u, e94, jm_tn, hd2.1]
      refine ⟨fun _ => ⟨by omega, by omega, by omega, ?_⟩, fun t => by omega⟩
      refine rm_pat121 (h := jm_up (jm_up (jm_up h2 86 m x) 87 m y) 89 m n) (f := f) hm (by omega) (fun h3 c1 c2 => ?_) n 0 _ _ rfl rfl ?_ ?_ (fun j hj => ?_) (fun j hj => by omega) (fun _ _ _ => rfl)
      · refine kk ⟨q, q2⟩ hm al _ ⟨?_, by omega, fun p hp => ?_⟩ ?_ (fun a b z1 z2 z3 => ?_)
        · rw [up_s]; omega
        · by_cases ep : p = m
          · subst ep
            refine ⟨?_, ?_, ?_, fun i hi => ?_⟩
            · rw [up_o (by omega), up_o (by omega), c1 _ _ (by omega), up_o (by omega), up_o (by omega), up_s]; simp [pa_g]
            · rw [up_o (by omega), up_o (by omega), c1 _ _ (by omega), up_o (by omega), up_s]; simp [pa_g]
            · rw [up_o (by omega), up_o (by omega), c1 _ _ (by omega), up_s]; simp [pa_L]
            · have hi2 : i < n := by simpa [pa_L] using hi
              rw [up_o (by omega), up_o (by omega), c2 i hi2]; simp [pa_g]
          · obtain ⟨e0, e1, e2, e3⟩ := p3 p (by omega)
            have hL := (ho p (by omega)).2.2.1
            refine ⟨?_, ?_, ?_, fun i hi => ?_⟩
            · rw [up_o (by omega), up_o (by omega), c1 _ _ (by omega), up_o (by omega), up_o (by omega), up_o (by omega), e _ _ (by unfold wq_; omega), e0]; simp [pa_g, ep]
            · rw [up_o (by omega), up_o (by omega), c1 _ _ (by omega), up_o (by omega), up_o (by omega), up_o (by omega), e _ _ (by unfold wq_; omega), e1]; simp [pa_g, ep]
            · rw [up_o (by omega), up_o (by omega), c1 _ _ (by omega), up_o (by omega), up_o (by omega), up_o (by omega), e _ _ (by unfold wq_; omega), e2]; simp [pa_L, ep]
            · have hi2 : i < L p := by simpa [pa_L, ep] using hi
              rw [up_o (by omega), up_o (by omega), c1 _ _ (by omega), up_o (by omega), up_o (by omega), up_o (by omega), e _ _ (by unfold wq_; omega), e3 i hi2]; simp [pa_g, ep]
        · rw [up_o (by omega), up_s]
        · rw [up_o (by omega), up_o (by omega), c1 _ _ (by omega), up_o (by omega), up_o (by omega), up_o (by omega), e _ _ (by unfold wq_; omega)]
      · rw [up_o (by omega), up_o (by omega), up_o (by omega), e94]
      · rw [up_o (by omega), up_o (by omega), up_o (by omega), hd2.1]; rfl
      · rw [up_o (by omega), up_o (by omega), up_o (by omega), hd2.2.2 j hj]
    · have := wk_val n 0 (some []) u
      exact ⟨fun t => by omega, fun _ => no (fun t => u t.2.1) h2 e⟩
  refine ⟨fun w => go (fun v => w (by omega)), fun w => rm_hd fun v v1 v2 => ?_⟩
  rw [hd.2.2 0 (by omega)] at v1 v2
  have hb : hd_ (f 0) = 0 ∨ hd_ (f 0) = 1 ∨ hd_ (f 0) = -1 := by
    unfold hd_
    split
    · omega
    · split <;> omega
  refine ⟨fun u => go (fun t => u (by rw [v1 (by omega)]; exact t.2)), fun u => ?_⟩
  have hh : hd_ (f 0) = x := by
    rcases hb with t | t | t
    · rw [← v1 (by omega)]; exact u
    · rw [← v1 (by omega)]; exact u
    · have := v2 (by omega); omega
  have nn : K (-5) h := no (fun t => t.2.2 ⟨by omega, hh⟩) h (fun _ _ _ => rfl)
  exact ⟨fun _ => nn, fun _ => nn⟩
end PA
