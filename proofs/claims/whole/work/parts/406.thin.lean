/-! what nobody uses taken out -/
def rm_r (r : Nat → Nat → Int) (i : Nat) : Nat → Nat → Int := fun l k => if k < i then r l k else r l (k + 1)
theorem rm_ok {n i : Nat} {r : Nat → Nat → Int} (ho : rw_ok n r) : rw_ok (n - 1) (rm_r r i) := by
  intro k hk
  unfold rm_r
  by_cases q : k < i
  · simpa [q] using ho k (by omega)
  · simpa [q] using ho (k + 1) (by omega)
theorem rw_C.g {h : jm_H} {n : Nat} {r : Nat → Nat → Int} (hr : rw_C h n r) {l i : Nat} (hl : l < 6) (hi : i < n) : h (39 + l) i = r l i := by
  obtain ⟨e0, e1, e2, e3, e4, e5⟩ := hr.2.2 i hi
  rcases (show l = 0 ∨ l = 1 ∨ l = 2 ∨ l = 3 ∨ l = 4 ∨ l = 5 by omega) with rfl | rfl | rfl | rfl | rfl | rfl
  · exact e0
  · exact e1
  · exact e2
  · exact e3
  · exact e4
  · exact e5
theorem rw_C.mk {h : jm_H} {n : Nat} {r : Nat → Nat → Int} (h1 : h 37 3 = n) (h2 : n ≤ 12) (h3 : ∀ l i, l < 6 → i < n → h (39 + l) i = r l i) : rw_C h n r :=
  ⟨h1, h2, fun i hi => ⟨h3 0 i (by omega) hi, h3 1 i (by omega) hi, h3 2 i (by omega) hi, h3 3 i (by omega) hi, h3 4 i (by omega) hi, h3 5 i (by omega) hi⟩⟩
theorem rw_M.g {h : jm_H} {n : Nat} {r : Nat → Nat → Int} (hr : rw_M h n r) {l i : Nat} (hl : l < 6) (hi : i < n) : h (99 + l) i = r l i := by
  obtain ⟨e0, e1, e2, e3, e4, e5⟩ := hr.2.2 i hi
  rcases (show l = 0 ∨ l = 1 ∨ l = 2 ∨ l = 3 ∨ l = 4 ∨ l = 5 by omega) with rfl | rfl | rfl | rfl | rfl | rfl
  · exact e0
  · exact e1
  · exact e2
  · exact e3
  · exact e4
  · exact e5
theorem rw_M.mk {h : jm_H} {n : Nat} {r : Nat → Nat → Int} (h1 : h 78 32 = n) (h2 : n ≤ 12) (h3 : ∀ l i, l < 6 → i < n → h (99 + l) i = r l i) : rw_M h n r :=
  ⟨h1, h2, fun i hi => ⟨h3 0 i (by omega) hi, h3 1 i (by omega) hi, h3 2 i (by omega) hi, h3 3 i (by omega) hi, h3 4 i (by omega) hi, h3 5 i (by omega) hi⟩⟩
section TH
variable {E : jm_Env} {h : jm_H} {n i : Nat} {r : Nat → Nat → Int} {kp : Int}
/-- while i is being removed: lines below L are done, of line L the places below k -/
def rv_ (h h1 : jm_H) (n i : Nat) (r : Nat → Nat → Int) (L k : Nat) : Prop := h1 37 3 = ((n - 1 : Nat) : Int) ∧ h1 37 4 = h 37 4 ∧ (∀ a b, ¬ pc_ a b → h1 a b = h a b) ∧ (∀ l j, l < L → l < 6 → j < n - 1 → h1 (39 + l) j = rm_r r i l j) ∧ (∀ j, L < 6 → j < k → j < n - 1 → h1 (39 + L) j = rm_r r i L j) ∧ (∀ j, L < 6 → k ≤ j → j < n → h1 (39 + L) j = r L j) ∧ ∀ l j, L < l → l < 6 → j < n → h1 (39 + l) j = r l j
theorem rc_rv29 {K : jm_H → Prop} {L : Nat} (hn : n ≤ 12) (hi : i < n) (hL : L < 6) (hk : ∀ h2, rv_ h h2 n i r L n → jm_BV E jm_SH jm_m_Row_remove 1 21 [some (jm_R 37), some (jm_I i), some (jm_I (jm_w32 ((L : Int) + 1))), none] [] h2 K) : ∀ (m k : Nat) (x3 : Int) (h1 : jm_H), m + k = n - 1 → i ≤ k → x3 = k → rv_ h h1 n i r L k → jm_BV E jm_SH jm_m_Row_remove 1 29 [some (jm_R 37), some (jm_I i), some (jm_I L), some (jm_I x3)] [] h1 K
  | 0, k, x3, h1, hm, hik, hx, hv => by
    subst hx
    obtain ⟨a1, a2, a3, a4, a5, a6, a7⟩ := hv
    refine jb_Row_remove_29 ⟨fun q => hk h1 ⟨a1, a2, a3, a4, fun j z1 z2 z3 => a5 j z1 (by omega) z3, fun j z1 z2 z3 => by omega, a7⟩, fun q => by rw [a1] at q; omega⟩
  | m + 1, k, x3, h1, hm, hik, hx, hv => by
    subst hx
    obtain ⟨a1, a2, a3, a4, a5, a6, a7⟩ := hv
    refine jb_Row_remove_29 ⟨fun q => by rw [a1] at q; omega, fun q => ?_⟩
    rw [jm_w (x := (k : Int) + 1) (by omega) (by omega)]
    refine ⟨by omega, by omega, by omega, by omega, ?_⟩
    rw [jm_tn, jm_tn, show (k : Int) + 1 = ((k + 1 : Nat) : Int) by omega, jm_tn, a6 (k + 1) hL (by omega) (by omega)]
    have hne : ∀ l, l ≠ L → ¬ (39 + l = 39 + L) := fun l z => by omega
    refine rc_rv29 hn hi hL hk m (k + 1) _ _ (by omega) (by omega) rfl ⟨?_, ?_, fun a b hp => ?_, fun l j z1 z2 z3 => ?_, fun j z1 z2 z3 => ?_, fun j z1 z2 z3 => ?_, fun l j z1 z2 z3 => ?_⟩
    · unfold jm_up
      rw [if_neg (by omega)]
      exact a1
    · unfold jm_up
      rw [if_neg (by omega)]
      exact a2
    · unfold jm_up
      rw [if_neg (fun z => hp (by unfold pc_; omega))]
      exact a3 a b hp
    · unfold jm_up
      rw [if_neg (hne l (by omega))]
      exact a4 l j z1 z2 z3
    · unfold jm_up
      rw [if_pos rfl]
      by_cases e : j = k
      · rw [if_pos e, e]
        unfold rm_r
        rw [if_neg (by omega)]
      · rw [if_neg e]
        exact a5 j z1 (by omega) z3
    · unfold jm_up
      rw [if_pos rfl, if_neg (by omega)]
      exact a6 j z1 (by omega) z3
    · unfold jm_up
      rw [if_neg (hne l (by omega))]
      exact a7 l j z1 z2 z3
theorem rc_rv21 {K : jm_H → Prop} (hn : n ≤ 12) (hi : i < n) (hk : ∀ h2 : jm_H, rw_C h2 (n - 1) (rm_r r i) → (∀ a b, ¬ pc_ a b → h2 a b = h a b) → h2 37 4 = jm_w32 (h 37 4 + 1) → K h2) : ∀ (m L : Nat) (x2 : Int) (h1 : jm_H), m + L = 6 → x2 = L → rv_ h h1 n i r L i → jm_BV E jm_SH jm_m_Row_remove 1 21 [some (jm_R 37), some (jm_I i), some (jm_I x2), none] [] h1 K
  | 0, L, x2, h1, hm, hx, hv => by
    subst hx
    obtain ⟨a1, a2, a3, a4, a5, a6, a7⟩ := hv
    refine jb_Row_remove_21 ⟨fun q => ?_, fun q => by omega⟩
    refine hk _ (rw_C.mk ?_ (by omega) fun l j z1 z2 => ?_) (fun a b hp => ?_) ?_
    · simp [jm_up, a1]
    · unfold jm_up
      rw [if_neg (by omega)]
      exact a4 l j (by omega) z1 z2
    · unfold jm_up
      by_cases e : a = 37
      · rw [if_pos e, if_neg (fun z => hp (by unfold pc_; omega))]
        exact a3 a b hp
      · rw [if_neg e]
        exact a3 a b hp
    · simp [jm_up, a2]
  | m + 1, L, x2, h1, hm, hx, hv => by
    subst hx
    refine jb_Row_remove_21 ⟨fun q => by omega, fun q => ?_⟩
    refine rc_rv29 hn hi (by omega) (fun h2 hv2 => ?_) (n - 1 - i) i _ h1 (by omega) (by omega) rfl hv
    rw [jm_w (by omega) (by omega)]
    obtain ⟨a1, a2, a3, a4, a5, a6, a7⟩ := hv2
    refine rc_rv21 hn hi hk m (L + 1) _ h2 (by omega) (by omega) ⟨a1, a2, a3, fun l j z1 z2 z3 => ?_, fun j z1 z2 z3 => ?_, fun j z1 z2 z3 => a7 _ j (by omega) z1 z3, fun l j z1 z2 z3 => a7 l j (by omega) z2 z3⟩
    · by_cases e : l = L
      · subst e
        exact a5 j z2 (by omega) z3
      · exact a4 l j (by omega) z2 z3
    · rw [a7 _ j (by omega) z1 (by omega)]
      unfold rm_r
      rw [if_pos z2]
theorem rc_remove {K : jm_H → Prop} (hr : rw_C h n r) (hi : i < n) (hk : ∀ h2 : jm_H, rw_C h2 (n - 1) (rm_r r i) → (∀ a b, ¬ pc_ a b → h2 a b = h a b) → h2 37 4 = jm_w32 (h 37 4 + 1) → K h2) : jm_CV E jm_SH jm_m_Row_remove 1 [jm_R 37, jm_I i] h K := by
  have hn := hr.2.1
  refine jb_Row_remove (rc_has hr (fun q => ⟨fun _ => ?_, fun z => by omega⟩) (fun q => absurd (by omega) q))
  rw [hr.1, jm_w (by omega) (by omega)]
  refine rc_rv21 hn hi hk 6 0 _ _ rfl rfl ⟨?_, ?_, fun a b hp => ?_, fun l j z1 z2 z3 => by omega, fun j z1 z2 z3 => ?_, fun j z1 z2 z3 => ?_, fun l j z1 z2 z3 => ?_⟩
  · simp [jm_up]
    omega
  · simp [jm_up]
  · unfold jm_up
    by_cases e : a = 37
    · rw [if_pos e, if_neg (fun z => hp (by unfold pc_; omega))]
    · rw [if_neg e]
  · unfold jm_up
    rw [if_neg (by omega), hr.g z1 (by omega)]
    unfold rm_r
    rw [if_pos z2]
  · unfold jm_up
    rw [if_neg (by omega)]
    exact hr.g z1 z3
  · unfold jm_up
    rw [if_neg (by omega)]
    exact hr.g z2 z3
theorem lf_un_b (r : Nat → Nat → Int) (n : Nat) (kp : Int) : ∀ m k, lf_un r n kp m k = -1 ∨ ((k : Int) ≤ lf_un r n kp m k ∧ lf_un r n kp m k < (k + m : Nat))
  | 0, k => Or.inl rfl
  | m + 1, k => by
    unfold lf_un
    split
    · right; omega
    · rcases lf_un_b r n kp m (k + 1) with z | z
      · exact Or.inl z
      · right; omega
/-- how many go, and what is left -/
def th_ (kp : Int) : Nat → Nat → (Nat → Nat → Int) → Nat × Nat × (Nat → Nat → Int)
  | 0, n, r => (0, n, r)
  | f + 1, n, r => if lf_un r n kp n 0 < 0 then (0, n, r) else ((th_ kp f (n - 1) (rm_r r (lf_un r n kp n 0).toNat)).1 + 1, (th_ kp f (n - 1) (rm_r r (lf_un r n kp n 0).toNat)).2)
theorem th_b (kp : Int) : ∀ f n r, (th_ kp f n r).1 ≤ f ∧ (th_ kp f n r).1 ≤ n ∧ (th_ kp f n r).2.1 = n - (th_ kp f n r).1 ∧ (rw_ok n r → rw_ok (th_ kp f n r).2.1 (th_ kp f n r).2.2)
  | 0, n, r => ⟨Nat.le_refl _, Nat.zero_le _, rfl, fun q => q⟩
  | f + 1, n, r => by
    unfold th_
    split
    · exact ⟨by omega, by omega, rfl, fun q => q⟩
    · rename_i q
      have ih := th_b kp f (n - 1) (rm_r r (lf_un r n kp n 0).toNat)
      have hb := lf_un_b r n kp n 0
      refine ⟨by simp only; omega, by simp only; omega, by simp only; omega, fun ho => ih.2.2.2 (rm_ok ho)⟩
theorem tc_thin4 {K : Int → jm_H → Prop} (hv : 0 ≤ h 37 4 ∧ h 37 4 ≤ 1000000) (g0 : jm_H) : ∀ (f n : Nat) (r : Nat → Nat → Int) (g : Nat) (x1 x2 : Int) (h1 : jm_H), f + g = 12 → x1 = g → x2 = g → rw_C h1 n r → h1 56 3 = kp → (∀ a b, ¬ pc_ a b → h1 a b = h a b) → h1 37 4 = h 37 4 + g →
    (∀ h2 : jm_H, rw_C h2 (th_ kp f n r).2.1 (th_ kp f n r).2.2 → (∀ a b, ¬ pc_ a b → h2 a b = h a b) → h2 37 4 = h 37 4 + (g + (th_ kp f n r).1 : Nat) → K ((g + (th_ kp f n r).1 : Nat) : Int) h2) → jm_BI E jm_SH jm_m_Top_thin 4 4 [some (jm_R 0), some (jm_I x1), some (jm_I x2), none] [] h1 K
  | 0, n, r, g, x1, x2, h1, hf, h2, h3, hr, hkp, hfr, hvv, hk => by
    subst h2
    subst h3
    exact jb_Top_thin_4 ⟨fun q => hk h1 hr hfr hvv, fun q => by omega⟩
  | f + 1, n, r, g, x1, x2, h1, hf, h2, h3, hr, hkp, hfr, hvv, hk => by
    subst h2
    subst h3
    have hn := hr.2.1
    refine jb_Top_thin_4 ⟨fun q => by omega, fun q => ?_⟩
    have hb := lf_un_b r n kp n 0
    refine rc_unused hr hkp ⟨fun z => ?_, fun z => ?_⟩
    · have e : th_ kp (f + 1) n r = ((th_ kp f (n - 1) (rm_r r (lf_un r n kp n 0).toNat)).1 + 1, (th_ kp f (n - 1) (rm_r r (lf_un r n kp n 0).toNat)).2) := by
        show (if _ then _ else _) = _
        rw [if_neg (by omega)]
      rw [e] at hk
      obtain ⟨i, hi⟩ : ∃ i : Nat, lf_un r n kp n 0 = i := ⟨(lf_un r n kp n 0).toNat, by omega⟩
      rw [hi] at hk hb ⊢
      rw [jm_tn] at hk
      refine rc_remove hr (by omega) fun h2 b1 b2 b3 => ?_
      rw [jm_w (by omega) (by omega)]
      refine tc_thin4 hv g0 f (n - 1) (rm_r r i) (g + 1) _ _ h2 (by omega) (by omega) (by omega) b1 (by rw [b2 56 3 (by unfold pc_; omega)]; exact hkp) (fun a b hp => (b2 a b hp).trans (hfr a b hp)) (by rw [b3, hvv, jm_w (by omega) (by omega)]; omega) fun h3 c1 c2 c3 => ?_
      have := hk h3 c1 c2 (by rw [c3]; simp only; omega)
      simp only at this
      rw [show g + 1 + (th_ kp f (n - 1) (rm_r r i)).1 = g + ((th_ kp f (n - 1) (rm_r r i)).1 + 1) by omega]
      exact this
    · have e : th_ kp (f + 1) n r = (0, n, r) := by
        show (if _ then _ else _) = _
        rw [if_pos (by omega)]
      rw [e] at hk
      exact hk h1 hr hfr hvv
theorem tc_thin {K : Int → jm_H → Prop} (hr : rw_C h n r) (hkp : h 56 3 = kp) (hv : 0 ≤ h 37 4 ∧ h 37 4 ≤ 1000000) (hk : ∀ h2 : jm_H, rw_C h2 (th_ kp 12 n r).2.1 (th_ kp 12 n r).2.2 → (∀ a b, ¬ pc_ a b → h2 a b = h a b) → h2 37 4 = h 37 4 + (th_ kp 12 n r).1 → K ((th_ kp 12 n r).1 : Int) h2) : jm_CI E jm_SH jm_m_Top_thin 4 [jm_R 0] h K :=
  jb_Top_thin (tc_thin4 hv h 12 n r 0 _ _ h rfl rfl rfl hr hkp (fun _ _ _ => rfl) (by simp) fun h2 a1 a2 a3 => by
    rw [Nat.zero_add] at a3 ⊢
    exact hk h2 a1 a2 a3)
end TH
