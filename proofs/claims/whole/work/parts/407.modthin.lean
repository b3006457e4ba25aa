/-! the reference's thin -/
section MT
variable {E : jm_Env} {h : jm_H} {n i : Nat} {r : Nat → Nat → Int} {kp : Int}
theorem jm_6 {i : Nat} (hi : i < 12) (c : Nat) (hc : c < 6) : jm_w32 (6 * (i : Int)) = ((6 * i : Nat) : Int) ∧ jm_w32 (((6 * i : Nat) : Int) + (c : Int)) = ((6 * i + c : Nat) : Int) := by
  refine ⟨?_, ?_⟩
  · rw [jm_w (by omega) (by omega)]; omega
  · rw [jm_w (by omega) (by omega)]; omega
theorem rm_aside2 {K : jm_H → Prop} (hk : ∀ h2 : jm_H, (∀ a b, a ≠ 109 → h2 a b = h a b) → (∀ j l, j < n → l < 6 → h2 109 (6 * j + l) = r l j) → K h2) : ∀ (m i : Nat) (x1 : Int) (h1 : jm_H), m + i = n → x1 = i → rw_M h1 n r → (∀ a b, a ≠ 109 → h1 a b = h a b) → (∀ j l, j < i → l < 6 → h1 109 (6 * j + l) = r l j) → jm_BV E jm_SH jm_m_Mod_keepAside 0 2 [some (jm_R 78), some (jm_I x1)] [] h1 K
  | 0, i, x1, h1, hm, hx, hr, hf, hd => by
    subst hx
    refine jb_Mod_keepAside_2 ⟨fun q => hk h1 hf (fun j l hj hl => hd j l (by omega) hl), fun q => by rw [hr.1] at q; omega⟩
  | m + 1, i, x1, h1, hm, hx, hr, hf, hd => by
    subst hx
    have hn := hr.2.1
    have h0 := (jm_6 (i := i) (by omega) 0 (by omega)).1
    have c1 := (jm_6 (i := i) (by omega) 1 (by omega)).2
    have c2 := (jm_6 (i := i) (by omega) 2 (by omega)).2
    have c3 := (jm_6 (i := i) (by omega) 3 (by omega)).2
    have c4 := (jm_6 (i := i) (by omega) 4 (by omega)).2
    have c5 := (jm_6 (i := i) (by omega) 5 (by omega)).2
    obtain ⟨e0, e1, e2, e3, e4, e5⟩ := hr.2.2 i (by omega)
    refine jb_Mod_keepAside_2 ⟨fun q => by rw [hr.1] at q; omega, fun q => ?_⟩
    have d1 : jm_w32 (((6 * i : Nat) : Int) + 1) = ((6 * i + 1 : Nat) : Int) := c1
    have d2 : jm_w32 (((6 * i : Nat) : Int) + 2) = ((6 * i + 2 : Nat) : Int) := c2
    have d3 : jm_w32 (((6 * i : Nat) : Int) + 3) = ((6 * i + 3 : Nat) : Int) := c3
    have d4 : jm_w32 (((6 * i : Nat) : Int) + 4) = ((6 * i + 4 : Nat) : Int) := c4
    have d5 : jm_w32 (((6 * i : Nat) : Int) + 5) = ((6 * i + 5 : Nat) : Int) := c5
    rw [h0, d1, d2, d3, d4, d5, jm_tn, jm_tn, jm_tn, jm_tn, jm_tn, jm_tn, jm_tn, e0, e1, e2, e3, e4, e5, jm_w (by omega) (by omega)]
    refine ⟨by omega, by omega, by omega, by omega, by omega, by omega, by omega, by omega, by omega, by omega, by omega, by omega, ?_⟩
    refine rm_aside2 hk m (i + 1) _ _ (by omega) (by omega) (hr.off fun a b ha => ?_) (fun a b ha => ?_) (fun j l hj hl => ?_)
    · have : ¬ a = 109 := by omega
      simp [jm_up, this]
    · simp only [jm_up, if_neg ha]
      exact hf a b ha
    · by_cases e : j = i
      · subst e
        rcases (show l = 0 ∨ l = 1 ∨ l = 2 ∨ l = 3 ∨ l = 4 ∨ l = 5 by omega) with rfl | rfl | rfl | rfl | rfl | rfl <;> simp [jm_up]
      · have g0 : ¬ 6 * j + l = 6 * i := by omega
        have g1 : ¬ 6 * j + l = 6 * i + 1 := by omega
        have g2 : ¬ 6 * j + l = 6 * i + 2 := by omega
        have g3 : ¬ 6 * j + l = 6 * i + 3 := by omega
        have g4 : ¬ 6 * j + l = 6 * i + 4 := by omega
        have g5 : ¬ 6 * j + l = 6 * i + 5 := by omega
        simp only [jm_up, if_neg g0, if_neg g1, if_neg g2, if_neg g3, if_neg g4, if_neg g5, if_true]
        exact hd j l (by omega) hl
theorem rm_aside {K : jm_H → Prop} (hr : rw_M h n r) (hk : ∀ h2 : jm_H, (∀ a b, a ≠ 109 → h2 a b = h a b) → (∀ j l, j < n → l < 6 → h2 109 (6 * j + l) = r l j) → K h2) : jm_CV E jm_SH jm_m_Mod_keepAside 0 [jm_R 78] h K :=
  jb_Mod_keepAside (rm_aside2 hk n 0 _ h rfl rfl hr (fun _ _ _ => rfl) (fun j l hj _ => by omega))
/-- row t gets what lies aside for f -/
theorem rm_lay {K : jm_H → Prop} {f t : Nat} (hf : f < 12) (ht : t < 12) (hk : ∀ h2 : jm_H, (∀ a b, ¬ (99 ≤ a ∧ a ≤ 104 ∧ b = t) → h2 a b = h a b) → (∀ l, l < 6 → h2 (99 + l) t = h 109 (6 * f + l)) → K h2) : jm_CV E jm_SH jm_m_Mod_lay 0 [jm_R 78, jm_I f, jm_I t] h K := by
  have h0 := (jm_6 (i := f) hf 0 (by omega)).1
  have d1 : jm_w32 (((6 * f : Nat) : Int) + 1) = ((6 * f + 1 : Nat) : Int) := (jm_6 hf 1 (by omega)).2
  have d2 : jm_w32 (((6 * f : Nat) : Int) + 2) = ((6 * f + 2 : Nat) : Int) := (jm_6 hf 2 (by omega)).2
  have d3 : jm_w32 (((6 * f : Nat) : Int) + 3) = ((6 * f + 3 : Nat) : Int) := (jm_6 hf 3 (by omega)).2
  have d4 : jm_w32 (((6 * f : Nat) : Int) + 4) = ((6 * f + 4 : Nat) : Int) := (jm_6 hf 4 (by omega)).2
  have d5 : jm_w32 (((6 * f : Nat) : Int) + 5) = ((6 * f + 5 : Nat) : Int) := (jm_6 hf 5 (by omega)).2
  refine jb_Mod_lay ?_
  rw [h0, d1, d2, d3, d4, d5, jm_tn, jm_tn, jm_tn, jm_tn, jm_tn, jm_tn, jm_tn]
  refine ⟨by omega, by omega, by omega, by omega, by omega, by omega, by omega, by omega, by omega, by omega, by omega, by omega, hk _ (fun a b ha => ?_) (fun l hl => ?_)⟩
  · by_cases e : b = t
    · have n1 : ¬ a = 99 := by omega
      have n2 : ¬ a = 100 := by omega
      have n3 : ¬ a = 101 := by omega
      have n4 : ¬ a = 102 := by omega
      have n5 : ¬ a = 103 := by omega
      have n6 : ¬ a = 104 := by omega
      simp [jm_up, n1, n2, n3, n4, n5, n6]
    · simp [jm_up, e]
  · rcases (show l = 0 ∨ l = 1 ∨ l = 2 ∨ l = 3 ∨ l = 4 ∨ l = 5 by omega) with rfl | rfl | rfl | rfl | rfl | rfl <;> simp [jm_up]
/-- one step of the scan: none below i lives nowhere -/
theorem lf_un_step {r : Nat → Nat → Int} {n : Nat} {kp : Int} {i : Nat} (hi : i < n) : lf_un r n kp (n - i) i = if lf r n kp i = i then (i : Int) else lf_un r n kp (n - (i + 1)) (i + 1) := by
  have : n - i = (n - (i + 1)) + 1 := by omega
  rw [this]
  rfl
theorem mc_thin37 {K : Int → jm_H → Prop} {x1 : Int} (hn : n ≤ 12) (hi : i < n) (hk : ∀ h2 : jm_H, rw_M h2 (n - 1) (rm_r r i) → (∀ a b, ¬ pm_ a b → ¬ sc_ a b → h2 a b = h a b) → jm_BI E jm_SH jm_m_Mod_thin 2 4 [some (jm_R 78), some (jm_I (jm_w32 (x1 + 1))), some (jm_I 0), none] [] h2 K) : ∀ (m k : Nat) (x3 : Int) (h1 : jm_H), m + k = n - 1 → i ≤ k → x3 = k → h1 78 32 = ((n - 1 : Nat) : Int) → (∀ a b, ¬ pm_ a b → ¬ sc_ a b → h1 a b = h a b) → (∀ j l, j < n → l < 6 → h1 109 (6 * j + l) = r l j) → (∀ l j, l < 6 → j < k → h1 (99 + l) j = rm_r r i l j) → jm_BI E jm_SH jm_m_Mod_thin 2 37 [some (jm_R 78), some (jm_I x1), none, some (jm_I x3)] [] h1 K
  | 0, k, x3, h1, hm, hik, hx, hc, hf, ha, hd => by
    subst hx
    refine jb_Mod_thin_37 ⟨fun q => hk h1 (rw_M.mk hc (by omega) fun l j hl hj => hd l j hl (by omega)) hf, fun q => by rw [hc] at q; omega⟩
  | m + 1, k, x3, h1, hm, hik, hx, hc, hf, ha, hd => by
    subst hx
    refine jb_Mod_thin_37 ⟨fun q => by rw [hc] at q; omega, fun q => ?_⟩
    rw [jm_w (x := (k : Int) + 1) (by omega) (by omega), show (k : Int) + 1 = ((k + 1 : Nat) : Int) by omega]
    refine rm_lay (by omega) (by omega) fun h2 b1 b2 => ?_
    refine mc_thin37 hn hi hk m (k + 1) _ h2 (by omega) (by omega) rfl (by rw [b1 78 32 (by omega)]; exact hc) (fun a b z1 z2 => ?_) (fun j l z1 z2 => ?_) (fun l j z1 z2 => ?_)
    · rw [b1 a b (fun z => z1 (by unfold pm_; omega))]
      exact hf a b z1 z2
    · rw [b1 109 _ (by omega)]
      exact ha j l z1 z2
    · by_cases e : j = k
      · subst e
        rw [b2 l z1, ha (j + 1) l (by omega) z1]
        unfold rm_r
        rw [if_neg (by omega)]
      · rw [b1 _ j (by omega)]
        exact hd l j z1 (by omega)
theorem mc_thin4 {K : Int → jm_H → Prop} : ∀ (f : Nat) (m n : Nat) (r : Nat → Nat → Int) (i g : Nat) (x1 x2 : Int) (h1 : jm_H), n ≤ f → m + i = n → g ≤ 12 - n → x1 = g → x2 = i → rw_M h1 n r → h1 78 39 = kp → (∀ a b, ¬ pm_ a b → ¬ sc_ a b → h1 a b = h a b) → lf_un r n kp n 0 = lf_un r n kp (n - i) i →
    (∀ h2 : jm_H, rw_M h2 (th_ kp f n r).2.1 (th_ kp f n r).2.2 → (∀ a b, ¬ pm_ a b → ¬ sc_ a b → h2 a b = h a b) → K ((g + (th_ kp f n r).1 : Nat) : Int) h2) → jm_BI E jm_SH jm_m_Mod_thin 2 4 [some (jm_R 78), some (jm_I x1), some (jm_I x2), none] [] h1 K
  | f, 0, n, r, i, g, x1, x2, h1, hnf, hm, hg, e1, e2, hr, hkp, hfr, hu, hk => by
    subst e1
    subst e2
    refine jb_Mod_thin_4 ⟨fun q => ?_, fun q => by rw [hr.1] at q; omega⟩
    have hneg : lf_un r n kp n 0 < 0 := by
      rw [hu, show n - i = 0 by omega]
      show (-1 : Int) < 0
      omega
    have e : th_ kp f n r = (0, n, r) := by
      cases f with
      | zero => rfl
      | succ f =>
        show (if _ then _ else _) = _
        rw [if_pos hneg]
    rw [e] at hk
    exact hk h1 hr hfr
  | f, m + 1, n, r, i, g, x1, x2, h1, hnf, hm, hg, e1, e2, hr, hkp, hfr, hu, hk => by
    subst e1
    subst e2
    have hn := hr.2.1
    have hst := lf_un_step (r := r) (kp := kp) (show i < n by omega)
    refine jb_Mod_thin_4 ⟨fun q => by rw [hr.1] at q; omega, fun q => rm_lives hr hkp (by omega) ⟨fun z => ?_, fun z => ?_⟩⟩
    · rw [if_neg z] at hst
      rw [jm_w (by omega) (by omega)]
      exact mc_thin4 f m n r (i + 1) g _ _ h1 hnf (by omega) hg rfl (by omega) hr hkp hfr (hu.trans hst) hk
    · rw [if_pos z] at hst
      have hui : lf_un r n kp n 0 = i := hu.trans hst
      refine rm_aside hr fun h2 b1 b2 => ?_
      rw [b1 78 32 (by omega), hr.1, jm_w (by omega) (by omega)]
      match f, hnf, hk with
      | 0, hnf, hk => omega
      | f + 1, hnf, hk =>
        have e : th_ kp (f + 1) n r = ((th_ kp f (n - 1) (rm_r r i)).1 + 1, (th_ kp f (n - 1) (rm_r r i)).2) := by
          show (if _ then _ else _) = _
          rw [hui, if_neg (by omega), jm_tn]
        rw [e] at hk
        refine mc_thin37 (h := h) (r := r) hn (show i < n by omega) (fun h3 c1 c2 => ?_) (n - 1 - i) i _ _ (by omega) (by omega) rfl ?_ (fun a b z1 z2 => ?_) (fun j l z1 z2 => ?_) (fun l j z1 z2 => ?_)
        · rw [jm_w (by omega) (by omega)]
          refine mc_thin4 f (n - 1) (n - 1) (rm_r r i) 0 (g + 1) _ _ h3 (by omega) (by omega) (by omega) (by omega) rfl c1 (by rw [c2 78 39 (by unfold pm_; omega) (by unfold sc_; omega), ← hfr 78 39 (by unfold pm_; omega) (by unfold sc_; omega)]; exact hkp) c2 rfl fun h4 d1 d2 => ?_
          have := hk h4 d1 d2
          simp only at this
          rw [show g + 1 + (th_ kp f (n - 1) (rm_r r i)).1 = g + ((th_ kp f (n - 1) (rm_r r i)).1 + 1) by omega]
          exact this
        · simp [jm_up]
          omega
        · unfold jm_up
          by_cases ea : a = 78
          · rw [if_pos ea, if_neg (fun w => z1 (by unfold pm_; omega)), b1 a b (by omega)]
            exact hfr a b z1 z2
          · rw [if_neg ea, b1 a b (fun w => z2 (by unfold sc_; omega))]
            exact hfr a b z1 z2
        · unfold jm_up
          rw [if_neg (by omega)]
          exact b2 j l z1 z2
        · unfold jm_up
          rw [if_neg (by omega), b1 _ j (by omega), hr.g z1 (by omega)]
          unfold rm_r
          rw [if_pos z2]
termination_by f m n => (f, m)
theorem mc_thin {K : Int → jm_H → Prop} (hr : rw_M h n r) (hkp : h 78 39 = kp) (hk : ∀ h2 : jm_H, rw_M h2 (th_ kp 12 n r).2.1 (th_ kp 12 n r).2.2 → (∀ a b, ¬ pm_ a b → ¬ sc_ a b → h2 a b = h a b) → K ((th_ kp 12 n r).1 : Int) h2) : jm_CI E jm_SH jm_m_Mod_thin 2 [jm_R 78] h K :=
  jb_Mod_thin (mc_thin4 12 n n r 0 0 _ _ h hr.2.1 (by omega) (by omega) rfl rfl hr hkp (fun _ _ _ _ => rfl) rfl fun h2 a1 a2 => by
    rw [Nat.zero_add]
    exact hk h2 a1 a2)
end MT
