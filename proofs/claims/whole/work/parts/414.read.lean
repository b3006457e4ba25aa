/-! a tree is taken and read, both sides -/
theorem up_s {h : jm_H} {a b : Nat} {x : Int} : jm_up h a b x a b = x := by simp [jm_up]
theorem up_o {h : jm_H} {a b u v : Nat} {x : Int} (z : ¬ (u = a ∧ v = b)) : jm_up h a b x u v = h u v := by
  unfold jm_up
  by_cases e : u = a
  · rw [if_pos e, if_neg (fun w => z ⟨e, w⟩)]
  · rw [if_neg e]
def te_w (n : Nat) (f : Nat → Int) : Prop := n ≤ 30 ∧ (n = 0 ∨ sp_ f n 1 0)
noncomputable def te_S (f : Nat → Int) (n : Nat) : Nat → Nat := Classical.epsilon (fun S => tr_ f n S)
noncomputable def te_N (f : Nat → Int) (n : Nat) : Nat → Nat := Classical.epsilon (fun N => nd_ f n (te_S f n) N)
theorem te_S_ok {f : Nat → Int} {n : Nat} (h : te_w n f) : tr_ f n (te_S f n) := by
  have q : ∃ S, tr_ f n S := by
    rcases h.2 with e | e
    · exact ⟨fun _ => 0, fun i hi => by omega⟩
    · exact tr_ex e
  exact Classical.epsilon_spec q
theorem te_N_ok {f : Nat → Int} {n : Nat} (h : te_w n f) : nd_ f n (te_S f n) (te_N f n) := by
  have q : ∃ N, nd_ f n (te_S f n) N := nd_ex (te_S_ok h)
  exact Classical.epsilon_spec q
def te_C (h : jm_H) (n : Nat) (f : Nat → Int) : Prop := h 4 4 = n ∧ te_w n f ∧ ∀ j, j < n → h 5 j = f j ∧ h 6 j = wk_p f j ∧ h 7 j = te_S f n j ∧ h 8 j = te_N f n j
def te_M (h : jm_H) (n : Nat) (f : Nat → Int) : Prop := h 78 4 = n ∧ te_w n f ∧ ∀ j, j < n → h 80 j = f j ∧ h 81 j = wk_p f j
section RE
variable {E : jm_Env} {h : jm_H} {n : Nat} {f : Nat → Int}
theorem rc_take55 {K : jm_H → Prop} {S N : Nat → Nat} (h0 : sp_ f n 1 0) (ht : tr_ f n S) (hN : nd_ f n S N) (hn : n ≤ 30)
    (hk : ∀ h2 : jm_H, (∀ a b, ¬ (6 ≤ a ∧ a ≤ 8) → h2 a b = h a b) → (∀ j, j < n → h2 6 j = wk_p f j ∧ h2 7 j = S j ∧ h2 8 j = N j) → K h2) :
    ∀ (i : Nat) (x : Int) (h1 : jm_H), i ≤ n → x = (i : Int) - 1 → h1 4 4 = n → (∀ j, j < n → h1 5 j = f j) → (∀ j, i ≤ j → j < n → h1 7 j = S j ∧ h1 8 j = N j) → (∀ k j, i ≤ k → k < n → pp_ f S k j → h1 6 j = k) → h1 6 0 = -1 → (∀ a b, ¬ (6 ≤ a ∧ a ≤ 8) → h1 a b = h a b) →
      jm_BV E jm_SH jm_m_Tree_take 3 55 [some (jm_R 4), none, some (jm_I x)] [] h1 K
  | 0, x, h1, hi, hx, h4, h5, h7, h6, h60, hf => by
    refine jb_Tree_take_55 ⟨fun _ => hk h1 hf (fun j hj => ⟨?_, h7 j (by omega) hj⟩), fun q => by omega⟩
    by_cases e : j = 0
    · subst e
      rw [h60, wk_p0]
    · have hs := sp_one h0 (ht 0 (by omega)).1
      obtain ⟨k, k1, k2⟩ := pp_ex ht _ 0 j rfl (by omega) (by omega) (by omega)
      rw [h6 k j (by omega) k1 k2, (pp_p h0 ht k1 k2).1]
  | i + 1, x, h1, hi, hx, h4, h5, h7, h6, h60, hf => by
    have hx2 : x = (i : Int) := by omega
    subst hx2
    refine jb_Tree_take_55 ⟨fun q => by omega, fun _ => ?_⟩
    refine rc_measure ht hN hn (by omega) h4 h5 (fun j a b => h7 j (by omega) b) fun h2 c1 c2 c3 c4 => ?_
    rw [jm_w (by omega) (by omega)]
    refine rc_take55 h0 ht hN hn hk i _ h2 (by omega) (by omega) ?_ (fun j hj => ?_) (fun j a b => ?_) (fun k j a b p => ?_) ?_ (fun a b z => ?_)
    · rw [c1 4 4 (by omega) (by omega) (by omega), h4]
    · rw [c1 5 j (by omega) (by omega) (by omega), h5 j hj]
    · by_cases e : j = i
      · subst e
        exact ⟨c2, c3⟩
      · rw [c1 7 j (by omega) (by omega) (by omega), c1 8 j (by omega) (by omega) (by omega)]
        exact h7 j (by omega) b
    · by_cases e : k = i
      · subst e
        exact c4 j p
      · rw [c1 6 j (by omega) (by omega) (fun w => ?_)]
        · exact h6 k j (by omega) b p
        · have p1 := (pp_p h0 ht b p).1
          have p2 := (pp_p h0 ht (by omega) w.2).1
          omega
    · rw [c1 6 0 (by omega) (by omega) (fun w => ?_)]
      · exact h60
      · have := (pp_p h0 ht (by omega) w.2).2.2
        omega
    · rw [c1 a b (by omega) (by omega) (by omega)]
      exact hf a b z
theorem rc_take15 {K : jm_H → Prop} (hn : n ≤ 30)
    (hk : ∀ h2 : jm_H, (∀ a b, ¬ (a = 5 ∨ a = 6) → h2 a b = h a b) → (∀ j, j < n → h2 5 j = f j ∧ h2 6 j = -1) → jm_BV E jm_SH jm_m_Tree_take 3 55 [some (jm_R 4), none, some (jm_I ((n : Int) - 1))] [] h2 K) :
    ∀ (m i : Nat) (x : Int) (h1 : jm_H), m + i = n → x = (i : Int) → h1 4 4 = n → (∀ j, j < n → h1 2 j = f j) → (∀ j, j < i → h1 5 j = f j ∧ h1 6 j = -1) → (∀ a b, ¬ (a = 5 ∨ a = 6) → h1 a b = h a b) →
      jm_BV E jm_SH jm_m_Tree_take 3 15 [some (jm_R 4), some (jm_R 1), some (jm_I x)] [] h1 K
  | 0, i, x, h1, hm, hx, h4, h2, h5, hf => by
    have : i = n := by omega
    subst this
    refine jb_Tree_take_15 ⟨fun _ => ?_, fun q => by omega⟩
    rw [h4, jm_w (by omega) (by omega)]
    exact hk h1 hf h5
  | m + 1, i, x, h1, hm, hx, h4, h2, h5, hf => by
    subst hx
    refine jb_Tree_take_15 ⟨fun q => by omega, fun q => ⟨by omega, by omega, by omega, ?_⟩⟩
    rw [jm_tn, jm_w (by omega) (by omega), h2 i (by omega)]
    refine rc_take15 hn hk m (i + 1) _ _ (by omega) (by omega) ?_ (fun j hj => ?_) (fun j hj => ?_) (fun a b z => ?_)
    · simp [jm_up, h4]
    · simp [jm_up, h2 j hj]
    · by_cases e : j = i
      · subst e
        simp [jm_up]
      · simp [jm_up, e, h5 j (by omega)]
    · have z1 : ¬ a = 5 := by omega
      have z2 : ¬ a = 6 := by omega
      simp [jm_up, z1, z2, hf a b z]
theorem rc_take {K : jm_H → Prop} (h0 : sp_ f n 1 0) (hn : n ≤ 30) (hp : pd_C h n f) (hk : ∀ h2 : jm_H, te_C h2 n f → (∀ a b, ¬ (4 ≤ a ∧ a ≤ 8) → h2 a b = h a b) → K h2) : jm_CV E jm_SH jm_m_Tree_take 3 [jm_R 4, jm_R 1] h K := by
  have hw : te_w n f := ⟨hn, Or.inr h0⟩
  obtain ⟨p1, p2, p3⟩ := hp
  have hpos := sp_pos h0
  refine jb_Tree_take ?_
  rw [p1, show min (n : Int) 30 = n by omega]
  refine rc_take15 (h := jm_up h 4 4 n) (f := f) hn (fun h2 c1 c2 => ?_) n 0 _ _ rfl rfl up_s (fun j hj => by rw [up_o (by omega)]; exact p3 j hj) (fun j hj => by omega) (fun _ _ _ => rfl)
  have e4 : h2 4 4 = n := by
    rw [c1 4 4 (by omega)]
    exact up_s
  refine rc_take55 (h := h2) h0 (te_S_ok hw) (te_N_ok hw) hn (fun h3 d1 d2 => ?_) n _ h2 (by omega) rfl e4 (fun j hj => (c2 j hj).1) (fun j a b => by omega) (fun k j a b => by omega) (c2 0 hpos).2 (fun _ _ _ => rfl)
  refine hk h3 ⟨?_, hw, fun j hj => ⟨?_, d2 j hj⟩⟩ (fun a b z => ?_)
  · rw [d1 4 4 (by omega), e4]
  · rw [d1 5 j (by omega), (c2 j hj).1]
  · rw [d1 a b (by omega), c1 a b (by omega), up_o (by omega)]
theorem tc_read {K : Int → jm_H → Prop} (hp : pd_C h n f) (kb : ¬ wk_ 0 f n 0 (some []) = -6 → ∀ h2, sq_ h h2 → K (-5) h2) (kf : wk_ 0 f n 0 (some []) = -6 → ¬ n ≤ 30 → ∀ h2, sq_ h h2 → K (-4) h2)
    (kk : wk_ 0 f n 0 (some []) = -6 → n ≤ 30 → ∀ h2 : jm_H, te_C h2 n f → h2 1 2 = 0 → h2 30 9 = 1 → (∀ a b, ¬ (3 ≤ a ∧ a ≤ 8) → ¬ (a = 30 ∧ b = 9) → ¬ (a = 1 ∧ b = 2) → h2 a b = h a b) → K n h2) : jm_CI E jm_SH jm_m_Top_read 4 [jm_R 0] h K := by
  refine jb_Top_read (jb_Pad_faultAsTree (rc_firstFault hp fun h2 e => ?_))
  have hs : sq_ h h2 := fun a b z => e a b (fun w => z (Or.inl w))
  have hp2 := hp.off e
  refine ⟨fun q => ⟨fun z => ?_, fun z => ?_⟩, fun q => kb q h2 hs⟩
  · rw [hp2.1] at z
    have h0 : sp_ f n 1 0 := wk_sp n 0 (some []) (fun s2 e2 => by
      cases e2
      intro q hq
      cases hq) q
    refine rc_take h0 (by omega) hp2 fun h3 c1 c2 => ?_
    rw [c1.1]
    refine kk q (by omega) _ ⟨?_, c1.2.1, fun j hj => ?_⟩ ?_ ?_ (fun a b z1 z2 z3 => ?_)
    · rw [up_o (by omega), up_o (by omega), c1.1]
    · obtain ⟨d1, d2, d3, d4⟩ := c1.2.2 j hj
      refine ⟨?_, ?_, ?_, ?_⟩ <;> rw [up_o (by omega), up_o (by omega)] <;> assumption
    · rw [up_s]
    · rw [up_o (by omega), up_s]
    · rw [up_o (by omega), up_o (by omega), c2 a b (by omega), e a b (by omega)]
  · rw [hp2.1] at z
    exact kf q (by omega) h2 hs
theorem rm_read33 {K : Int → jm_H → Prop} (hn : n ≤ 30) (hk : ∀ h2 : jm_H, (∀ a b, ¬ (a = 80 ∨ a = 81) → h2 a b = h a b) → (∀ j, j < n → h2 80 j = f j ∧ h2 81 j = wk_p f j) → K n (jm_up h2 78 1 0)) :
    ∀ (m i : Nat) (x : Int) (h1 : jm_H), m + i = n → x = (i : Int) → h1 78 4 = n → (∀ j, j < n → h1 82 j = f j ∧ h1 83 j = wk_p f j) → (∀ j, j < i → h1 80 j = f j ∧ h1 81 j = wk_p f j) → (∀ a b, ¬ (a = 80 ∨ a = 81) → h1 a b = h a b) →
      jm_BI E jm_SH jm_m_Mod_read 4 33 [some (jm_R 78), some (jm_I x)] [] h1 K
  | 0, i, x, h1, hm, hx, h4, h2, h5, hf => by
    have : i = n := by omega
    subst this
    refine jb_Mod_read_33 ⟨fun _ => ?_, fun q => by omega⟩
    rw [h4]
    exact hk h1 hf h5
  | m + 1, i, x, h1, hm, hx, h4, h2, h5, hf => by
    subst hx
    refine jb_Mod_read_33 ⟨fun q => by omega, fun q => ⟨by omega, by omega, by omega, by omega, ?_⟩⟩
    rw [jm_tn, jm_w (by omega) (by omega), (h2 i (by omega)).1, (h2 i (by omega)).2]
    refine rm_read33 hn hk m (i + 1) _ _ (by omega) (by omega) ?_ (fun j hj => ?_) (fun j hj => ?_) (fun a b z => ?_)
    · simp [jm_up, h4]
    · simp [jm_up, h2 j hj]
    · by_cases e : j = i
      · subst e
        simp [jm_up]
      · simp [jm_up, e, h5 j (by omega)]
    · have z1 : ¬ a = 80 := by omega
      have z2 : ¬ a = 81 := by omega
      simp [jm_up, z1, z2, hf a b z]
theorem wk_val {p : Int} {f : Nat → Int} : ∀ (m i : Nat) (s : Option (List (Nat × Nat))), ¬ wk_ p f m i s = -6 → 0 ≤ wk_ p f m i s
  | 0, _, none, h => absurd rfl h
  | 0, i, some _, _ => by show 0 ≤ (i : Int); omega
  | _ + 1, i, none, _ => by show 0 ≤ (i : Int); omega
  | m + 1, i, some s, h => by
    unfold wk_ at h ⊢
    split
    · rename_i q
      rw [if_pos q] at h
      split
      · rename_i q2
        rw [if_pos q2] at h
        exact wk_val m _ _ h
      · omega
    · rename_i q
      rw [if_neg q] at h
      split
      · rename_i q2
        rw [if_pos q2] at h
        exact wk_val m _ _ h
      · omega
theorem mc_read {K : Int → jm_H → Prop} (hp : pd_M h n f) (kb : ¬ wk_ 0 f n 0 (some []) = -6 → ∀ h2, sq_ h h2 → K (-5) h2) (kf : wk_ 0 f n 0 (some []) = -6 → ¬ n ≤ 30 → ∀ h2, sq_ h h2 → K (-4) h2)
    (kk : wk_ 0 f n 0 (some []) = -6 → n ≤ 30 → ∀ h2 : jm_H, te_M h2 n f → h2 78 1 = 0 → (∀ a b, ¬ (80 ≤ a ∧ a ≤ 84) → ¬ (a = 78 ∧ (b = 1 ∨ b = 4 ∨ b = 8)) → h2 a b = h a b) → K n h2) : jm_CI E jm_SH jm_m_Mod_read 4 [jm_R 78] h K := by
  refine jb_Mod_read (rm_walk hp fun h2 e c => ?_)
  have hs : sq_ h h2 := fun a b z => e a b (fun w => z (by unfold sc_; unfold wq_ at w; omega))
  by_cases q : wk_ 0 f n 0 (some []) = -6
  · obtain ⟨c1, c2⟩ := c q
    have h0 : sp_ f n 1 0 := wk_sp n 0 (some []) (fun s2 e2 => by
      cases e2
      intro q hq
      cases hq) q
    rw [c1]
    refine ⟨fun _ => ⟨fun z => ?_, fun z => kf q (by omega) h2 hs⟩, fun w => by omega⟩
    refine rm_read33 (h := jm_up h2 78 4 n) (f := f) (by omega) (fun h3 d1 d2 => ?_) n 0 _ _ rfl rfl up_s (fun j hj => by rw [up_o (by omega), up_o (by omega)]; exact c2 j hj) (fun j hj => by omega) (fun _ _ _ => rfl)
    refine kk q (by omega) _ ⟨?_, ⟨by omega, Or.inr h0⟩, fun j hj => ?_⟩ up_s (fun a b z1 z2 => ?_)
    · rw [up_o (by omega), d1 78 4 (by omega), up_s]
    · rw [up_o (by omega), up_o (by omega)]
      exact d2 j hj
    · rw [up_o (by omega), d1 a b (by omega), up_o (by omega), e a b (by unfold wq_; omega)]
  · have := wk_val n 0 (some []) q
    exact ⟨fun w => by omega, fun _ => kb q h2 hs⟩
end RE
