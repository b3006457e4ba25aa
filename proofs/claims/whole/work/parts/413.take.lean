/-! the class takes a tree -/
def nd_F (f : Nat → Int) (S : Nat → Nat) : Nat → Nat → Nat
  | 0, _ => 1
  | k + 1, i => if pt_ (f i) = 0 then 1 else if pt_ (f i) = 1 then nd_F f S k (i + 1) else if nd_F f S k (i + 1) = nd_F f S k (i + 1 + S (i + 1)) then nd_F f S k (i + 1) + 1 else max (nd_F f S k (i + 1)) (nd_F f S k (i + 1 + S (i + 1)))
theorem nd_F_one {f : Nat → Int} {n : Nat} {S : Nat → Nat} (h : tr_ f n S) : ∀ (m i k : Nat), S i = m → i < n → m ≤ k → nd_F f S k i = nd_F f S m i := by
  intro m
  induction m using Nat.strongRecOn with
  | ind m ih =>
    intro i k hm hi hk
    have hp := sp_pos (h i hi).1
    obtain ⟨t0, t1, t2, t3⟩ := tr_parts h hi
    have hpt := pt_b (f i)
    obtain ⟨m', rfl⟩ : ∃ m', m = m' + 1 := ⟨m - 1, by omega⟩
    obtain ⟨k', rfl⟩ : ∃ k', k = k' + 1 := ⟨k - 1, by omega⟩
    unfold nd_F
    rcases (show pt_ (f i) = 0 ∨ pt_ (f i) = 1 ∨ pt_ (f i) = 2 by omega) with q | q | q
    · rw [if_pos q, if_pos q]
    · have e := t2 q
      have hin := t1 (by omega)
      rw [if_neg (by omega), if_pos q, if_neg (by omega), if_pos q, ih (S (i + 1)) (by omega) (i + 1) k' rfl hin (by omega), ih (S (i + 1)) (by omega) (i + 1) m' rfl hin (by omega)]
    · obtain ⟨e1, e2⟩ := t3 q
      have hin := t1 (by omega)
      have hs1 := sp_pos (h (i + 1) hin).1
      have hs2 := sp_pos (h _ e1).1
      have z0 : ¬ pt_ (f i) = 0 := by omega
      have z1 : ¬ pt_ (f i) = 1 := by omega
      simp only [z0, z1, if_false]
      rw [ih (S (i + 1)) (by omega) (i + 1) k' rfl hin (by omega), ih (S (i + 1)) (by omega) (i + 1) m' rfl hin (by omega), ih (S (i + 1 + S (i + 1))) (by omega) _ k' rfl e1 (by omega), ih (S (i + 1 + S (i + 1))) (by omega) _ m' rfl e1 (by omega)]
theorem nd_ex {f : Nat → Int} {n : Nat} {S : Nat → Nat} (h : tr_ f n S) : ∃ N, nd_ f n S N := by
  refine ⟨fun i => nd_F f S (S i) i, fun i hi => ?_⟩
  have hp := sp_pos (h i hi).1
  obtain ⟨t0, t1, t2, t3⟩ := tr_parts h hi
  obtain ⟨m, hm⟩ : ∃ m, S i = m + 1 := ⟨S i - 1, by omega⟩
  have e : nd_F f S (S i) i = if pt_ (f i) = 0 then 1 else if pt_ (f i) = 1 then nd_F f S m (i + 1) else if nd_F f S m (i + 1) = nd_F f S m (i + 1 + S (i + 1)) then nd_F f S m (i + 1) + 1 else max (nd_F f S m (i + 1)) (nd_F f S m (i + 1 + S (i + 1))) := by
    rw [hm]
    rfl
  refine ⟨fun q => ?_, fun q => ?_, fun q => ?_⟩
  · show nd_F f S (S i) i = 1
    rw [e, if_pos q]
  · have hin := t1 (by omega)
    have := t2 q
    show nd_F f S (S i) i = _
    rw [e, if_neg (by omega), if_pos q, nd_F_one h _ _ m rfl hin (by omega)]
  · have hin := t1 (by omega)
    obtain ⟨e1, e2⟩ := t3 q
    have hs1 := sp_pos (h (i + 1) hin).1
    have hs2 := sp_pos (h _ e1).1
    show nd_F f S (S i) i = _
    rw [e, if_neg (by omega), if_neg (by omega), nd_F_one h _ (i + 1) m rfl hin (by omega), nd_F_one h _ (i + 1 + S (i + 1)) m rfl e1 (by omega)]
section TK
variable {E : jm_Env} {h : jm_H} {n : Nat} {f : Nat → Int} {S N : Nat → Nat}
theorem rc_fst {i : Nat} {K : Int → jm_H → Prop} (ht : tr_ f n S) (hn : n ≤ 30) (hi : i < n) (hc : h 4 4 = n) (hf : h 5 i = f i) (k0 : pt_ (f i) = 0 → K (-1) h) (k1 : 1 ≤ pt_ (f i) → K ((i + 1 : Nat) : Int) h) : jm_CI E jm_SH jm_m_Tree_firstPart 1 [jm_R 4, jm_I i] h K := by
  have hp := (tr_parts ht hi).2.1
  refine jb_Tree_firstPart ⟨by omega, ?_⟩
  rw [jm_tn, hf]
  refine rc_partsOf ⟨fun q => k0 (by omega), fun q => ?_⟩
  have := hp (by omega)
  rw [jm_w (by omega) (by omega), hc]
  refine ⟨fun z => by omega, fun z => ?_⟩
  exact k1 (by omega)
theorem rc_snd {i : Nat} {K : Int → jm_H → Prop} (ht : tr_ f n S) (hn : n ≤ 30) (hi : i < n) (hc : h 4 4 = n) (hf : h 5 i = f i) (hs : i + 1 < n → h 7 (i + 1) = S (i + 1)) (k0 : ¬ pt_ (f i) = 2 → K (-1) h) (k1 : pt_ (f i) = 2 → K ((i + 1 + S (i + 1) : Nat) : Int) h) : jm_CI E jm_SH jm_m_Tree_secondPart 1 [jm_R 4, jm_I i] h K := by
  obtain ⟨-, t1, -, t3⟩ := tr_parts ht hi
  have hpt := pt_b (f i)
  refine jb_Tree_secondPart ⟨by omega, ?_⟩
  rw [jm_tn, hf]
  refine rc_partsOf ⟨fun q => k0 (by omega), fun q => ?_⟩
  have hin := t1 (by omega)
  have q2 : pt_ (f i) = 2 := by omega
  have := (t3 q2).1
  rw [jm_w (x := (i : Int) + 1) (by omega) (by omega), hc, show (i : Int) + 1 = ((i + 1 : Nat) : Int) by omega, jm_tn, hs hin, jm_w (by omega) (by omega)]
  refine ⟨fun z => ⟨by omega, fun w => by omega, fun w => ?_⟩, fun z => by omega⟩
  have := k1 q2
  rw [show ((i + 1 + S (i + 1) : Nat) : Int) = ((i + 1 : Nat) : Int) + (S (i + 1) : Int) by omega] at this
  exact this
theorem rc_measure {i : Nat} {K : jm_H → Prop} (ht : tr_ f n S) (hN : nd_ f n S N) (hn : n ≤ 30) (hi : i < n) (hc : h 4 4 = n) (hf : ∀ j, j < n → h 5 j = f j) (hg : ∀ j, i < j → j < n → h 7 j = S j ∧ h 8 j = N j)
    (hk : ∀ h2 : jm_H, (∀ a b, ¬ (a = 7 ∧ b = i) → ¬ (a = 8 ∧ b = i) → ¬ (a = 6 ∧ pp_ f S i b) → h2 a b = h a b) → h2 7 i = S i → h2 8 i = N i → (∀ j, pp_ f S i j → h2 6 j = i) → K h2) : jm_CV E jm_SH jm_m_Tree_measure 2 [jm_R 4, jm_I i] h K := by
  obtain ⟨t0, t1, t2, t3⟩ := tr_parts ht hi
  obtain ⟨n0, n1, n2⟩ := hN i hi
  have hpt := pt_b (f i)
  refine jb_Tree_measure ⟨by omega, by omega, ?_⟩
  rw [jm_tn]
  have hA4 : jm_up (jm_up h 7 i 1) 8 i 1 4 4 = n := by simp [jm_up, hc]
  have hA5 : ∀ j, j < n → jm_up (jm_up h 7 i 1) 8 i 1 5 j = f j := fun j hj => by simp [jm_up, hf j hj]
  have hAg : ∀ j, i < j → j < n → jm_up (jm_up h 7 i 1) 8 i 1 7 j = S j ∧ jm_up (jm_up h 7 i 1) 8 i 1 8 j = N j := fun j h1 h2 => by
    obtain ⟨g1, g2⟩ := hg j h1 h2
    have : ¬ j = i := by omega
    simp [jm_up, this, g1, g2]
  have hA7 : jm_up (jm_up h 7 i 1) 8 i 1 7 i = 1 := by simp [jm_up]
  have hAo : ∀ a b, ¬ (a = 7 ∧ b = i) → ¬ (a = 8 ∧ b = i) → jm_up (jm_up h 7 i 1) 8 i 1 a b = h a b := fun a b z1 z2 => by
    unfold jm_up
    by_cases e8 : a = 8
    · have : ¬ b = i := fun w => z2 ⟨e8, w⟩
      rw [if_pos e8, if_neg this, if_neg (by omega)]
    · rw [if_neg e8]
      by_cases e7 : a = 7
      · have : ¬ b = i := fun w => z1 ⟨e7, w⟩
        rw [if_pos e7, if_neg this]
      · rw [if_neg e7]
  have hA8 : jm_up (jm_up h 7 i 1) 8 i 1 8 i = 1 := by simp [jm_up]
  generalize jm_up (jm_up h 7 i 1) 8 i 1 = hA at hA4 hA5 hAg hA7 hAo hA8 ⊢
  refine rc_fst ht hn hi hA4 (hA5 i hi) (fun q => ⟨fun z => absurd z (by decide), fun _ => ?_⟩) (fun q => ⟨fun _ => ?_, fun z => by omega⟩)
  · refine hk hA (fun a b z1 z2 _ => hAo a b z1 z2) (by rw [hA7, t0 q]; rfl) (by rw [hA8, n0 q]; rfl) (fun j hp => ?_)
    rcases hp with ⟨-, w⟩ | ⟨-, w⟩ <;> omega
  · have hin := t1 q
    obtain ⟨g1, g2⟩ := hAg (i + 1) (by omega) hin
    have hsb := (ht (i + 1) hin).2
    have hnb := nd_b ht hN _ (i + 1) rfl hin
    refine ⟨by omega, by omega, by omega, by omega, by omega, by omega, ?_⟩
    rw [jm_tn, hA7, g1, g2, jm_w (by omega) (by omega)]
    have hB4 : jm_up (jm_up (jm_up hA 6 (i + 1) (i : Int)) 7 i (1 + (S (i + 1) : Int))) 8 i (N (i + 1) : Int) 4 4 = n := by simp [jm_up, hA4]
    have hB5 : ∀ j, j < n → jm_up (jm_up (jm_up hA 6 (i + 1) (i : Int)) 7 i (1 + (S (i + 1) : Int))) 8 i (N (i + 1) : Int) 5 j = f j := fun j hj => by simp [jm_up, hA5 j hj]
    have hBg : ∀ j, i < j → j < n → jm_up (jm_up (jm_up hA 6 (i + 1) (i : Int)) 7 i (1 + (S (i + 1) : Int))) 8 i (N (i + 1) : Int) 7 j = S j ∧ jm_up (jm_up (jm_up hA 6 (i + 1) (i : Int)) 7 i (1 + (S (i + 1) : Int))) 8 i (N (i + 1) : Int) 8 j = N j := fun j h1 h2 => by
      obtain ⟨g1, g2⟩ := hAg j h1 h2
      have : ¬ j = i := by omega
      simp [jm_up, this, g1, g2]
    have hB7 : jm_up (jm_up (jm_up hA 6 (i + 1) (i : Int)) 7 i (1 + (S (i + 1) : Int))) 8 i (N (i + 1) : Int) 7 i = 1 + (S (i + 1) : Int) := by simp [jm_up]
    have hB8 : jm_up (jm_up (jm_up hA 6 (i + 1) (i : Int)) 7 i (1 + (S (i + 1) : Int))) 8 i (N (i + 1) : Int) 8 i = (N (i + 1) : Int) := by simp [jm_up]
    have hB6 : jm_up (jm_up (jm_up hA 6 (i + 1) (i : Int)) 7 i (1 + (S (i + 1) : Int))) 8 i (N (i + 1) : Int) 6 (i + 1) = (i : Int) := by simp [jm_up]
    have hBo : ∀ a b, ¬ (a = 7 ∧ b = i) → ¬ (a = 8 ∧ b = i) → ¬ (a = 6 ∧ b = i + 1) → jm_up (jm_up (jm_up hA 6 (i + 1) (i : Int)) 7 i (1 + (S (i + 1) : Int))) 8 i (N (i + 1) : Int) a b = h a b := fun a b z1 z2 z3 => by
      rw [← hAo a b z1 z2]
      unfold jm_up
      by_cases e8 : a = 8
      · have : ¬ b = i := fun w => z2 ⟨e8, w⟩
        rw [if_pos e8, if_neg this, if_neg (by omega), if_neg (by omega)]
      · rw [if_neg e8]
        by_cases e7 : a = 7
        · have : ¬ b = i := fun w => z1 ⟨e7, w⟩
          rw [if_pos e7, if_neg this, if_neg (by omega)]
        · rw [if_neg e7]
          by_cases e6 : a = 6
          · have : ¬ b = i + 1 := fun w => z3 ⟨e6, w⟩
            rw [if_pos e6, if_neg this]
          · rw [if_neg e6]
    generalize jm_up (jm_up (jm_up hA 6 (i + 1) (i : Int)) 7 i (1 + (S (i + 1) : Int))) 8 i (N (i + 1) : Int) = hB at hB4 hB5 hBg hB7 hB8 hB6 hBo ⊢
    refine rc_snd ht hn hi hB4 (hB5 i hi) (fun w => (hBg (i + 1) (by omega) w).1) (fun q2 => ⟨fun z => absurd z (by decide), fun _ => ?_⟩) (fun q2 => ⟨fun _ => ?_, fun z => by omega⟩)
    · have q1 : pt_ (f i) = 1 := by omega
      refine hk hB (fun a b z1 z2 z3 => hBo a b z1 z2 (fun w => z3 ⟨w.1, Or.inl ⟨w.2, q⟩⟩)) (by rw [hB7, t2 q1]; omega) (by rw [hB8, n1 q1]) (fun j hp => ?_)
      rcases hp with ⟨rfl, -⟩ | ⟨-, w⟩
      · exact hB6
      · omega
    · obtain ⟨e1, e2⟩ := t3 q2
      have e3 := n2 q2
      obtain ⟨b1, b2⟩ := hBg _ (show i < i + 1 + S (i + 1) by omega) e1
      obtain ⟨c1, c2⟩ := hBg (i + 1) (by omega) hin
      have hs1 := sp_pos (ht (i + 1) hin).1
      have hsb2 := (ht _ e1).2
      have hnb2 := nd_b ht hN _ _ rfl e1
      refine ⟨by omega, by omega, by omega, by omega, by omega, by omega, ?_⟩
      rw [jm_tn, hB7, b1, b2, c2, jm_w (by omega) (by omega)]
      have fin : ∀ x : Int, x = (N i : Int) → K (jm_up (jm_up (jm_up hB 6 (i + 1 + S (i + 1)) (i : Int)) 7 i (1 + (S (i + 1) : Int) + (S (i + 1 + S (i + 1)) : Int))) 8 i x) := fun x hx => by
        refine hk _ (fun a b z1 z2 z3 => ?_) ?_ ?_ (fun j hp => ?_)
        · rw [← hBo a b z1 z2 (fun w => z3 ⟨w.1, Or.inl ⟨w.2, q⟩⟩)]
          unfold jm_up
          by_cases e8 : a = 8
          · have : ¬ b = i := fun w => z2 ⟨e8, w⟩
            rw [if_pos e8, if_neg this, if_neg (by omega), if_neg (by omega)]
          · rw [if_neg e8]
            by_cases e7 : a = 7
            · have : ¬ b = i := fun w => z1 ⟨e7, w⟩
              rw [if_pos e7, if_neg this, if_neg (by omega)]
            · rw [if_neg e7]
              by_cases e6 : a = 6
              · have : ¬ b = i + 1 + S (i + 1) := fun w => z3 ⟨e6, Or.inr ⟨w, q2⟩⟩
                rw [if_pos e6, if_neg this]
              · rw [if_neg e6]
        · simp [jm_up]
          omega
        · simp [jm_up, hx]
        · rcases hp with ⟨rfl, -⟩ | ⟨rfl, -⟩
          · have : ¬ (i + 1 = i + 1 + S (i + 1)) := by omega
            simp [jm_up, this, hB6]
          · simp [jm_up]
      refine ⟨fun z => ⟨by omega, by omega, by omega, fin _ ?_⟩, fun z => ⟨by omega, by omega, ?_⟩⟩
      · rw [if_neg (by omega)] at e3
        omega
      · rw [jm_w (by omega) (by omega)]
        refine fin _ ?_
        rw [if_pos (by omega)] at e3
        omega
end TK
