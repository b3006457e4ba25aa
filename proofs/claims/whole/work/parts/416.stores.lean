/-! stores, both sides -/
/-- a node that is stored for -/
def st_p (f : Nat → Int) (S N : Nat → Nat) (k : Int) (i : Nat) : Prop := pt_ (f i) = 2 ∧ k ≤ N (i + 1) ∧ k ≤ N (i + 1 + S (i + 1))
noncomputable def st_b (f : Nat → Int) (S N : Nat → Nat) (k : Int) (i : Nat) : Nat := @ite _ (st_p f S N k i) (Classical.propDecidable _) 1 0
theorem st_b1 {f : Nat → Int} {S N : Nat → Nat} {k : Int} {i : Nat} (q : st_p f S N k i) : st_b f S N k i = 1 := by
  unfold st_b
  rw [if_pos q]
theorem st_b0 {f : Nat → Int} {S N : Nat → Nat} {k : Int} {i : Nat} (q : ¬ st_p f S N k i) : st_b f S N k i = 0 := by
  unfold st_b
  rw [if_neg q]
/-- how many of the first m; how many from i on -/
noncomputable def st_u (f : Nat → Int) (S N : Nat → Nat) (k : Int) : Nat → Nat
  | 0 => 0
  | m + 1 => st_u f S N k m + st_b f S N k m
theorem st_u_le {f : Nat → Int} {S N : Nat → Nat} {k : Int} : ∀ m, st_u f S N k m ≤ m
  | 0 => Nat.le_refl _
  | m + 1 => by
    have := st_u_le (f := f) (S := S) (N := N) (k := k) m
    have b : st_b f S N k m ≤ 1 := by
      by_cases q : st_p f S N k m
      · rw [st_b1 q]; exact Nat.le_refl _
      · rw [st_b0 q]; omega
    show st_u f S N k m + st_b f S N k m ≤ m + 1
    omega
theorem st_u_mono {f : Nat → Int} {S N : Nat → Nat} {k : Int} {m : Nat} : ∀ d, st_u f S N k m ≤ st_u f S N k (m + d)
  | 0 => Nat.le_refl _
  | d + 1 => Nat.le_trans (st_u_mono d) (Nat.le_add_right _ _)
section SO
variable {E : jm_Env} {h : jm_H} {n : Nat} {f : Nat → Int}
theorem rc_stores4 {x1 : Int} {K : Int → jm_H → Prop} (hc : te_C h n f) (hk : K (st_u f (te_S f n) (te_N f n) x1 n) h) : ∀ (m i : Nat) (x2 x3 : Int), m + i = n → x3 = i → x2 = st_u f (te_S f n) (te_N f n) x1 i → jm_BI E jm_SH jm_m_Tree_storesWith 2 4 [some (jm_R 4), some (jm_I x1), some (jm_I x2), some (jm_I x3), none, none] [] h K
  | 0, i, x2, x3, hm, h3, h2 => by
    have : i = n := by omega
    subst this
    refine jb_Tree_storesWith_4 ⟨fun _ => by rw [h2]; exact hk, fun q => ?_⟩
    rw [hc.1] at q
    omega
  | m + 1, i, x2, x3, hm, h3, h2 => by
    subst h3
    have hw := hc.2.1
    have hn := hw.1
    have ht := te_S_ok hw
    have hN := te_N_ok hw
    have hi : i < n := by omega
    have hle := st_u_le (f := f) (S := te_S f n) (N := te_N f n) (k := x1) i
    obtain ⟨t0, t1, t2, t3⟩ := tr_parts ht hi
    have no : ¬ st_p f (te_S f n) (te_N f n) x1 i → jm_BI E jm_SH jm_m_Tree_storesWith 2 4 [some (jm_R 4), some (jm_I x1), some (jm_I x2), some (jm_I (jm_w32 ((i : Int) + 1))), none, none] [] h K := fun q => by
      rw [jm_w (by omega) (by omega)]
      refine rc_stores4 hc hk m (i + 1) _ _ (by omega) (by omega) ?_
      rw [h2]
      show _ = ((st_u f (te_S f n) (te_N f n) x1 i + st_b f (te_S f n) (te_N f n) x1 i : Nat) : Int)
      rw [st_b0 q]
      rfl
    refine jb_Tree_storesWith_4 ⟨fun q => by rw [hc.1] at q; omega, fun _ => ?_⟩
    have e5 := (hc.2.2 i hi).1
    have e7 : i + 1 < n → h 7 (i + 1) = te_S f n (i + 1) := fun w => (hc.2.2 _ w).2.2.1
    have hpt := pt_b (f i)
    refine rc_fst ht hn hi hc.1 e5 (fun q => ?_) (fun q => ?_)
    · refine rc_snd ht hn hi hc.1 e5 e7 (fun q2 => ?_) (fun q2 => by omega)
      exact ⟨fun _ => no (fun w => q2 w.1), fun w => absurd (by decide) w⟩
    · refine rc_snd ht hn hi hc.1 e5 e7 (fun q2 => ?_) (fun q2 => ?_)
      · exact ⟨fun w => no (fun w => q2 w.1), fun w => ⟨fun _ => no (fun w => q2 w.1), fun w => absurd (by decide) w⟩⟩
      · have hin := t1 q
        obtain ⟨e1, e2⟩ := t3 q2
        rw [jm_tn, jm_tn, (hc.2.2 _ hin).2.2.2, (hc.2.2 _ e1).2.2.2]
        refine ⟨fun w => by omega, fun _ => ⟨fun w => by omega, fun _ => ⟨by omega, fun w => no (fun v => by have := v.2.1; omega), fun w => ⟨by omega, fun u => no (fun v => by have := v.2.2; omega), fun u => ?_⟩⟩⟩⟩
        rw [jm_w (by omega) (by omega), jm_w (by omega) (by omega)]
        refine rc_stores4 hc hk m (i + 1) _ _ (by omega) (by omega) ?_
        rw [h2]
        show _ = ((st_u f (te_S f n) (te_N f n) x1 i + st_b f (te_S f n) (te_N f n) x1 i : Nat) : Int)
        rw [st_b1 ⟨q2, by omega, by omega⟩]
        rfl
noncomputable def sp_stores (n : Nat) (f : Nat → Int) (x : Int) : Int := if 2 ≤ x ∧ x ≤ 8 then (if n = 0 then -3 else st_u f (te_S f n) (te_N f n) x n) else -2
theorem tc_stores {x : Int} {K : Int → jm_H → Prop} (hc : te_C h n f) (hk : K (sp_stores n f x) h) : jm_CI E jm_SH jm_m_Top_stores 3 [jm_R 0, jm_I x] h K := by
  unfold sp_stores at hk
  refine jb_Top_stores ?_
  rw [hc.1]
  refine ⟨fun q => by rw [if_neg (by omega)] at hk; exact hk, fun q => ⟨fun z => ⟨fun u => ?_, fun u => ?_⟩, fun z => by rw [if_neg (by omega)] at hk; exact hk⟩⟩
  · rw [if_pos (by omega), if_neg (by omega)] at hk
    exact jb_Tree_storesWith (rc_stores4 hc hk n 0 _ _ rfl rfl rfl)
  · rw [if_pos (by omega), if_pos (by omega)] at hk
    exact hk
theorem rm_stores36 {x1 : Int} {K : Int → jm_H → Prop} (hx1 : 2 ≤ x1 ∧ x1 ≤ 8) (hk : ∀ h2, (∀ a b, ¬ (a = 85) → h2 a b = h a b) → K (st_u f (te_S f n) (te_N f n) x1 n) h2) : ∀ (i : Nat) (x2 x3 : Int) (h1 : jm_H), i ≤ n → x3 = (i : Int) - 1 → x2 + st_u f (te_S f n) (te_N f n) x1 i = st_u f (te_S f n) (te_N f n) x1 n → te_M h1 n f → (∀ j, i ≤ j → j < n → h1 85 j = min (te_N f n j : Int) x1) → (∀ a b, ¬ (a = 85) → h1 a b = h a b) → jm_BI E jm_SH jm_m_Mod_stores 2 36 [some (jm_R 78), some (jm_I x1), some (jm_I x2), some (jm_I x3), none, none, none, none] [] h1 K
  | 0, x2, x3, h1, hi, h3, h2, hm, hg, hf => jb_Mod_stores_36 ⟨fun _ => by
      have := hk h1 hf
      rw [← h2] at this
      simpa [st_u] using this, fun q => by omega⟩
  | i + 1, x2, x3, h1, hi, h3, h2, hm, hg, hf => by
    have hx2 : x3 = (i : Int) := by omega
    subst hx2
    have hw := hm.2.1
    have hn := hw.1
    have ht := te_S_ok hw
    have hN := te_N_ok hw
    have hii : i < n := by omega
    obtain ⟨t0, t1, t2, t3⟩ := tr_parts ht hii
    obtain ⟨n0, n1, n2⟩ := hN i hii
    have hpt := pt_b (f i)
    have hle := st_u_le (f := f) (S := te_S f n) (N := te_N f n) (k := x1) n
    have hmo : st_u f (te_S f n) (te_N f n) x1 (i + 1) ≤ st_u f (te_S f n) (te_N f n) x1 n := by
      have := st_u_mono (f := f) (S := te_S f n) (N := te_N f n) (k := x1) (m := i + 1) (n - (i + 1))
      rw [show i + 1 + (n - (i + 1)) = n by omega] at this
      exact this
    have e2 : st_u f (te_S f n) (te_N f n) x1 (i + 1) = st_u f (te_S f n) (te_N f n) x1 i + st_b f (te_S f n) (te_N f n) x1 i := rfl
    have go : ∀ y z : Int, y = min (te_N f n i : Int) x1 → z = x2 + st_b f (te_S f n) (te_N f n) x1 i → jm_BI E jm_SH jm_m_Mod_stores 2 36 [some (jm_R 78), some (jm_I x1), some (jm_I z), some (jm_I (jm_w32 ((i : Int) + (-1)))), none, none, none, none] [] (jm_up h1 85 (Int.toNat (i : Int)) y) K := fun y z hy hz => by
      rw [jm_tn, jm_w (by omega) (by omega)]
      have e : ∀ a b, ¬ (a = 85) → jm_up h1 85 i y a b = h1 a b := fun a b z => up_o (by omega)
      refine rm_stores36 hx1 hk i _ _ _ (by omega) (by omega) (by omega) (hm.off e) (fun j a b => ?_) (fun a b z => (e a b z).trans (hf a b z))
      by_cases ej : j = i
      · subst ej
        rw [up_s, hy]
      · rw [up_o (by omega)]
        exact hg j (by omega) b
    -- what is written there
    have wr : ∀ x5 x6 s1 : Int, 0 ≤ x5 → x5 ≤ 100 → s1 = st_b f (te_S f n) (te_N f n) x1 i → min (if x5 = x6 then x5 + 1 else max x5 x6) x1 = min (te_N f n i : Int) x1 → jm_BI E jm_SH jm_m_Mod_stores 2 118 [some (jm_R 78), some (jm_I x1), none, some (jm_I i), none, some (jm_I x5), some (jm_I x6), none] [jm_I s1, jm_I x2] h1 K := fun x5 x6 s1 hb1 hb2 hs hmin => by
      refine jb_Mod_stores_118 ?_
      rw [jm_w (x := x2 + s1) (by omega) (by omega), jm_w (x := x5 + 1) (by omega) (by omega)]
      refine ⟨fun q => ?_, fun q => ?_⟩
      · rw [if_neg q] at hmin
        exact ⟨fun z => ⟨fun u => ⟨by omega, go _ _ (by omega) (by omega)⟩, fun u => ⟨by omega, go _ _ (by omega) (by omega)⟩⟩, fun z => ⟨fun u => ⟨by omega, go _ _ (by omega) (by omega)⟩, fun u => ⟨by omega, go _ _ (by omega) (by omega)⟩⟩⟩
      · rw [if_pos q] at hmin
        exact ⟨fun u => ⟨by omega, go _ _ (by omega) (by omega)⟩, fun u => ⟨by omega, go _ _ (by omega) (by omega)⟩⟩
    refine jb_Mod_stores_36 ⟨fun q => by omega, fun _ => ⟨by omega, ?_⟩⟩
    rw [jm_tn, (hm.2.2 i hii).1]
    refine rm_partsOf ⟨fun q => ⟨fun z => ?_, fun z => by omega⟩, fun q => ?_⟩
    · have := n0 (by omega)
      have nb : st_b f (te_S f n) (te_N f n) x1 i = 0 := st_b0 (fun w => by have := w.1; omega)
      refine jb_Mod_stores_92 ⟨fun _ => wr 1 0 0 (by omega) (by omega) (by omega) ?_, fun w => by omega⟩
      rw [if_neg (by omega)]
      omega
    · have hin := t1 (by omega)
      have g1 := hg (i + 1) (by omega) hin
      have b1 := nd_b ht hN _ (i + 1) rfl hin
      have sb1 := (ht (i + 1) hin).2
      rw [jm_w (x := (i : Int) + 1) (by omega) (by omega), show (i : Int) + 1 = ((i + 1 : Nat) : Int) by omega, jm_tn, g1]
      refine ⟨by omega, fun z => ?_, fun z => ?_⟩
      · have := n1 (by omega)
        have nb : st_b f (te_S f n) (te_N f n) x1 i = 0 := st_b0 (fun w => by have := w.1; omega)
        refine jb_Mod_stores_92 ⟨fun _ => wr _ 0 0 (by omega) (by omega) (by omega) ?_, fun w => by omega⟩
        rw [if_neg (by omega)]
        omega
      · refine rm_endOf hm hin ⟨by omega, ?_⟩
        have q2 : pt_ (f i) = 2 := by omega
        obtain ⟨e1, e2⟩ := t3 q2
        have e3 := n2 q2
        have b2 := nd_b ht hN _ _ rfl e1
        have sb2 := (ht _ e1).2
        rw [jm_tn, hg _ (by omega) e1]
        have hmin : min (if min (te_N f n (i + 1) : Int) x1 = min (te_N f n (i + 1 + te_S f n (i + 1)) : Int) x1 then min (te_N f n (i + 1) : Int) x1 + 1 else max (min (te_N f n (i + 1) : Int) x1) (min (te_N f n (i + 1 + te_S f n (i + 1)) : Int) x1)) x1 = min (te_N f n i : Int) x1 := by
          by_cases c : te_N f n (i + 1) = te_N f n (i + 1 + te_S f n (i + 1))
          · rw [if_pos c] at e3
            rw [if_pos (by rw [c]), e3]
            omega
          · rw [if_neg c] at e3
            rw [e3]
            by_cases c2 : min (te_N f n (i + 1) : Int) x1 = min (te_N f n (i + 1 + te_S f n (i + 1)) : Int) x1
            · rw [if_pos c2]
              omega
            · rw [if_neg c2]
              omega
        have nb : ¬ (x1 ≤ te_N f n (i + 1) ∧ x1 ≤ te_N f n (i + 1 + te_S f n (i + 1))) → st_b f (te_S f n) (te_N f n) x1 i = 0 := fun w => st_b0 (fun v => w ⟨v.2.1, v.2.2⟩)
        refine jb_Mod_stores_92 ⟨fun w => by omega, fun _ => ⟨fun w => wr _ _ 0 (by omega) (by omega) ?_ hmin, fun w => ⟨fun u => wr _ _ 0 (by omega) (by omega) ?_ hmin, fun u => wr _ _ 1 (by omega) (by omega) ?_ hmin⟩⟩⟩
        · rw [nb (by omega)]; rfl
        · rw [nb (by omega)]; rfl
        · rw [st_b1 ⟨q2, by omega, by omega⟩]; rfl
theorem mc_stores {x : Int} {K : Int → jm_H → Prop} (hm : te_M h n f) (hk : ∀ h2, sq_ h h2 → K (sp_stores n f x) h2) : jm_CI E jm_SH jm_m_Mod_stores 2 [jm_R 78, jm_I x] h K := by
  have hn := hm.2.1.1
  have hk0 := hk h sq_.rf
  unfold sp_stores at hk hk0
  refine jb_Mod_stores (rm_in (fun q => ⟨fun _ => ?_, fun z => by omega⟩) (fun q => ⟨fun z => absurd rfl z, fun _ => by rw [if_neg q] at hk0; exact hk0⟩))
  rw [hm.1]
  refine ⟨fun z => ?_, fun z => by rw [if_pos q, if_pos (by omega)] at hk0; exact hk0⟩
  rw [jm_w (by omega) (by omega)]
  refine rm_stores36 q (fun h2 c => ?_) n _ _ h (by omega) rfl (by omega) hm (fun j a b => by omega) (fun _ _ _ => rfl)
  have := hk h2 (fun a b z => c a b (fun w => z (by unfold sc_; omega)))
  rw [if_pos q, if_neg (by omega)] at this
  exact this
end SO
