/-! SPILLED: the reference's -/
theorem jv_andn {a s : Nat} (ha : a < 4096) (hs : s < 4096) : ∃ z : Nat, jv_and (a : Int) (jv_xor (s : Int) (-1)) = (z : Int) ∧ z < 4096 ∧ ∀ j, z.testBit j = (a.testBit j && !s.testBit j) := by
  have hb : ∀ j, (BitVec.ofNat 32 a &&& (BitVec.ofNat 32 s ^^^ BitVec.ofInt 32 (-1))).toNat.testBit j = (a.testBit j && !s.testBit j) := fun j => by
    rw [BitVec.testBit_toNat, BitVec.getLsbD_and, BitVec.getLsbD_xor, BitVec.getLsbD_ofNat, BitVec.getLsbD_ofNat]
    by_cases q : j < 32
    · have e : (BitVec.ofInt 32 (-1)).getLsbD j = true := by
        have : BitVec.ofInt 32 (-1) = BitVec.allOnes 32 := by decide
        rw [this, BitVec.getLsbD_allOnes]
        exact decide_eq_true q
      rw [e, decide_eq_true q]
      simp
    · have : a.testBit j = false := bt_lt (n := 12) (by omega) (by omega)
      rw [this]
      simp
  have hz : (BitVec.ofNat 32 a &&& (BitVec.ofNat 32 s ^^^ BitVec.ofInt 32 (-1))).toNat < 2 ^ 12 := Nat.lt_pow_two_of_testBit _ fun j hj => by
    rw [hb j, bt_lt (S := a) (n := 12) (by omega) hj]
    rfl
  refine ⟨_, ?_, by omega, hb⟩
  unfold jv_and jv_xor
  rw [Int32.ofInt_toInt]
  show (BitVec.ofNat 32 a &&& (BitVec.ofNat 32 s ^^^ BitVec.ofInt 32 (-1))).toInt = _
  rw [BitVec.toInt_eq_toNat_of_lt (by omega)]
theorem lf_cnt_sm {z : Nat} (hz : z < 2147483648) : ∀ k, k ≤ 32 → lf_cnt (z : Int) k = sm_ (fun j => if z.testBit j = true then 1 else 0) k
  | 0, _ => rfl
  | k + 1, hk => by
    show lf_cnt z k + _ = sm_ _ k + (if z.testBit k = true then 1 else 0)
    rw [lf_cnt_sm hz k (by omega), jv_bit hz (by omega), bt_dm]
    by_cases q : z / 2 ^ k % 2 = 1
    · rw [q, if_pos (by simp)]
      rfl
    · rw [show z / 2 ^ k % 2 = 0 by omega, if_neg (by simp)]
      rfl
theorem lf_pl_bit (r : Nat → Nat → Int) (n : Nat) (kp : Int) (p j : Nat) : ∀ i, (lf_pl r n kp p i).testBit j = decide (j < i ∧ (p : Int) < lf r n kp j)
  | 0 => by simp [lf_pl]
  | i + 1 => by
    show (lf_pl r n kp p i ||| _).testBit j = _
    rw [Nat.testBit_or, lf_pl_bit r n kp p j i]
    by_cases q : (p : Int) < lf r n kp i
    · rw [if_pos q, bt_two]
      by_cases e : i = j
      · subst e
        simp [q]
      · rw [decide_eq_false e, Bool.or_false]
        apply decide_eq_decide.mpr
        exact ⟨fun z => ⟨by omega, z.2⟩, fun z => ⟨by omega, z.2⟩⟩
    · rw [if_neg q, Nat.zero_testBit, Bool.or_false]
      apply decide_eq_decide.mpr
      refine ⟨fun z => ⟨by omega, z.2⟩, fun z => ⟨?_, z.2⟩⟩
      by_cases e : i = j
      · subst e
        exact absurd z.2 q
      · omega
section MS
variable {E : jm_Env} {h : jm_H} {n : Nat} {r : Nat → Nat → Int} {kp k : Int}
theorem rm_weight4 {s : Nat} {K : Int → jm_H → Prop} (hr : rw_M h n r) (ho : rw_ok n r) (hs : s < 4096) (hk : K (sw_ (r 5) n s) h) : ∀ (m i : Nat) (x2 x3 : Int), m + i = n → x2 = sm_ (fun j => if s.testBit j = true then r 5 j else 0) i → 0 ≤ x2 ∧ x2 ≤ 100 * i → x3 = i → jm_BI E jm_SH jm_m_Mod_weightOf 0 4 [some (jm_R 78), some (jm_I s), some (jm_I x2), some (jm_I x3)] [] h K
  | 0, i, x2, x3, hm, h2, hb, h3 => by
    subst h3
    have : i = n := by omega
    subst this
    refine jb_Mod_weightOf_4 ⟨fun q => by rw [h2]; exact hk, fun q => by rw [hr.1] at q; omega⟩
  | m + 1, i, x2, x3, hm, h2, hb, h3 => by
    subst h3
    have hn := hr.2.1
    have hw := (ho i (by omega)).2.2.2.2.2
    have e5 := (hr.2.2 i (by omega)).2.2.2.2.2
    refine jb_Mod_weightOf_4 ⟨fun q => by rw [hr.1] at q; omega, fun _ => ?_⟩
    rw [jv_bit (by omega) (by omega), jm_tn, e5, jm_w (x := (i : Int) + 1) (by omega) (by omega), jm_w (x := x2 + r 5 i) (by omega) (by omega), jm_w (x := x2 + 0) (by omega) (by omega)]
    refine ⟨fun q => ?_, fun q => ⟨by omega, ?_⟩⟩
    · refine rm_weight4 hr ho hs hk m (i + 1) _ _ (by omega) ?_ (by omega) (by omega)
      show _ = sm_ _ i + (if s.testBit i = true then r 5 i else 0)
      rw [bt_dm, if_neg (by simp; omega), h2]
    · refine rm_weight4 hr ho hs hk m (i + 1) _ _ (by omega) ?_ (by omega) (by omega)
      show _ = sm_ _ i + (if s.testBit i = true then r 5 i else 0)
      rw [bt_dm, if_pos (by simp; omega), h2]
theorem rm_weight {s : Nat} {K : Int → jm_H → Prop} (hr : rw_M h n r) (ho : rw_ok n r) (hs : s < 4096) (hk : K (sw_ (r 5) n s) h) : jm_CI E jm_SH jm_m_Mod_weightOf 0 [jm_R 78, jm_I s] h K :=
  jb_Mod_weightOf (rm_weight4 hr ho hs hk n 0 _ _ rfl rfl (by simp) rfl)
theorem rm_enough5 {s : Nat} {K : Int → jm_H → Prop} (hr : rw_M h n r) (hs : s < 4096) (hp : ∀ p, p < n → h 110 p = lf_pl r n kp p (p + 1)) (k1 : sf_ (lf r n kp) n k s → K 1 h) (k0 : ¬ sf_ (lf r n kp) n k s → K 0 h) : ∀ (m i : Nat) (x3 x4 : Int), m + i = n → x4 = i → (x3 = 1 ∧ (∀ p, p < i → sm_ (sk_ (lf r n kp) s p) n ≤ k)) ∨ (x3 = 0 ∧ ¬ sf_ (lf r n kp) n k s) → jm_BI E jm_SH jm_m_Mod_isEnough 1 5 [some (jm_R 78), some (jm_I s), some (jm_I k), some (jm_I x3), some (jm_I x4)] [] h K
  | 0, i, x3, x4, hm, h4, hx => by
    subst h4
    have : i = n := by omega
    subst this
    refine jb_Mod_isEnough_5 ⟨fun q => ?_, fun q => by rw [hr.1] at q; omega⟩
    rcases hx with ⟨rfl, c⟩ | ⟨rfl, c⟩
    · exact ⟨Or.inr rfl, k1 c⟩
    · exact ⟨Or.inl rfl, k0 c⟩
  | m + 1, i, x3, x4, hm, h4, hx => by
    subst h4
    have hn := hr.2.1
    refine jb_Mod_isEnough_5 ⟨fun q => by rw [hr.1] at q; omega, fun _ => ⟨fun q => ?_, fun q => ⟨by omega, ?_⟩⟩⟩
    · rw [jm_w (by omega) (by omega)]
      refine rm_enough5 hr hs hp k1 k0 m (i + 1) _ _ (by omega) (by omega) (Or.inr ⟨rfl, ?_⟩)
      rcases hx with ⟨c, -⟩ | ⟨-, c⟩
      · omega
      · exact c
    · rw [jm_tn, hp i (by omega)]
      obtain ⟨z, z1, z2, z3⟩ := jv_andn (lf_pl_4096 r n kp i (i := i + 1) (by omega)) hs
      rw [z1]
      refine rm_count ?_
      have ez : lf_cnt (z : Int) 12 = sm_ (sk_ (lf r n kp) s i) n := by
        rw [lf_cnt_sm (by omega) 12 (by omega)]
        have c1 : ∀ j, (if z.testBit j = true then (1 : Int) else 0) = sk_ (lf r n kp) s i j := fun j => by
          unfold sk_
          rw [z3 j, lf_pl_bit]
          by_cases w : s.testBit j = false ∧ j ≤ i ∧ (i : Int) < lf r n kp j
          · rw [if_pos w, w.1, if_pos]
            simp
            exact ⟨by omega, w.2.2⟩
          · rw [if_neg w, if_neg]
            intro y
            apply w
            simp at y
            exact ⟨y.2, by omega, y.1.2⟩
        rw [sm_congr (fun j _ => c1 j)]
        have c2 := sm_rng (F := sk_ (lf r n kp) s i) (G := fun _ => 0) (m := n) 12 (by omega) (fun j y1 y2 => by
          unfold sk_
          rw [if_neg (by omega)])
        rw [sm_z, sm_z] at c2
        omega
      rw [ez, jm_w (by omega) (by omega)]
      have hx3 : x3 = 1 ∧ (∀ p, p < i → sm_ (sk_ (lf r n kp) s p) n ≤ k) := by
        rcases hx with c | c
        · exact c
        · exact absurd c.1 q
      refine ⟨fun y => ?_, fun y => ?_⟩
      · refine rm_enough5 hr hs hp k1 k0 m (i + 1) _ _ (by omega) (by omega) (Or.inr ⟨rfl, fun w => ?_⟩)
        have := w i (by omega)
        omega
      · refine rm_enough5 hr hs hp k1 k0 m (i + 1) _ _ (by omega) (by omega) (Or.inl ⟨rfl, fun p hp2 => ?_⟩)
        by_cases e : p = i
        · subst e; omega
        · exact hx3.2 p (by omega)
theorem rm_enough {s : Nat} {K : Int → jm_H → Prop} (hr : rw_M h n r) (hs : s < 4096) (hp : ∀ p, p < n → h 110 p = lf_pl r n kp p (p + 1)) (k1 : sf_ (lf r n kp) n k s → K 1 h) (k0 : ¬ sf_ (lf r n kp) n k s → K 0 h) : jm_CI E jm_SH jm_m_Mod_isEnough 1 [jm_R 78, jm_I s, jm_I k] h K :=
  jb_Mod_isEnough (rm_enough5 hr hs hp k1 k0 n 0 _ _ rfl rfl (Or.inl ⟨rfl, fun p hp => by omega⟩))
/-- the best of the sets below s -/
def si_ (u w : Nat → Int) (n : Nat) (k : Int) (s : Nat) (x : Int) : Prop := (x = -6 ∧ ∀ T, T < s → ¬ sf_ u n k T) ∨ ∃ b : Nat, x = b ∧ b < s ∧ sf_ u n k b ∧ ∀ T, T < s → sf_ u n k T → sw_ w n b ≤ sw_ w n T ∧ (T < b → sw_ w n b < sw_ w n T)
theorem rm_spill58 {x2 : Int} {K : Int → jm_H → Prop} (hr : rw_M h n r) (ho : rw_ok n r) (hk0 : 0 ≤ k) (hp : ∀ p, p < n → h 110 p = lf_pl r n kp p (p + 1)) (hk : ∀ S, sb_ (lf r n kp) (r 5) n k S → (x2 = 0 → K S h) ∧ (¬ x2 = 0 → K (sw_ (r 5) n S) h)) : ∀ (m s : Nat) (x3 x4 : Int), m + s = 2 ^ n → x4 = s → si_ (lf r n kp) (r 5) n k s x3 → jm_BI E jm_SH jm_m_Mod_spilled 3 58 [some (jm_R 78), some (jm_I k), some (jm_I x2), some (jm_I x3), some (jm_I x4), none] [] h K
  | 0, s, x3, x4, hm, h4, hi => by
    subst h4
    have hn := hr.2.1
    have h12 : (2 : Nat) ^ n ≤ 2 ^ 12 := Nat.pow_le_pow_right (by omega) hn
    have hpos : 0 < (2 : Nat) ^ n := Nat.pow_pos (by omega)
    have es : s = 2 ^ n := by omega
    subst es
    refine jb_Mod_spilled_58 ?_
    rw [hr.1, jv_shl_1 n (by omega)]
    refine ⟨fun _ => ?_, fun q => by omega⟩
    rcases hi with ⟨-, c⟩ | ⟨b, rfl, b1, b2, b3⟩
    · exact absurd (sf_all hk0 (fun j hj => by rw [Nat.testBit_two_pow_sub_one]; exact decide_eq_true hj)) (c (2 ^ n - 1) (by omega))
    · obtain ⟨q1, q2⟩ := hk b ⟨b1, b2, b3⟩
      exact ⟨fun z => rm_weight hr ho (by omega) (q2 z), q1⟩
  | m + 1, s, x3, x4, hm, h4, hi => by
    subst h4
    have hn := hr.2.1
    have h12 : (2 : Nat) ^ n ≤ 2 ^ 12 := Nat.pow_le_pow_right (by omega) hn
    have e12 : (2 : Nat) ^ 12 = 4096 := rfl
    have go : ∀ x : Int, si_ (lf r n kp) (r 5) n k (s + 1) x → jm_BI E jm_SH jm_m_Mod_spilled 3 58 [some (jm_R 78), some (jm_I k), some (jm_I x2), some (jm_I x), some (jm_I (jm_w32 ((s : Int) + 1))), none] [] h K := fun x hx => by
      rw [jm_w (by omega) (by omega)]
      exact rm_spill58 hr ho hk0 hp hk m (s + 1) _ _ (by omega) (by omega) hx
    have no : ¬ sf_ (lf r n kp) n k s → si_ (lf r n kp) (r 5) n k (s + 1) x3 := fun hs => by
      rcases hi with ⟨c1, c2⟩ | ⟨b, c0, b1, b2, b3⟩
      · refine Or.inl ⟨c1, fun T hT => ?_⟩
        by_cases e : T = s
        · rw [e]; exact hs
        · exact c2 T (by omega)
      · refine Or.inr ⟨b, c0, by omega, b2, fun T hT hf => ?_⟩
        by_cases e : T = s
        · rw [e] at hf; exact absurd hf hs
        · exact b3 T (by omega) hf
    have h87 : (∀ b : Nat, x3 = b → sw_ (r 5) n s < sw_ (r 5) n b) → jm_BI E jm_SH jm_m_Mod_spilled 3 87 [some (jm_R 78), some (jm_I k), some (jm_I x2), some (jm_I x3), some (jm_I s), none] [] h K := fun hl => by
      refine jb_Mod_spilled_87 (rm_enough hr (by omega) hp (fun hs => ⟨fun z => by omega, fun _ => go _ (Or.inr ⟨s, rfl, by omega, hs, fun T hT hf => ?_⟩)⟩) (fun hs => ⟨fun _ => go _ (no hs), fun z => absurd rfl z⟩))
      by_cases e : T = s
      · subst e
        exact ⟨Int.le_refl _, fun z => absurd z (Nat.lt_irrefl _)⟩
      · rcases hi with ⟨c1, c2⟩ | ⟨b, c0, b1, b2, b3⟩
        · exact absurd hf (c2 T (by omega))
        · have a1 := hl b c0
          have a2 := (b3 T (by omega) hf).1
          exact ⟨by omega, fun _ => by omega⟩
    refine jb_Mod_spilled_58 ?_
    rw [hr.1, jv_shl_1 n (by omega)]
    refine ⟨fun q => by omega, fun _ => ⟨fun q => h87 (fun b hb => by omega), fun q => ?_⟩⟩
    refine rm_weight hr ho (by omega) ?_
    rcases hi with ⟨c1, c2⟩ | ⟨b, c0, b1, b2, b3⟩
    · omega
    · subst c0
      refine rm_weight hr ho (by omega) ⟨fun z => go _ (Or.inr ⟨b, rfl, by omega, b2, fun T hT hf => ?_⟩), fun z => h87 (fun b2 hb => ?_)⟩
      · by_cases e : T = s
        · subst e
          exact ⟨z, fun y => by omega⟩
        · exact b3 T (by omega) hf
      · have : b2 = b := by omega
        subst this
        omega
theorem rm_spill27 {x2 : Int} {K : Int → jm_H → Prop} (ho : rw_ok n r) (hk0 : 0 ≤ k) (hk : ∀ (h2 : jm_H) (S : Nat), sq_ h h2 → sb_ (lf r n kp) (r 5) n k S → (x2 = 0 → K S h2) ∧ (¬ x2 = 0 → K (sw_ (r 5) n S) h2)) : ∀ (m i : Nat) (x3 : Int) (h1 : jm_H), m + i = n → x3 = i → rw_M h1 n r → h1 78 39 = kp → (∀ p, p < i → h1 110 p = lf_pl r n kp p (p + 1)) → sq_ h h1 → jm_BI E jm_SH jm_m_Mod_spilled 3 27 [some (jm_R 78), some (jm_I k), some (jm_I x2), some (jm_I x3), none, none] [] h1 K
  | 0, i, x3, h1, hm, hx, hr, hkp, hd, hf => by
    subst hx
    have : i = n := by omega
    subst this
    refine jb_Mod_spilled_27 ⟨fun _ => ?_, fun q => by rw [hr.1] at q; omega⟩
    exact rm_spill58 hr ho hk0 hd (fun S hS => hk h1 S hf hS) (2 ^ i) 0 _ _ rfl rfl (Or.inl ⟨rfl, fun T hT => by omega⟩)
  | m + 1, i, x3, h1, hm, hx, hr, hkp, hd, hf => by
    subst hx
    have hn := hr.2.1
    refine jb_Mod_spilled_27 ⟨fun q => by rw [hr.1] at q; omega, fun _ => rm_place hr hkp (by omega) ⟨by omega, ?_⟩⟩
    rw [jm_tn, jm_w (by omega) (by omega)]
    have s1 : sq_ h1 (jm_up h1 110 i (lf_pl r n kp i (i + 1) : Nat)) := sq_up fun _ _ => by unfold sc_; omega
    refine rm_spill27 ho hk0 hk m (i + 1) _ _ (by omega) (by omega) (hr.sq s1) (by rw [s1 78 39 (by unfold sc_; omega)]; exact hkp) (fun p hp => ?_) (hf.tr s1)
    by_cases e : p = i
    · subst e
      rw [up_s]
    · rw [up_o (by omega)]
      exact hd p (by omega)
theorem mc_spilled {x1 x2 v : Int} {K : Int → jm_H → Prop} (hr : rw_M h n r) (ho : rw_ok n r) (hkp : h 78 39 = kp) (hv : sp_spill n r kp x1 x2 v) (hk : ∀ h2 : jm_H, sq_ h h2 → K v h2) : jm_CI E jm_SH jm_m_Mod_spilled 3 [jm_R 78, jm_I x1, jm_I x2] h K := by
  have kb : ¬ ((0 ≤ x1 ∧ x1 ≤ 12) ∧ (x2 = 0 ∨ x2 = 1)) → K (-2) h := fun z => by
    rw [← hv.1 z]
    exact hk h sq_.rf
  refine jb_Mod_spilled (rm_in (fun q => ⟨fun z => by omega, fun _ => ?_⟩) (fun q => ⟨fun _ => kb (fun z => q z.1), fun z => absurd rfl z⟩))
  refine rm_in (fun q2 => ⟨fun _ => ?_, fun z => by omega⟩) (fun q2 => ⟨fun z => absurd rfl z, fun _ => kb (fun z => q2 (by omega))⟩)
  refine rm_spill27 ho q.1 (fun h2 S hs hS => ?_) n 0 _ h rfl rfl hr hkp (fun p hp => by omega) sq_.rf
  obtain ⟨w1, w2⟩ := hv.2 S ⟨q, by omega⟩ hS
  exact ⟨fun z => by rw [← w1 z]; exact hk h2 hs, fun z => by rw [← w2 z]; exact hk h2 hs⟩
end MS
