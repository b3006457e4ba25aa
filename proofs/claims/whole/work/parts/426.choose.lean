/-! SPILLED: the class's -/
section CH
variable {E : jm_Env} {n : Nat} {u w : Nat → Int} {k : Int}
def sp_f (h h2 : jm_H) : Prop := ∀ a c, ¬ (a = 56 ∧ (c = 4 ∨ c = 5)) → h2 a c = h a c
theorem sp_f.tr {h h1 h2 : jm_H} (p : sp_f h h1) (q : sp_f h1 h2) : sp_f h h2 := fun a b z => (q a b z).trans (p a b z)
theorem rc_choose (hn : n ≤ 12) (hw : ∀ j, j < n → 1 ≤ w j ∧ w j ≤ 100) (hu : ∀ j, j < n → (j : Int) ≤ u j ∧ u j ≤ n) (hk0 : 0 ≤ k ∧ k ≤ 12) :
    ∀ (m d T : Nat) (x1 x3 x4 : Int) (b : Nat) (h : jm_H) (K : jm_H → Prop), m ≤ n → m + 1 ≤ d → x1 = (m : Int) - 1 → x3 = T → x4 = sw_ w n T → x4 ≤ 100 * ((n : Int) - m) → (∀ j, j < m → T.testBit j = false) → T < 2 ^ n → (∀ j, j < n → h 57 j = u j ∧ h 44 j = w j) → (∀ p, p < n → h 58 p = sm_ (sk_ u T p) n - sm_ (sk_ u T p) m ∧ 0 ≤ h 58 p ∧ h 58 p ≤ k) → h 56 4 = b →
    (∀ (h2 : jm_H) (y : Nat × Int), sR_ w n (sA_ u n k T m) (b, h 56 5) y → h2 56 4 = y.1 → h2 56 5 = y.2 → sp_f h h2 → K h2) → jm_CV E jm_SH jm_m_Lifetimes_choose d [jm_R 56, jm_I x1, jm_I k, jm_I x3, jm_I x4] h K
  | 0, d, T, x1, x3, x4, b, h, K, hm, hd, e1, e3, e4, e5, hT, hTn, hf, hl, hb, hk => by
    refine jb_Lifetimes_choose (dr := d - 1) (by omega) (by omega) ⟨fun q => ⟨fun z => by omega, fun _ => ?_⟩, fun q => ?_⟩
    · refine hk _ (T, x4) (Or.inr ⟨⟨fun _ _ => rfl, fun p hp => ?_⟩, e4.symm, q, fun S hS => ?_⟩) ?_ ?_ (fun a c z => ?_)
      · have h1 := hl p hp
        have h2 : sm_ (sk_ u T p) 0 = 0 := rfl
        show sm_ (sk_ u T p) n ≤ k
        omega
      · have : S = T := Nat.eq_of_testBit_eq fun j => hS.1 j (by omega)
        subst this
        exact ⟨by simp only; omega, fun z => absurd z (Nat.lt_irrefl _)⟩
      · rw [up_o (by omega), up_s, e3]
      · rw [up_s]
      · rw [up_o (by omega), up_o (by omega)]
    · refine hk h (b, h 56 5) (Or.inl ⟨rfl, fun S hS => ?_⟩) hb rfl (fun _ _ _ => rfl)
      have := sA_w (w := w) (fun j hj => (hw j hj).1) hT hS
      simp only
      omega
  | m + 1, d, T, x1, x3, x4, b, h, K, hm, hd, e1, e3, e4, e5, hT, hTn, hf, hl, hb, hk => by
    have e1' : x1 = (m : Int) := by omega
    subst e1'
    have hTm : T.testBit m = false := hT m (by omega)
    have hum := hu m (by omega)
    have hwm := hw m (by omega)
    have h0w : 0 ≤ sw_ w n T := by
      have := sm_mono (F := fun _ => 0) (G := fun j => if T.testBit j = true then w j else 0) n (fun j hj => by
        have := hw j hj
        split <;> omega)
      rw [sm_z] at this
      exact this
    have hT12 : T < 4096 := Nat.lt_of_lt_of_le hTn (by
      have : (2 : Nat) ^ n ≤ 2 ^ 12 := Nat.pow_le_pow_right (by omega) hn
      omega)
    have hor : T ||| 2 ^ m < 2 ^ n := Nat.or_lt_two_pow hTn (Nat.pow_lt_pow_right (by omega) (by omega))
    have hor12 : T ||| 2 ^ m < 4096 := Nat.lt_of_lt_of_le hor (by
      have : (2 : Nat) ^ n ≤ 2 ^ 12 := Nat.pow_le_pow_right (by omega) hn
      omega)
    have go58 : ∀ (h1 : jm_H) (y : Nat × Int), sR_ w n (sA_ u n k T m) (b, h 56 5) y → h1 56 4 = y.1 → h1 56 5 = y.2 → sp_f h h1 → jm_BV E jm_SH jm_m_Lifetimes_choose d 58 [some (jm_R 56), some (jm_I m), some (jm_I k), some (jm_I x3), some (jm_I x4)] [] h1 K := by
      intro h1 y hy a1 a2 a3
      refine jb_Lifetimes_choose_58 (dr := d - 1) (by omega) (by omega) ⟨by omega, ?_⟩
      rw [jm_tn, a3 57 m (by omega), a3 44 m (by omega), (hf m (by omega)).1, (hf m (by omega)).2]
      refine ⟨fun z => ?_, fun z => ⟨by omega, ?_⟩⟩
      · refine hk h1 y (hy.tr (Or.inl ⟨rfl, fun S hS => ?_⟩) (fun S T2 s1 s2 => sA_lt hTm s1 s2) (fun S => sA_split hTm)) a1 a2 a3
        refine sA_no (show m < n by omega) (fun j hj => (hw j hj).1) z hTm (fun S2 hS2 => ?_) hS
        rcases hy with ⟨rfl, c⟩ | ⟨c1, c2, c3, c4⟩
        · exact c S2 hS2
        · exact (c4 S2 hS2).1
      · rw [e3, jv_shl_1 m (by omega), jv_or_nat (by omega), jm_w (x := (m : Int) - 1) (by omega) (by omega), jm_w (x := x4 + w m) (by omega) (by omega)]
        refine rc_choose hn hw hu hk0 m (d - 1) (T ||| 2 ^ m) _ _ _ y.1 h1 _ (by omega) (by omega) rfl rfl (by rw [sw_or (by omega) hTm, e4]) (by omega) (fun j hj => ?_) hor (fun j hj => by rw [a3 57 j (by omega), a3 44 j (by omega)]; exact hf j hj) (fun p hp => ?_) a1 (fun h2 y2 c1 c2 c3 c4 => ?_)
        · rw [Nat.testBit_or, bt_two, hT j (by omega), decide_eq_false (by omega)]
          rfl
        · rw [a3 58 p (by omega)]
          obtain ⟨l1, l2, l3⟩ := hl p hp
          refine ⟨?_, l2, l3⟩
          rw [l1]
          have r1 := sm_rng (F := sk_ u (T ||| 2 ^ m) p) (G := sk_ u T p) (m := m + 1) n (by omega) (fun j z1 z2 => by
            unfold sk_
            rw [Nat.testBit_or, bt_two, decide_eq_false (by omega), Bool.or_false])
          have r2 : sk_ u (T ||| 2 ^ m) p m = 0 := by
            unfold sk_
            rw [if_neg]
            rintro ⟨q1, -⟩
            rw [Nat.testBit_or, bt_two] at q1
            simp at q1
          have r3 : sm_ (sk_ u (T ||| 2 ^ m) p) (m + 1) = sm_ (sk_ u (T ||| 2 ^ m) p) m + sk_ u (T ||| 2 ^ m) p m := rfl
          omega
        · refine hk h2 y2 (hy.tr ?_ (fun S T2 s1 s2 => sA_lt hTm s1 s2) (fun S => sA_split hTm)) c2 c3 (a3.tr c4)
          rw [a2] at c1
          exact c1
    refine jb_Lifetimes_choose (dr := d - 1) (by omega) (by omega) ⟨fun q => ⟨fun _ => ?_, fun z => by omega⟩, fun q => ?_⟩
    · refine rc_room hn (show m < n by omega) ⟨(hf m (by omega)).1, hum.2⟩ (fun ⟨p, p1, p2, p3⟩ => ⟨fun _ => ?_, fun z => absurd rfl z⟩) (fun hr => ⟨fun z => by omega, fun _ => ?_⟩)
      · refine go58 h (b, h 56 5) (Or.inl ⟨rfl, fun S hS => ?_⟩) hb rfl (fun _ _ _ => rfl)
        have := (hl p (by omega)).1
        exact absurd hS (sA_full (show m < n by omega) (show p < n by omega) p1 p2 hTm (by omega))
      · refine rc_cnt hn (show m < n by omega) ⟨(hf m (by omega)).1, hum.2⟩ (by omega) (fun p hp => by have := hl p hp; omega) (fun h1 a1 a2 => ?_)
        rw [jm_w (x := (m : Int) - 1) (by omega) (by omega)]
        refine rc_choose hn hw hu hk0 m (d - 1) T _ _ _ b h1 _ (by omega) (by omega) rfl e3 e4 (by omega) (fun j hj => hT j (by omega)) hTn (fun j hj => by rw [a1 57 j (by omega), a1 44 j (by omega)]; exact hf j hj) (fun p hp => ?_) (by rw [a1 56 4 (by omega)]; exact hb) (fun h2 y c1 c2 c3 c4 => ?_)
        · obtain ⟨l1, l2, l3⟩ := hl p hp
          have r3 : sm_ (sk_ u T p) (m + 1) = sm_ (sk_ u T p) m + sk_ u T p m := rfl
          have r4 : sk_ u T p m = if m ≤ p ∧ (p : Int) < u m then 1 else 0 := by
            unfold sk_
            simp [hTm]
          rw [a2 p]
          by_cases z : m ≤ p ∧ (p : Int) < u m
          · rw [if_pos z] at r4 ⊢
            have := hr p z.1 z.2
            omega
          · rw [if_neg z] at r4 ⊢
            omega
        · refine rc_cnt (h := h2) hn (show m < n by omega) ⟨by rw [c4 57 m (by omega), a1 57 m (by omega)]; exact (hf m (by omega)).1, hum.2⟩ (by omega) (fun p hp => ?_) (fun h3 d1 d2 => ?_)
          · rw [c4 58 p (by omega), a2 p]
            have := hl p hp
            split <;> omega
          · refine go58 h3 y (by rw [a1 56 5 (by omega)] at c1; exact c1) (by rw [d1 56 4 (by omega)]; exact c2) (by rw [d1 56 5 (by omega)]; exact c3) (fun a c z => ?_)
            by_cases e : a = 58
            · subst e
              rw [d2 c, c4 58 c (by omega), a2 c]
              split <;> omega
            · rw [d1 a c e, c4 a c z, a1 a c e]
    · refine hk h (b, h 56 5) (Or.inl ⟨rfl, fun S hS => ?_⟩) hb rfl (fun _ _ _ => rfl)
      have := sA_w (w := w) (fun j hj => (hw j hj).1) hT hS
      simp only
      omega
/-- all spilled is always enough -/
theorem sf_all {S : Nat} (hk : 0 ≤ k) (hS : ∀ j, j < n → S.testBit j = true) : sf_ u n k S := by
  intro p hp
  have : sm_ (sk_ u S p) n = sm_ (fun _ => 0) n := sm_congr fun j hj => by
    unfold sk_
    rw [if_neg]
    rintro ⟨z, -⟩
    rw [hS j hj] at z
    cases z
  rw [this, sm_z]
  exact hk
theorem sw_b {S : Nat} (hw : ∀ j, j < n → 1 ≤ w j ∧ w j ≤ 100) : 0 ≤ sw_ w n S ∧ sw_ w n S ≤ 100 * n := by
  have h1 := sm_mono (F := fun _ => 0) (G := fun j => if S.testBit j = true then w j else 0) n (fun j hj => by
    have := hw j hj
    split <;> omega)
  have h2 : ∀ m, m ≤ n → sm_ (fun j => if S.testBit j = true then w j else 0) m ≤ 100 * m := by
    intro m
    induction m with
    | zero => intro _; simp [sm_]
    | succ m ih =>
      intro hm
      have a := ih (by omega)
      have b := hw m (by omega)
      simp only [sm_]
      split <;> omega
  rw [sm_z] at h1
  exact ⟨h1, h2 n (Nat.le_refl _)⟩
theorem sR_sb {x : Nat} {y : Nat × Int} (hw : ∀ j, j < n → 1 ≤ w j ∧ w j ≤ 100) (hn : n ≤ 12) (hk : 0 ≤ k) (h : sR_ w n (sA_ u n k 0 n) (x, 1000000) y) : sb_ u w n k y.1 ∧ y.2 = sw_ w n y.1 := by
  have hA : ∀ S, S < 2 ^ n → sf_ u n k S → sA_ u n k 0 n S := fun S hS hf => ⟨fun j hj => by rw [bt_lt hS hj]; simp, hf⟩
  rcases h with ⟨rfl, c⟩ | ⟨c1, c2, c3, c4⟩
  · have h1 : sf_ u n k (2 ^ n - 1) := sf_all hk (fun j hj => by rw [Nat.testBit_two_pow_sub_one]; exact decide_eq_true hj)
    have h2 := c _ (hA (2 ^ n - 1) (by have := Nat.pow_pos (n := n) (show 0 < 2 by omega); omega) h1)
    have h3 := sw_b (S := 2 ^ n - 1) hw
    simp only at h2
    omega
  · refine ⟨⟨Nat.lt_pow_two_of_testBit _ (fun j hj => by rw [c1.1 j hj]; simp), c1.2, fun T hT hf => ?_⟩, c2.symm⟩
    rw [c2]
    exact c4 T (hA T hT hf)
end CH
section SC
variable {E : jm_Env} {h : jm_H} {n : Nat} {r : Nat → Nat → Int} {kp k : Int}
theorem rc_spill2 {K : jm_H → Prop} (ho : rw_ok n r) (hk0 : 0 ≤ k ∧ k ≤ 12) (hk : ∀ (h2 : jm_H) (S : Nat), sb_ (lf r n kp) (r 5) n k S → h2 56 4 = S → h2 56 5 = sw_ (r 5) n S → sq_ h h2 → K h2) : ∀ (m i : Nat) (x2 : Int) (h1 : jm_H), m + i = n → x2 = i → rw_C h1 n r → h1 56 3 = kp → (∀ j, j < i → h1 57 j = lf r n kp j ∧ h1 58 j = 0) → sq_ h h1 → jm_BV E jm_SH jm_m_Lifetimes_spillTo 18 2 [some (jm_R 56), some (jm_I k), some (jm_I x2)] [] h1 K
  | 0, i, x2, h1, hm, hx, hr, hkp, hd, hf => by
    subst hx
    have hn := hr.2.1
    have : i = n := by omega
    subst this
    refine jb_Lifetimes_spillTo_2 ⟨fun _ => ?_, fun q => by rw [hr.1] at q; omega⟩
    rw [hr.1, jm_w (by omega) (by omega)]
    have hwo : ∀ j, j < i → 1 ≤ r 5 j ∧ r 5 j ≤ 100 := fun j hj => (ho j hj).2.2.2.2.2
    have hz : ∀ p, sm_ (sk_ (lf r i kp) 0 p) i - sm_ (sk_ (lf r i kp) 0 p) i = 0 := fun p => by omega
    refine rc_choose (u := lf r i kp) (w := r 5) hn hwo (fun j hj => lf_b hj) hk0 i 17 0 _ _ _ 0 _ _ (Nat.le_refl _) (by omega) rfl rfl ?_ (by omega) (fun j _ => by simp) (Nat.pow_pos (by omega)) (fun j hj => ?_) (fun p hp => ?_) ?_ (fun h2 y c1 c2 c3 c4 => ?_)
    · have : sw_ (r 5) i 0 = sm_ (fun _ => 0) i := sm_congr fun j _ => by simp
      rw [this, sm_z]
    · rw [up_o (by omega), up_o (by omega), up_o (by omega), up_o (by omega)]
      exact ⟨(hd j hj).1, (hr.2.2 j hj).2.2.2.2.2⟩
    · rw [up_o (by omega), up_o (by omega), (hd p hp).2, hz p]
      omega
    · rw [up_o (by omega), up_s]
      rfl
    · rw [up_s] at c1
      obtain ⟨s1, s2⟩ := sR_sb hwo hn hk0.1 c1
      refine hk h2 y.1 s1 c2 (by rw [c3, s2]) (hf.tr fun a b z => ?_)
      have hz2 : ¬ (a = 56 ∧ (b = 4 ∨ b = 5)) := fun w => z (by unfold sc_; omega)
      rw [c4 a b hz2, up_o (by omega), up_o (by omega)]
  | m + 1, i, x2, h1, hm, hx, hr, hkp, hd, hf => by
    subst hx
    have hn := hr.2.1
    refine jb_Lifetimes_spillTo_2 ⟨fun q => by rw [hr.1] at q; omega, fun q => ?_⟩
    refine rc_until hr hkp (by omega) ⟨by omega, by omega, ?_⟩
    rw [jm_tn, jm_w (by omega) (by omega)]
    have s1 : sq_ h1 (jm_up (jm_up h1 57 i (lf r n kp i)) 58 i 0) := (sq_up fun _ _ => by unfold sc_; omega).tr (sq_up fun _ _ => by unfold sc_; omega)
    refine rc_spill2 ho hk0 hk m (i + 1) _ _ (by omega) (by omega) (hr.sq s1) (by rw [s1 56 3 (by unfold sc_; omega)]; exact hkp) (fun j hj => ?_) (hf.tr s1)
    by_cases e : j = i
    · subst e
      rw [up_o (by omega), up_s, up_s]
      exact ⟨rfl, rfl⟩
    · rw [up_o (by omega), up_o (by omega), up_o (by omega), up_o (by omega)]
      exact hd j (by omega)
/-- what spilled answers -/
def sp_spill (n : Nat) (r : Nat → Nat → Int) (kp x1 x2 v : Int) : Prop := (¬ ((0 ≤ x1 ∧ x1 ≤ 12) ∧ (x2 = 0 ∨ x2 = 1)) → v = -2) ∧ ∀ S, (0 ≤ x1 ∧ x1 ≤ 12) ∧ (x2 = 0 ∨ x2 = 1) → sb_ (lf r n kp) (r 5) n x1 S → (x2 = 0 → v = S) ∧ (¬ x2 = 0 → v = sw_ (r 5) n S)
theorem tc_spilled {x1 x2 : Int} {K : Int → jm_H → Prop} (hr : rw_C h n r) (ho : rw_ok n r) (hkp : h 56 3 = kp) (hk : ∀ (v : Int) (h2 : jm_H), sp_spill n r kp x1 x2 v → sq_ h h2 → K v h2) : jm_CI E jm_SH jm_m_Top_spilled 19 [jm_R 0, jm_I x1, jm_I x2] h K := by
  have kb : ¬ ((0 ≤ x1 ∧ x1 ≤ 12) ∧ (x2 = 0 ∨ x2 = 1)) → K (-2) h := fun z => hk _ h ⟨fun _ => rfl, fun S y => absurd y z⟩ sq_.rf
  refine jb_Top_spilled ⟨fun q => kb (by omega), fun q => ⟨fun q2 => kb (by omega), fun q2 => rc_isBit (fun q3 => ⟨fun _ => ?_, fun z => by omega⟩) (fun q3 => ⟨fun z => absurd rfl z, fun _ => kb (fun z => q3 z.2)⟩)⟩⟩
  refine jb_Lifetimes_spillTo (rc_spill2 ho (by omega) (fun h2 S c1 c2 c3 c4 => ?_) n 0 _ h rfl rfl hr hkp (fun j hj => by omega) sq_.rf)
  rw [c2, c3]
  refine ⟨fun z => hk _ h2 ⟨fun y => absurd ⟨by omega, q3⟩ y, fun S2 _ y => ⟨fun z2 => absurd z2 z, fun _ => by rw [sb_one c1 y]⟩⟩ c4, fun z => hk _ h2 ⟨fun y => absurd ⟨by omega, q3⟩ y, fun S2 _ y => ⟨fun _ => by rw [sb_one c1 y], fun z2 => absurd z z2⟩⟩ c4⟩
end SC
