/-! how long values live: the class's contracts -/
/-- till where the value of register g lives: m instructions are left from k on, last uses it -/
def lf_to (r : Nat → Nat → Int) (n : Nat) (kp g : Int) : Nat → Nat → Int → Int
  | 0, _, l => if jv_and (jv_shr kp g) 1 = 1 then (n : Int) else l
  | m + 1, k, l => if r 1 k = g then (if r 2 k = g ∨ (r 0 k < 5 ∧ r 3 k = g) then (k : Int) else l) else lf_to r n kp g m (k + 1) (if r 2 k = g ∨ (r 0 k < 5 ∧ r 3 k = g) then (k : Int) else l)
def lf (r : Nat → Nat → Int) (n : Nat) (kp : Int) (i : Nat) : Int := lf_to r n kp (r 1 i) (n - (i + 1)) (i + 1) i
theorem lf_to_b (r : Nat → Nat → Int) (n : Nat) (kp g : Int) (b : Int) : ∀ (m k : Nat) (l : Int), k + m = n → b ≤ l → b ≤ k → l ≤ n → b ≤ lf_to r n kp g m k l ∧ lf_to r n kp g m k l ≤ n
  | 0, k, l, hk, hl, hb, hn => by
    unfold lf_to
    split <;> omega
  | m + 1, k, l, hk, hl, hb, hn => by
    unfold lf_to
    split
    · split <;> omega
    · split
      · exact lf_to_b r n kp g b m (k + 1) _ (by omega) (by omega) (by omega) (by omega)
      · exact lf_to_b r n kp g b m (k + 1) _ (by omega) (by omega) (by omega) (by omega)
theorem lf_b {r : Nat → Nat → Int} {n : Nat} {kp : Int} {i : Nat} (hi : i < n) : (i : Int) ≤ lf r n kp i ∧ lf r n kp i ≤ n := lf_to_b r n kp (r 1 i) i _ _ _ (by omega) (by omega) (by omega) (by omega)
/-- the values below i that live behind place p, as bits -/
def lf_pl (r : Nat → Nat → Int) (n : Nat) (kp : Int) (p : Nat) : Nat → Nat
  | 0 => 0
  | i + 1 => lf_pl r n kp p i ||| (if (p : Int) < lf r n kp i then 2 ^ i else 0)
theorem lf_pl_lt (r : Nat → Nat → Int) (n : Nat) (kp : Int) (p : Nat) : ∀ i, lf_pl r n kp p i < 2 ^ i
  | 0 => by simp [lf_pl]
  | i + 1 => by
    have := lf_pl_lt r n kp p i
    unfold lf_pl
    refine Nat.or_lt_two_pow (by rw [Nat.pow_succ]; omega) ?_
    split
    · exact Nat.pow_lt_pow_right (by omega) (by omega)
    · exact Nat.pow_pos (by omega)
theorem lf_pl_4096 (r : Nat → Nat → Int) (n : Nat) (kp : Int) (p : Nat) {i : Nat} (hi : i ≤ 12) : lf_pl r n kp p i < 4096 := Nat.lt_of_lt_of_le (lf_pl_lt r n kp p i) (by
  have : (2 : Nat) ^ i ≤ 2 ^ 12 := Nat.pow_le_pow_right (by omega) hi
  omega)
/-- one bit more -/
theorem lf_or {r : Nat → Nat → Int} {n : Nat} {kp : Int} {p i : Nat} (hi : i < 12) : ((p : Int) < lf r n kp i → jv_or (lf_pl r n kp p i : Int) (jv_shl 1 (i : Int)) = (lf_pl r n kp p (i + 1) : Nat)) ∧ (¬ (p : Int) < lf r n kp i → jv_or (lf_pl r n kp p i : Int) 0 = (lf_pl r n kp p (i + 1) : Nat)) := by
  have hb := lf_pl_4096 r n kp p (i := i + 1) (by omega)
  refine ⟨fun q => ?_, fun q => ?_⟩
  · have e : lf_pl r n kp p (i + 1) = lf_pl r n kp p i ||| 2 ^ i := by
      show _ ||| (if _ then _ else _) = _
      rw [if_pos q]
    rw [e] at hb
    rw [jv_shl_1 i (by omega), jv_or_nat (by omega), e]
  · have e : lf_pl r n kp p (i + 1) = lf_pl r n kp p i ||| 0 := by
      show _ ||| (if _ then _ else _) = _
      rw [if_neg q]
    rw [e] at hb
    rw [show (0 : Int) = ((0 : Nat) : Int) from rfl, jv_or_nat (by omega), e]
section LF
variable {E : jm_Env} {h : jm_H} {n : Nat} {r : Nat → Nat → Int} {kp : Int}
theorem rc_until19 {g : Int} {K : Int → jm_H → Prop} (hr : rw_C h n r) (hkp : h 56 3 = kp) : ∀ (m k : Nat) (x3 x4 : Int), k + m = n → x4 = k → K (lf_to r n kp g m k x3) h → jm_BI E jm_SH jm_m_Lifetimes_until 2 19 [some (jm_R 56), none, some (jm_I g), some (jm_I x3), some (jm_I x4)] [] h K
  | 0, k, x3, x4, hm, hx, hk => by
    subst hx
    refine jb_Lifetimes_until_19 ⟨fun _ => ?_, fun q => by rw [hr.1] at q; omega⟩
    unfold lf_to at hk
    rw [hkp, hr.1]
    refine ⟨fun q => ?_, fun q => ?_⟩
    · rw [if_neg (by omega)] at hk; exact hk
    · have := jv_and_1 (jv_shr kp g)
      rw [if_pos (by omega)] at hk; exact hk
  | m + 1, k, x3, x4, hm, hx, hk => by
    have hn := hr.2.1
    subst hx
    refine jb_Lifetimes_until_19 ⟨fun q => by rw [hr.1] at q; omega, fun q => ?_⟩
    have e1 := (hr.2.2 k (by omega)).2.1
    unfold lf_to at hk
    refine rc_uses hr (by omega) (fun u => ⟨fun z => by omega, fun _ => ?_⟩) (fun u => ⟨fun _ => ?_, fun z => absurd rfl z⟩)
    · have u2 : r 2 k = g ∨ (r 0 k < 5 ∧ r 3 k = g) := u
      rw [if_pos u2] at hk
      refine jb_Lifetimes_until_47 ⟨by omega, ?_⟩
      rw [jm_tn, e1, jm_w (by omega) (by omega)]
      refine ⟨fun z => ?_, fun z => ?_⟩
      · rw [if_neg z] at hk
        exact rc_until19 hr hkp m (k + 1) _ _ (by omega) (by omega) hk
      · rw [if_pos z] at hk
        exact hk
    · have u2 : ¬ (r 2 k = g ∨ (r 0 k < 5 ∧ r 3 k = g)) := u
      rw [if_neg u2] at hk
      refine jb_Lifetimes_until_47 ⟨by omega, ?_⟩
      rw [jm_tn, e1, jm_w (by omega) (by omega)]
      refine ⟨fun z => ?_, fun z => ?_⟩
      · rw [if_neg z] at hk
        exact rc_until19 hr hkp m (k + 1) _ _ (by omega) (by omega) hk
      · rw [if_pos z] at hk
        exact hk
theorem rc_until {i : Nat} {K : Int → jm_H → Prop} (hr : rw_C h n r) (hkp : h 56 3 = kp) (hi : i < n) (hk : K (lf r n kp i) h) : jm_CI E jm_SH jm_m_Lifetimes_until 2 [jm_R 56, jm_I i] h K := by
  have hn := hr.2.1
  refine jb_Lifetimes_until ⟨by omega, ?_⟩
  rw [jm_tn, (hr.2.2 i hi).2.1, jm_w (by omega) (by omega)]
  exact rc_until19 hr hkp (n - (i + 1)) (i + 1) _ _ (by omega) (by omega) hk
theorem rc_living4 {p : Nat} {K : Int → jm_H → Prop} (hr : rw_C h n r) (hkp : h 56 3 = kp) (hp : p < n) : ∀ (m i : Nat) (x2 x3 : Int), m + i = p + 1 → x2 = lf_pl r n kp p i → x3 = i → K (lf_pl r n kp p (p + 1)) h → jm_BI E jm_SH jm_m_Lifetimes_livingBehind 3 4 [some (jm_R 56), some (jm_I p), some (jm_I x2), some (jm_I x3)] [] h K
  | 0, i, x2, x3, hm, h2, h3, hk => by
    subst h3
    refine jb_Lifetimes_livingBehind_4 ⟨fun q => ?_, fun q => by omega⟩
    rw [h2, show i = p + 1 by omega]
    exact hk
  | m + 1, i, x2, x3, hm, h2, h3, hk => by
    have hn := hr.2.1
    subst h3
    refine jb_Lifetimes_livingBehind_4 ⟨fun q => by omega, fun q => ⟨fun z => by rw [hr.1] at z; omega, fun z => ?_⟩⟩
    have ho := lf_or (r := r) (n := n) (kp := kp) (p := p) (i := i) (by omega)
    refine rc_until hr hkp (by omega) ⟨fun u => ?_, fun u => ?_⟩
    · rw [jm_w (by omega) (by omega)]
      exact rc_living4 hr hkp hp m (i + 1) _ _ (by omega) (by rw [h2]; exact ho.2 (by omega)) (by omega) hk
    · rw [jm_w (by omega) (by omega)]
      exact rc_living4 hr hkp hp m (i + 1) _ _ (by omega) (by rw [h2]; exact ho.1 (by omega)) (by omega) hk
theorem rc_living {p : Nat} {K : Int → jm_H → Prop} (hr : rw_C h n r) (hkp : h 56 3 = kp) (hp : p < n) (hk : K (lf_pl r n kp p (p + 1)) h) : jm_CI E jm_SH jm_m_Lifetimes_livingBehind 3 [jm_R 56, jm_I p] h K :=
  jb_Lifetimes_livingBehind (rc_living4 hr hkp hp (p + 1) 0 _ _ rfl rfl rfl hk)
/-- the most at one of the first i places -/
def lf_cr (r : Nat → Nat → Int) (n : Nat) (kp : Int) : Nat → Int
  | 0 => 0
  | i + 1 => max (lf_cr r n kp i) (lf_cnt (lf_pl r n kp i (i + 1)) 12)
theorem rc_crowd4 {K : Int → jm_H → Prop} (hr : rw_C h n r) (hkp : h 56 3 = kp) : ∀ (m i : Nat) (x1 x2 : Int), m + i = n → x1 = lf_cr r n kp i → x2 = i → K (lf_cr r n kp n) h → jm_BI E jm_SH jm_m_Lifetimes_mostAtOnePlace 4 4 [some (jm_R 56), some (jm_I x1), some (jm_I x2)] [] h K
  | 0, i, x1, x2, hm, h1, h2, hk => by
    subst h2
    refine jb_Lifetimes_mostAtOnePlace_4 ⟨fun q => ?_, fun q => by rw [hr.1] at q; omega⟩
    rw [h1, show i = n by omega]
    exact hk
  | m + 1, i, x1, x2, hm, h1, h2, hk => by
    have hn := hr.2.1
    subst h2
    refine jb_Lifetimes_mostAtOnePlace_4 ⟨fun q => by rw [hr.1] at q; omega, fun q => ?_⟩
    refine rc_living hr hkp (by omega) ?_
    refine rc_bitCount (lf_pl_4096 r n kp i (by omega)) ?_
    rw [jm_w (by omega) (by omega)]
    exact rc_crowd4 hr hkp m (i + 1) _ _ (by omega) (by rw [h1]; rfl) (by omega) hk
theorem rc_crowd {K : Int → jm_H → Prop} (hr : rw_C h n r) (hkp : h 56 3 = kp) (hk : K (lf_cr r n kp n) h) : jm_CI E jm_SH jm_m_Lifetimes_mostAtOnePlace 4 [jm_R 56] h K :=
  jb_Lifetimes_mostAtOnePlace (rc_crowd4 hr hkp n 0 _ _ rfl rfl rfl hk)
/-- the first from k on, of m, that lives nowhere -/
def lf_un (r : Nat → Nat → Int) (n : Nat) (kp : Int) : Nat → Nat → Int
  | 0, _ => -1
  | m + 1, k => if lf r n kp k = k then (k : Int) else lf_un r n kp m (k + 1)
theorem rc_unused2 {K : Int → jm_H → Prop} (hr : rw_C h n r) (hkp : h 56 3 = kp) : ∀ (m i : Nat) (x1 : Int), i + m = n → x1 = i → K (lf_un r n kp m i) h → jm_BI E jm_SH jm_m_Lifetimes_firstUnused 3 2 [some (jm_R 56), some (jm_I x1)] [] h K
  | 0, i, x1, hm, h1, hk => by
    subst h1
    exact jb_Lifetimes_firstUnused_2 ⟨fun q => hk, fun q => by rw [hr.1] at q; omega⟩
  | m + 1, i, x1, hm, h1, hk => by
    have hn := hr.2.1
    subst h1
    refine jb_Lifetimes_firstUnused_2 ⟨fun q => by rw [hr.1] at q; omega, fun q => ?_⟩
    unfold lf_un at hk
    refine rc_until hr hkp (by omega) ⟨fun z => ?_, fun z => ?_⟩
    · rw [if_neg z] at hk
      rw [jm_w (by omega) (by omega)]
      exact rc_unused2 hr hkp m (i + 1) _ (by omega) (by omega) hk
    · rw [if_pos z] at hk
      exact hk
theorem rc_unused {K : Int → jm_H → Prop} (hr : rw_C h n r) (hkp : h 56 3 = kp) (hk : K (lf_un r n kp n 0) h) : jm_CI E jm_SH jm_m_Lifetimes_firstUnused 3 [jm_R 56] h K :=
  jb_Lifetimes_firstUnused (rc_unused2 hr hkp n 0 _ (by omega) rfl hk)
end LF
