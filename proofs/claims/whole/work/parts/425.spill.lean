/-! SPILLED: what it is -/
def sm_ (F : Nat → Int) : Nat → Int
  | 0 => 0
  | k + 1 => sm_ F k + F k
theorem sm_rng {F G : Nat → Int} {m : Nat} : ∀ n, m ≤ n → (∀ j, m ≤ j → j < n → F j = G j) → sm_ F n - sm_ F m = sm_ G n - sm_ G m
  | 0, h, _ => by
    have : m = 0 := by omega
    subst this
    simp [sm_]
  | n + 1, h, e => by
    by_cases q : m = n + 1
    · subst q; omega
    · have := sm_rng n (by omega) (fun j a b => e j a (by omega))
      have h2 := e n (by omega) (by omega)
      simp only [sm_]
      omega
theorem sm_congr {F G : Nat → Int} {n : Nat} (e : ∀ j, j < n → F j = G j) : sm_ F n = sm_ G n := by
  have := sm_rng (F := F) (G := G) (m := 0) n (by omega) (fun j _ h => e j h)
  simp only [sm_] at this
  omega
theorem sm_mono {F G : Nat → Int} : ∀ n, (∀ j, j < n → F j ≤ G j) → sm_ F n ≤ sm_ G n
  | 0, _ => by simp [sm_]
  | n + 1, e => by
    have := sm_mono n (fun j h => e j (by omega))
    have h2 := e n (by omega)
    simp only [sm_]
    omega
theorem sm_one {F G : Nat → Int} {m : Nat} : ∀ n, m < n → (∀ j, j < n → j ≠ m → F j = G j) → sm_ F n = sm_ G n + (F m - G m)
  | 0, h, _ => by omega
  | n + 1, h, e => by
    simp only [sm_]
    by_cases q : m = n
    · subst q
      have := sm_congr (F := F) (G := G) (n := m) (fun j hj => e j (by omega) (by omega))
      omega
    · have := sm_one n (by omega) (fun j a b => e j (by omega) b)
      have h2 := e n (by omega) (by omega)
      omega
theorem sm_z : ∀ n, sm_ (fun _ => 0) n = 0
  | 0 => rfl
  | n + 1 => by
    simp only [sm_]
    rw [sm_z n]
    rfl
/-- value j lives at place p and is kept -/
def sk_ (u : Nat → Int) (S p j : Nat) : Int := if S.testBit j = false ∧ j ≤ p ∧ (p : Int) < u j then 1 else 0
def sw_ (w : Nat → Int) (n S : Nat) : Int := sm_ (fun j => if S.testBit j = true then w j else 0) n
def sf_ (u : Nat → Int) (n : Nat) (k : Int) (S : Nat) : Prop := ∀ p, p < n → sm_ (sk_ u S p) n ≤ k
/-- the lightest set, of several the least -/
def sb_ (u w : Nat → Int) (n : Nat) (k : Int) (S : Nat) : Prop := S < 2 ^ n ∧ sf_ u n k S ∧ ∀ T, T < 2 ^ n → sf_ u n k T → sw_ w n S ≤ sw_ w n T ∧ (T < S → sw_ w n S < sw_ w n T)
theorem sb_one {u w : Nat → Int} {n : Nat} {k : Int} {S T : Nat} (h1 : sb_ u w n k S) (h2 : sb_ u w n k T) : S = T := by
  have a := h1.2.2 T h2.1 h2.2.1
  have b := h2.2.2 S h1.1 h1.2.1
  rcases Nat.lt_trichotomy S T with q | q | q
  · have := b.2 q; omega
  · exact q
  · have := a.2 q; omega
theorem bt_two {i j : Nat} : (2 ^ i).testBit j = decide (i = j) := Nat.testBit_two_pow
theorem bt_lt {S n : Nat} (h : S < 2 ^ n) {j : Nat} (hj : n ≤ j) : S.testBit j = false := Nat.testBit_lt_two_pow (Nat.lt_of_lt_of_le h (Nat.pow_le_pow_right (by omega) hj))
theorem bt_dm {x i : Nat} : x.testBit i = decide (x / 2 ^ i % 2 = 1) := Nat.testBit_eq_decide_div_mod_eq
theorem bt_ltb {x y i : Nat} (hx : x.testBit i = false) (hy : y.testBit i = true) (hn : ∀ j, i < j → x.testBit j = y.testBit j) : x < y := by
  have e : x / 2 ^ i / 2 = y / 2 ^ i / 2 := by
    rw [Nat.div_div_eq_div_mul, Nat.div_div_eq_div_mul, ← Nat.pow_succ]
    apply Nat.eq_of_testBit_eq
    intro j
    rw [Nat.testBit_div_two_pow, Nat.testBit_div_two_pow]
    exact hn _ (by omega)
  rw [bt_dm] at hx hy
  simp only [decide_eq_false_iff_not, decide_eq_true_eq] at hx hy
  rcases Nat.lt_or_ge x y with q | q
  · exact q
  · have := Nat.div_le_div_right (c := 2 ^ i) q
    omega
/-- sets that go on from T below m -/
def sA_ (u : Nat → Int) (n : Nat) (k : Int) (T m S : Nat) : Prop := (∀ j, m ≤ j → S.testBit j = T.testBit j) ∧ sf_ u n k S
/-- from the best x so far to the best y with the sets A too -/
def sR_ (w : Nat → Int) (n : Nat) (A : Nat → Prop) (x y : Nat × Int) : Prop := (y = x ∧ ∀ S, A S → x.2 ≤ sw_ w n S) ∨ (A y.1 ∧ sw_ w n y.1 = y.2 ∧ y.2 < x.2 ∧ ∀ S, A S → y.2 ≤ sw_ w n S ∧ (S < y.1 → y.2 < sw_ w n S))
theorem sR_.tr {w : Nat → Int} {n : Nat} {A B C : Nat → Prop} {x y z : Nat × Int} (h1 : sR_ w n A x y) (h2 : sR_ w n B y z) (hlt : ∀ S T, A S → B T → S < T) (hC : ∀ S, C S ↔ A S ∨ B S) : sR_ w n C x z := by
  rcases h2 with ⟨rfl, b⟩ | ⟨b1, b2, b3, b4⟩
  · rcases h1 with ⟨rfl, a⟩ | ⟨a1, a2, a3, a4⟩
    · exact Or.inl ⟨rfl, fun S hS => ((hC S).mp hS).elim (a S) (b S)⟩
    · refine Or.inr ⟨(hC _).mpr (Or.inl a1), a2, a3, fun S hS => ?_⟩
      rcases (hC S).mp hS with q | q
      · exact a4 S q
      · exact ⟨b S q, fun z => by have := hlt _ _ a1 q; omega⟩
  · have hx : z.2 < x.2 := by
      rcases h1 with ⟨rfl, a⟩ | ⟨a1, a2, a3, a4⟩
      · exact b3
      · omega
    refine Or.inr ⟨(hC _).mpr (Or.inr b1), b2, hx, fun S hS => ?_⟩
    rcases (hC S).mp hS with q | q
    · have : y.2 ≤ sw_ w n S := by
        rcases h1 with ⟨rfl, a⟩ | ⟨a1, a2, a3, a4⟩
        · exact a S q
        · exact (a4 S q).1
      exact ⟨by omega, fun _ => by omega⟩
    · exact b4 S q
theorem sA_split {u : Nat → Int} {n : Nat} {k : Int} {T m S : Nat} (hT : T.testBit m = false) : sA_ u n k T (m + 1) S ↔ sA_ u n k T m S ∨ sA_ u n k (T ||| 2 ^ m) m S := by
  constructor
  · rintro ⟨a, b⟩
    cases q : S.testBit m
    · refine Or.inl ⟨fun j hj => ?_, b⟩
      by_cases e : j = m
      · subst e; rw [q, hT]
      · exact a j (by omega)
    · refine Or.inr ⟨fun j hj => ?_, b⟩
      rw [Nat.testBit_or, bt_two]
      by_cases e : j = m
      · subst e; rw [q]; simp
      · rw [a j (by omega), decide_eq_false (by omega)]
        simp
  · rintro (⟨a, b⟩ | ⟨a, b⟩)
    · exact ⟨fun j hj => a j (by omega), b⟩
    · refine ⟨fun j hj => ?_, b⟩
      rw [a j (by omega), Nat.testBit_or, bt_two, decide_eq_false (by omega)]
      simp
theorem sA_lt {u : Nat → Int} {n : Nat} {k : Int} {T m S S2 : Nat} (hT : T.testBit m = false) (h1 : sA_ u n k T m S) (h2 : sA_ u n k (T ||| 2 ^ m) m S2) : S < S2 := by
  refine bt_ltb (i := m) ?_ ?_ (fun j hj => ?_)
  · rw [h1.1 m (by omega), hT]
  · rw [h2.1 m (by omega), Nat.testBit_or, bt_two]
    simp
  · rw [h1.1 j (by omega), h2.1 j (by omega), Nat.testBit_or, bt_two, decide_eq_false (by omega)]
    simp
theorem sA_w {u w : Nat → Int} {n : Nat} {k : Int} {T m S : Nat} (hw : ∀ j, j < n → 1 ≤ w j) (hT : ∀ j, j < m → T.testBit j = false) (h : sA_ u n k T m S) : sw_ w n T ≤ sw_ w n S := by
  refine sm_mono n (fun j hj => ?_)
  have := hw j hj
  by_cases q : j < m
  · simp only [hT j q, Bool.false_eq_true, if_false]
    split <;> omega
  · rw [h.1 j (by omega)]
    exact Int.le_refl _
theorem sw_or {w : Nat → Int} {n T m : Nat} (hm : m < n) (hT : T.testBit m = false) : sw_ w n (T ||| 2 ^ m) = sw_ w n T + w m := by
  have := sm_one (F := fun j => if (T ||| 2 ^ m).testBit j = true then w j else 0) (G := fun j => if T.testBit j = true then w j else 0) (m := m) n hm (fun j hj e => by
    rw [Nat.testBit_or, bt_two, decide_eq_false (by omega), Bool.or_false])
  unfold sw_
  rw [this]
  have e1 : (T ||| 2 ^ m).testBit m = true := by
    rw [Nat.testBit_or, bt_two]
    simp
  simp only [e1, hT, if_true, Bool.false_eq_true, if_false]
  omega
/-- a value that lives nowhere need not be spilled -/
theorem sA_no {u w : Nat → Int} {n : Nat} {k : Int} {T m S : Nat} {x : Nat × Int} (hm : m < n) (hw : ∀ j, j < n → 1 ≤ w j) (hu : u m ≤ m) (hT : T.testBit m = false) (hx : ∀ S, sA_ u n k T m S → x.2 ≤ sw_ w n S) (h : sA_ u n k (T ||| 2 ^ m) m S) : x.2 ≤ sw_ w n S := by
  have hb : S.testBit m = true := by
    rw [h.1 m (by omega), Nat.testBit_or, bt_two]
    simp
  have hX : ∀ j, (S ^^^ 2 ^ m).testBit j = if j = m then false else S.testBit j := fun j => by
    rw [Nat.testBit_xor, bt_two]
    by_cases e : j = m
    · subst e; rw [hb]; simp
    · rw [decide_eq_false (by omega), if_neg e]
      simp
  have h1 : sA_ u n k T m (S ^^^ 2 ^ m) := by
    refine ⟨fun j hj => ?_, fun p hp => ?_⟩
    · rw [hX j]
      by_cases e : j = m
      · rw [if_pos e, e, hT]
      · rw [if_neg e, h.1 j hj, Nat.testBit_or, bt_two, decide_eq_false (by omega)]
        simp
    · have e : sm_ (sk_ u (S ^^^ 2 ^ m) p) n = sm_ (sk_ u S p) n := sm_congr fun j hj => by
        unfold sk_
        rw [hX j]
        by_cases e : j = m
        · subst e
          rw [if_pos rfl, if_neg (by omega), if_neg (by omega)]
        · rw [if_neg e]
      rw [e]
      exact h.2 p hp
  have e2 : sw_ w n S = sw_ w n (S ^^^ 2 ^ m) + w m := by
    rw [← sw_or hm (by rw [hX m, if_pos rfl])]
    have : (S ^^^ 2 ^ m) ||| 2 ^ m = S := by
      apply Nat.eq_of_testBit_eq
      intro j
      rw [Nat.testBit_or, hX j, bt_two]
      by_cases e : j = m
      · subst e; rw [hb]; simp
      · rw [if_neg e, decide_eq_false (by omega)]
        simp
    rw [this]
  have := hx _ h1
  have := hw m hm
  omega
/-- kept, it is one too many -/
theorem sA_full {u : Nat → Int} {n : Nat} {k : Int} {T m S p : Nat} (hm : m < n) (hp : p < n) (hmp : m ≤ p) (hpu : (p : Int) < u m) (hT : T.testBit m = false) (hl : k ≤ sm_ (sk_ u T p) n - sm_ (sk_ u T p) (m + 1)) : ¬ sA_ u n k T m S := by
  rintro ⟨a, b⟩
  have h1 := b p hp
  have h2 := sm_rng (F := sk_ u S p) (G := sk_ u T p) (m := m + 1) n (by omega) (fun j z1 z2 => by unfold sk_; rw [a j (by omega)])
  have h3 : 0 ≤ sm_ (sk_ u S p) m := by
    have := sm_mono (F := fun _ => 0) (G := sk_ u S p) m (fun j _ => by unfold sk_; split <;> simp)
    rw [sm_z] at this
    exact this
  have h4 : sk_ u S p m = 1 := by
    unfold sk_
    rw [if_pos ⟨by rw [a m (by omega), hT], hmp, hpu⟩]
  have h5 : sm_ (sk_ u S p) (m + 1) = sm_ (sk_ u S p) m + sk_ u S p m := rfl
  omega
section SP
variable {E : jm_Env} {h : jm_H} {n : Nat} {r : Nat → Nat → Int} {u : Nat → Int} {k : Int}
theorem rc_room2 {i : Nat} {K : Int → jm_H → Prop} (hn : n ≤ 12) (hi : i < n) (hu : h 57 i = u i ∧ u i ≤ n) (k0 : (∃ p : Nat, i ≤ p ∧ (p : Int) < u i ∧ k ≤ h 58 p) → K 0 h) (k1 : (∀ p : Nat, i ≤ p → (p : Int) < u i → h 58 p < k) → K 1 h) : ∀ (m p : Nat) (x3 : Int), m + p = 12 → i ≤ p → x3 = p → (∀ q : Nat, i ≤ q → q < p → h 58 q < k) → jm_BI E jm_SH jm_m_Lifetimes_hasRoom 0 2 [some (jm_R 56), some (jm_I i), some (jm_I k), some (jm_I x3)] [] h K
  | 0, p, x3, hm, hip, hx, hd => by
    subst hx
    refine jb_Lifetimes_hasRoom_2 ⟨by omega, ?_⟩
    rw [jm_tn, hu.1]
    exact ⟨fun z => k1 (fun q a b => hd q a (by omega)), fun z => by omega⟩
  | m + 1, p, x3, hm, hip, hx, hd => by
    subst hx
    refine jb_Lifetimes_hasRoom_2 ⟨by omega, ?_⟩
    rw [jm_tn, hu.1, jm_tn]
    refine ⟨fun z => k1 (fun q a b => hd q a (by omega)), fun z => ⟨by omega, fun y => ?_, fun y => k0 ⟨p, hip, by omega, by omega⟩⟩⟩
    rw [jm_w (by omega) (by omega)]
    refine rc_room2 hn hi hu k0 k1 m (p + 1) _ (by omega) (by omega) (by omega) (fun q a b => ?_)
    by_cases e : q = p
    · subst e; exact y
    · exact hd q a (by omega)
theorem rc_room {i : Nat} {K : Int → jm_H → Prop} (hn : n ≤ 12) (hi : i < n) (hu : h 57 i = u i ∧ u i ≤ n) (k0 : (∃ p : Nat, i ≤ p ∧ (p : Int) < u i ∧ k ≤ h 58 p) → K 0 h) (k1 : (∀ p : Nat, i ≤ p → (p : Int) < u i → h 58 p < k) → K 1 h) : jm_CI E jm_SH jm_m_Lifetimes_hasRoom 0 [jm_R 56, jm_I i, jm_I k] h K :=
  jb_Lifetimes_hasRoom (rc_room2 hn hi hu k0 k1 (12 - i) i _ (by omega) (by omega) rfl (fun q a b => by omega))
theorem rc_cnt2 {i : Nat} {c : Int} {K : jm_H → Prop} (hn : n ≤ 12) (hi : i < n) (hu : h 57 i = u i ∧ u i ≤ n) (hc : -1 ≤ c ∧ c ≤ 1) (hb : ∀ p : Nat, p < n → -100 ≤ h 58 p ∧ h 58 p ≤ 100) (hk : ∀ h2 : jm_H, (∀ a b, a ≠ 58 → h2 a b = h a b) → (∀ p : Nat, h2 58 p = h 58 p + if i ≤ p ∧ (p : Int) < u i then c else 0) → K h2) : ∀ (m p : Nat) (x3 : Int) (h1 : jm_H), m + p = 12 → i ≤ p → x3 = p → (∀ a b, a ≠ 58 → h1 a b = h a b) → (∀ q : Nat, h1 58 q = h 58 q + if i ≤ q ∧ (q : Int) < u i ∧ q < p then c else 0) → jm_BV E jm_SH jm_m_Lifetimes_count 0 2 [some (jm_R 56), some (jm_I i), some (jm_I c), some (jm_I x3)] [] h1 K
  | 0, p, x3, h1, hm, hip, hx, hf, hd => by
    subst hx
    refine jb_Lifetimes_count_2 ⟨by omega, ?_⟩
    rw [jm_tn, hf 57 i (by omega), hu.1]
    refine ⟨fun z => hk h1 hf (fun q => ?_), fun z => by omega⟩
    rw [hd q]
    by_cases e : i ≤ q ∧ (q : Int) < u i
    · rw [if_pos e, if_pos ⟨e.1, e.2, by omega⟩]
    · rw [if_neg e, if_neg (fun z => e ⟨z.1, z.2.1⟩)]
  | m + 1, p, x3, h1, hm, hip, hx, hf, hd => by
    subst hx
    refine jb_Lifetimes_count_2 ⟨by omega, ?_⟩
    rw [jm_tn, hf 57 i (by omega), hu.1, jm_tn]
    refine ⟨fun z => hk h1 hf (fun q => ?_), fun z => ⟨by omega, by omega, ?_⟩⟩
    · rw [hd q]
      by_cases e : i ≤ q ∧ (q : Int) < u i
      · rw [if_pos e, if_pos ⟨e.1, e.2, by omega⟩]
      · rw [if_neg e, if_neg (fun z => e ⟨z.1, z.2.1⟩)]
    · have hbp := hb p (by omega)
      have e0 : h1 58 p = h 58 p := by
        rw [hd p, if_neg (by omega)]
        omega
      rw [e0, jm_w (x := (p : Int) + 1) (by omega) (by omega), jm_w (by omega) (by omega)]
      refine rc_cnt2 hn hi hu hc hb hk m (p + 1) _ _ (by omega) (by omega) (by omega) (fun a b ha => ?_) (fun q => ?_)
      · rw [up_o (by omega)]
        exact hf a b ha
      · by_cases e : q = p
        · subst e
          rw [up_s, if_pos ⟨hip, by omega, by omega⟩]
        · rw [up_o (by omega), hd q]
          by_cases e2 : i ≤ q ∧ (q : Int) < u i ∧ q < p
          · rw [if_pos e2, if_pos ⟨e2.1, e2.2.1, by omega⟩]
          · rw [if_neg e2, if_neg (fun z => e2 ⟨z.1, z.2.1, by omega⟩)]
theorem rc_cnt {i : Nat} {c : Int} {K : jm_H → Prop} (hn : n ≤ 12) (hi : i < n) (hu : h 57 i = u i ∧ u i ≤ n) (hc : -1 ≤ c ∧ c ≤ 1) (hb : ∀ p : Nat, p < n → -100 ≤ h 58 p ∧ h 58 p ≤ 100) (hk : ∀ h2 : jm_H, (∀ a b, a ≠ 58 → h2 a b = h a b) → (∀ p : Nat, h2 58 p = h 58 p + if i ≤ p ∧ (p : Int) < u i then c else 0) → K h2) : jm_CV E jm_SH jm_m_Lifetimes_count 0 [jm_R 56, jm_I i, jm_I c] h K :=
  jb_Lifetimes_count (rc_cnt2 hn hi hu hc hb hk (12 - i) i _ h (by omega) (by omega) rfl (fun _ _ _ => rfl) (fun q => by
    rw [if_neg (by omega)]
    omega))
end SP
