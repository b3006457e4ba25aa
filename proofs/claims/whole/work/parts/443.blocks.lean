/-! SHORTEST: what it is; blocks of sixteen pairs -/
theorem kc_inj {c c2 : in_I} (h1 : vi_ c) (h2 : vi_ c2) (e : kc_ c = kc_ c2) : c = c2 := by
  obtain ⟨op, t, x, y⟩ := c
  obtain ⟨op2, t2, x2, y2⟩ := c2
  obtain ⟨a1, a2, a3, a4, a5⟩ := h1
  obtain ⟨b1, b2, b3, b4, b5⟩ := h2
  unfold kc_ at e
  simp only at a1 a2 a3 a4 a5 b1 b2 b3 b4 b5 e
  have : op = op2 ∧ t = t2 ∧ x = x2 ∧ y = y2 := by
    by_cases q : op < 5
    · rw [if_pos q] at e
      by_cases q2 : op2 < 5
      · rw [if_pos q2] at e
        omega
      · rw [if_neg q2] at e
        omega
    · rw [if_neg q] at e
      by_cases q2 : op2 < 5
      · rw [if_pos q2] at e
        omega
      · rw [if_neg q2] at e
        have := a5 (by omega)
        have := b5 (by omega)
        omega
  obtain ⟨rfl, rfl, rfl, rfl⟩ := this
  rfl
theorem nm_lt : ∀ (l l2 : List in_I) (a b : Nat), l.length = l2.length → (∀ c ∈ l, vi_ c) → (∀ c ∈ l2, vi_ c) → a < b → nm_ l a < nm_ l2 b
  | [], [], a, b, _, _, _, h => h
  | [], _ :: _, _, _, e, _, _, _ => by simp at e
  | _ :: _, [], _, _, e, _, _, _ => by simp at e
  | c :: l, c2 :: l2, a, b, e, h1, h2, h => by
    have k1 := kc_lt (h1 c (by simp))
    exact nm_lt l l2 _ _ (by simpa using e) (fun x hx => h1 x (by simp [hx])) (fun x hx => h2 x (by simp [hx])) (by omega)
theorem nm_inj : ∀ (l l2 : List in_I) (a b : Nat), l.length = l2.length → (∀ c ∈ l, vi_ c) → (∀ c ∈ l2, vi_ c) → nm_ l a = nm_ l2 b → a = b ∧ l = l2
  | [], [], a, b, _, _, _, h => ⟨h, rfl⟩
  | [], _ :: _, _, _, e, _, _, _ => by simp at e
  | _ :: _, [], _, _, e, _, _, _ => by simp at e
  | c :: l, c2 :: l2, a, b, e, h1, h2, h => by
    have k1 := kc_lt (h1 c (by simp))
    have k2 := kc_lt (h2 c2 (by simp))
    obtain ⟨e1, e2⟩ := nm_inj l l2 (153 * a + kc_ c) (153 * b + kc_ c2) (by simpa using e) (fun x hx => h1 x (by simp [hx])) (fun x hx => h2 x (by simp [hx])) h
    have e3 : kc_ c = kc_ c2 := by omega
    exact ⟨by omega, by rw [e2, kc_inj (h1 c (by simp)) (h2 c2 (by simp)) e3]⟩
def D_ (T : Nat → Nat → Nat) (s : List in_I) : Prop := ∀ a w, a < 16 → w < 16 → fr_ s (i0_ a w) 0 = T a w
/-- the shortest row, of several the first -/
def SH_ (T : Nat → Nat → Nat) (s : List in_I) : Prop := (∀ c ∈ s, vi_ c) ∧ D_ T s ∧ ∀ s2 : List in_I, (∀ c ∈ s2, vi_ c) → (s2.length < s.length ∨ (s2.length = s.length ∧ nm_ s2 0 < nm_ s 0)) → ¬ D_ T s2
theorem SH_one {T : Nat → Nat → Nat} {s s2 : List in_I} (h1 : SH_ T s) (h2 : SH_ T s2) : s = s2 := by
  have l1 : ¬ s.length < s2.length := fun z => h2.2.2 s h1.1 (Or.inl z) h1.2.1
  have l2 : ¬ s2.length < s.length := fun z => h1.2.2 s2 h2.1 (Or.inl z) h2.2.1
  have e : s.length = s2.length := by omega
  have n1 : ¬ nm_ s 0 < nm_ s2 0 := fun z => h2.2.2 s h1.1 (Or.inr ⟨e, z⟩) h1.2.1
  have n2 : ¬ nm_ s2 0 < nm_ s 0 := fun z => h1.2.2 s2 h2.1 (Or.inr ⟨e.symm, z⟩) h2.2.1
  exact (nm_inj s s2 0 0 e h1.1 h2.1 (by omega)).2
def wb_A : BitVec 64 := BitVec.ofNat 64 18364758544493064720
def wb_M : BitVec 64 := BitVec.ofNat 64 4364540684564061060
def wb_ (b : Nat) : BitVec 64 := wb_M ^^^ BitVec.ofNat 64 (b * 1229782938247303441)
theorem wb_Ai : (-81985529216486896 : Int) = wb_A.toInt := by decide
theorem wb_i : ∀ b : Fin 16, jv_lxor 4364540684564061060 (jm_w64 (((b : Nat) : Int) * 1229782938247303441)) = (wb_ (b : Nat)).toInt := by decide +kernel
theorem wb_nA : ∀ j : Fin 16, nn_ wb_A.toNat (j : Nat) = (j : Nat) := by decide +kernel
theorem wb_nB : ∀ b j : Fin 16, nn_ (wb_ (b : Nat)).toNat (j : Nat) = nn_ wb_M.toNat (j : Nat) ^^^ (b : Nat) := by decide +kernel
def eb_ (c : in_I) (s : Nat → BitVec 64) : Nat → BitVec 64 := fun q => if q = c.2.1 then rs_ (c.1 : Nat) (s c.2.2.1) (s c.2.2.2) else s q
def fb_ : List in_I → (Nat → BitVec 64) → Nat → BitVec 64
  | [], s => s
  | c :: l, s => fb_ l (eb_ c s)
theorem fb_app : ∀ (l l2 : List in_I) (s : Nat → BitVec 64), fb_ (l ++ l2) s = fb_ l2 (fb_ l s)
  | [], _, _ => rfl
  | c :: l, l2, s => fb_app l l2 (eb_ c s)
theorem fb_fr {j : Nat} (hj : j < 16) : ∀ (l : List in_I) (s : Nat → BitVec 64) (q : Nat), nn_ (fb_ l s q).toNat j = fr_ l (fun q => nn_ (s q).toNat j) q
  | [], s, q => rfl
  | c :: l, s, q => by
    show nn_ (fb_ l (eb_ c s) q).toNat j = fr_ l (ev_ c _) q
    rw [fb_fr hj l]
    congr 1
    funext q
    unfold eb_ ev_
    split
    · exact nn_rs _ _ _ hj
    · rfl
def Db_ (du : Nat → BitVec 64) (s : List in_I) : Prop := ∀ b, b < 16 → fb_ s (b0_ wb_A (wb_ b)) 0 = du b
theorem bv_nn {X Y : BitVec 64} (h : ∀ j, j < 16 → nn_ X.toNat j = nn_ Y.toNat j) : X = Y :=
  BitVec.eq_of_toNat_eq (nn_eq 16 _ _ X.isLt Y.isLt h)
theorem Db_D {r : Nat → Nat → Int} {n : Nat} {du : Nat → BitVec 64} {s : List in_I} (hdu : ∀ b, b < 16 → du b = rb_ r (b0_ wb_A (wb_ b)) n 0) : Db_ du s ↔ D_ (fun a w => rg_ r (i0_ a w) n 0) s := by
  have e0 : ∀ b j, b < 16 → j < 16 → (fun q => nn_ (b0_ wb_A (wb_ b) q).toNat j) = i0_ j (nn_ wb_M.toNat j ^^^ b) := fun b j hb hj => funext fun q => by
    rw [b0_i0, wb_nA ⟨j, hj⟩, wb_nB ⟨b, hb⟩ ⟨j, hj⟩]
  constructor
  · intro h a w ha hw
    have hb : nn_ wb_M.toNat a ^^^ w < 16 := Nat.xor_lt_two_pow (n := 4) (nn_lt _ _) hw
    have h1 := h (nn_ wb_M.toNat a ^^^ w) hb
    rw [hdu _ hb] at h1
    have h2 : nn_ (fb_ s (b0_ wb_A (wb_ (nn_ wb_M.toNat a ^^^ w))) 0).toNat a = nn_ (rb_ r (b0_ wb_A (wb_ (nn_ wb_M.toNat a ^^^ w))) n 0).toNat a := by rw [h1]
    rw [fb_fr ha, rb_rg ha, e0 _ a hb ha, ← Nat.xor_assoc, Nat.xor_self, Nat.zero_xor] at h2
    exact h2
  · intro h b hb
    rw [hdu b hb]
    apply bv_nn
    intro j hj
    rw [fb_fr hj, rb_rg hj, e0 b j hb hj]
    exact h j _ hj (Nat.xor_lt_two_pow (n := 4) (nn_lt _ _) hb)
/-- a row in the class's arrays, from place p on -/
def ar_ (h : jm_H) (s : List in_I) (p : Nat) : Prop := ∀ i c, s[i]? = some c → h 74 (p + i) = (c.1 : Nat) ∧ h 75 (p + i) = (c.2.1 : Nat) ∧ h 76 (p + i) = (c.2.2.1 : Nat) ∧ h 77 (p + i) = (c.2.2.2 : Nat)
theorem lc_0 {x y : Int} : jv_lcmp x y = 0 ↔ x = y := by
  unfold jv_lcmp
  split
  · omega
  · split <;> omega
theorem bv_i {X Y : BitVec 64} : X.toInt = Y.toInt ↔ X = Y := ⟨fun h => BitVec.eq_of_toInt_eq h, fun h => by rw [h]⟩
section BL
variable {E : jm_Env} {h : jm_H} {du : Nat → BitVec 64} {s : List in_I}
theorem rc_words {b : Nat} {K : Int → jm_H → Prop} (hb : b < 16) (hk : K (wb_ b).toInt h) : jm_CL E jm_SH jm_m_Search_wordsOfB 0 [jm_I b] h K := by
  refine jb_Search_wordsOfB ?_
  rw [wb_i ⟨b, hb⟩]
  exact hk
theorem rc_da18 {b : Nat} {K : Int → jm_H → Prop} (hs : s.length ≤ 3) (hv : ∀ c ∈ s, vi_ c) (hb : b < 16) (hk : ∀ h2 : jm_H, (∀ u v, ¬ u = 73 → h2 u v = h u v) → (fb_ s (b0_ wb_A (wb_ b)) 0 = du b → jm_BI E jm_SH jm_m_Search_doesAll 2 2 [some (jm_R 61), some (jm_I s.length), some (jm_I (jm_w32 ((b : Int) + 1))), none] [] h2 K) ∧ (¬ fb_ s (b0_ wb_A (wb_ b)) 0 = du b → K 0 h2)) : ∀ (l l2 : List in_I) (x3 : Int) (h1 : jm_H), s = l2 ++ l → x3 = l2.length → ar_ h1 s 0 → h1 68 b = (du b).toInt → (∀ u v, ¬ u = 73 → h1 u v = h u v) → (∀ q, q < 3 → h1 73 q = (fb_ l2 (b0_ wb_A (wb_ b)) q).toInt) → jm_BI E jm_SH jm_m_Search_doesAll 2 18 [some (jm_R 61), some (jm_I s.length), some (jm_I b), some (jm_I x3)] [] h1 K
  | [], l2, x3, h1, hl, hx, ha, hd, hf, h73 => by
    subst hx
    rw [List.append_nil] at hl
    obtain ⟨k1, k0⟩ := hk h1 hf
    refine jb_Search_doesAll_18 ⟨fun _ => ⟨by omega, ?_⟩, fun q => by rw [hl] at q; omega⟩
    rw [jm_tn, h73 0 (by omega), hd, ← hl]
    exact ⟨fun z => k1 (bv_i.mp (lc_0.mp z)), fun z => k0 (fun y => z (lc_0.mpr (bv_i.mpr y)))⟩
  | c :: l, l2, x3, h1, hl, hx, ha, hd, hf, h73 => by
    subst hx
    have hlen : s.length = l2.length + (l.length + 1) := by rw [hl]; simp
    have hget : s[l2.length]? = some c := by rw [hl]; simp
    obtain ⟨e0, e1, e2, e3⟩ := ha _ _ hget
    have hc := hv c (by rw [hl]; simp)
    obtain ⟨c1, c2, c3, c4, -⟩ := hc
    rw [Nat.zero_add] at e0 e1 e2 e3
    refine jb_Search_doesAll_18 ⟨fun q => by omega, fun _ => ?_⟩
    rw [jm_tn, e0, e1, e2, e3, jm_tn, jm_tn, jm_tn, h73 _ c3, h73 _ c4]
    refine ⟨by omega, by omega, by omega, by omega, by omega, by omega, rc_result ⟨by omega, ?_⟩⟩
    rw [jm_w (by omega) (by omega)]
    refine rc_da18 hs hv hb hk l (l2 ++ [c]) _ _ (by rw [hl]; simp) (by simp) (fun i c hc => ?_) (by rw [up_o (by omega)]; exact hd) (fun u v z => by rw [up_o (by omega)]; exact hf u v z) (fun q hq => ?_)
    · rw [up_o (by omega), up_o (by omega), up_o (by omega), up_o (by omega)]
      exact ha i c hc
    · rw [fb_app]
      show _ = (if q = c.2.1 then _ else _ : BitVec 64).toInt
      by_cases e : q = c.2.1
      · rw [if_pos e, e, up_s]
      · rw [if_neg e, up_o (by omega)]
        exact h73 q hq
theorem rc_da2 {K : Int → jm_H → Prop} (hs : s.length ≤ 3) (hv : ∀ c ∈ s, vi_ c) (k1 : Db_ du s → ∀ h2 : jm_H, (∀ u v, ¬ u = 73 → h2 u v = h u v) → K 1 h2) (k0 : ¬ Db_ du s → ∀ h2 : jm_H, (∀ u v, ¬ u = 73 → h2 u v = h u v) → K 0 h2) : ∀ (m b : Nat) (x2 : Int) (h1 : jm_H), m + b = 16 → x2 = b → ar_ h1 s 0 → (∀ b, b < 16 → h1 68 b = (du b).toInt) → (∀ u v, ¬ u = 73 → h1 u v = h u v) → (∀ b2, b2 < b → fb_ s (b0_ wb_A (wb_ b2)) 0 = du b2) → jm_BI E jm_SH jm_m_Search_doesAll 2 2 [some (jm_R 61), some (jm_I s.length), some (jm_I x2), none] [] h1 K
  | 0, b, x2, h1, hm, hx, ha, hd, hf, hp => by
    subst hx
    exact jb_Search_doesAll_2 ⟨fun _ => k1 (fun b2 h2 => hp b2 (by omega)) h1 hf, fun q => by omega⟩
  | m + 1, b, x2, h1, hm, hx, ha, hd, hf, hp => by
    subst hx
    refine jb_Search_doesAll_2 ⟨fun q => by omega, fun _ => jb_Search_begin_73 (rc_words (by omega) ?_)⟩
    rw [wb_Ai]
    have f1 : ∀ u v, ¬ u = 73 → jm_up (jm_up (jm_up h1 73 0 wb_A.toInt) 73 1 (wb_ b).toInt) 73 2 0 u v = h1 u v := fun u v z => by rw [up_o (by omega), up_o (by omega), up_o (by omega)]
    refine rc_da18 (h := h) (du := du) hs hv (show b < 16 by omega) (fun h2 c1 => ⟨fun z => ?_, fun z => k0 (fun y => z (y b (by omega))) h2 c1⟩) s [] _ _ (by simp) rfl (fun i c hc => ?_) (by rw [f1 _ _ (by omega)]; exact hd b (by omega)) (fun u v z => by rw [f1 u v z]; exact hf u v z) (fun q hq => ?_)
    · rw [jm_w (by omega) (by omega)]
      refine rc_da2 hs hv k1 k0 m (b + 1) _ h2 (by omega) (by omega) (fun i c hc => ?_) (fun b2 h3 => by rw [c1 _ _ (by omega), ← hf _ _ (by omega)]; exact hd b2 h3) c1 (fun b2 h3 => ?_)
      · have := ha i c hc
        rw [hf _ _ (by omega), hf _ _ (by omega), hf _ _ (by omega), hf _ _ (by omega)] at this
        rw [c1 _ _ (by omega), c1 _ _ (by omega), c1 _ _ (by omega), c1 _ _ (by omega)]
        exact this
      · by_cases e : b2 = b
        · subst e; exact z
        · exact hp b2 (by omega)
    · rw [f1 _ _ (by omega), f1 _ _ (by omega), f1 _ _ (by omega), f1 _ _ (by omega)]
      exact ha i c hc
    · show _ = (b0_ wb_A (wb_ b) q).toInt
      unfold b0_
      rcases (show q = 0 ∨ q = 1 ∨ q = 2 by omega) with rfl | rfl | rfl
      · rw [if_pos rfl, up_o (by omega), up_o (by omega), up_s]
      · rw [if_neg (by omega), if_pos rfl, up_o (by omega), up_s]
      · rw [if_neg (by omega), if_neg (by omega), up_s]
        rfl
theorem rc_doesAll {K : Int → jm_H → Prop} (hs : s.length ≤ 3) (hv : ∀ c ∈ s, vi_ c) (ha : ar_ h s 0) (hd : ∀ b, b < 16 → h 68 b = (du b).toInt) (k1 : Db_ du s → ∀ h2 : jm_H, (∀ u v, ¬ u = 73 → h2 u v = h u v) → K 1 h2) (k0 : ¬ Db_ du s → ∀ h2 : jm_H, (∀ u v, ¬ u = 73 → h2 u v = h u v) → K 0 h2) : jm_CI E jm_SH jm_m_Search_doesAll 2 [jm_R 61, jm_I s.length] h K :=
  jb_Search_doesAll (rc_da2 hs hv k1 k0 16 0 _ h rfl rfl ha hd (fun _ _ _ => rfl) (fun b2 h2 => by omega))
end BL
