/-! RUN, both sides -/
theorem wm_0 : ∀ a b : Fin 16, jv_and (jm_w32 (((a : Nat) : Int) + ((b : Nat) : Int))) 15 = ((((a : Nat) + (b : Nat)) % 16 : Nat) : Int) := by decide +kernel
theorem wm_1 : ∀ a b : Fin 16, jv_and (jm_w32 (((a : Nat) : Int) - ((b : Nat) : Int))) 15 = ((((a : Nat) + 16 - (b : Nat)) % 16 : Nat) : Int) := by decide +kernel
theorem wm_2 : ∀ a b : Fin 16, jv_and ((a : Nat) : Int) ((b : Nat) : Int) = (((a : Nat) &&& (b : Nat) : Nat) : Int) := by decide +kernel
theorem wm_3 : ∀ a b : Fin 16, jv_or ((a : Nat) : Int) ((b : Nat) : Int) = (((a : Nat) ||| (b : Nat) : Nat) : Int) := by decide +kernel
theorem wm_4 : ∀ a b : Fin 16, jv_xor ((a : Nat) : Int) ((b : Nat) : Int) = (((a : Nat) ^^^ (b : Nat) : Nat) : Int) := by decide +kernel
theorem wm_5 : ∀ a : Fin 16, jv_and (jm_w32 (2 * ((a : Nat) : Int))) 15 = (((2 * (a : Nat)) % 16 : Nat) : Int) := by decide +kernel
theorem wm_6 : ∀ a : Fin 16, jv_and (jv_xor ((a : Nat) : Int) (-1)) 15 = ((15 - (a : Nat) : Nat) : Int) := by decide +kernel
/-- the registers behind the first of a row -/
def rg_ (r : Nat → Nat → Int) (s : Nat → Nat) : Nat → Nat → Nat
  | 0 => s
  | i + 1 => fun q => if (q : Int) = r 1 i then wo_ (r 0 i) (rg_ r s i (r 2 i).toNat) (rg_ r s i (r 3 i).toNat) else rg_ r s i q
def rb_ (r : Nat → Nat → Int) (s : Nat → BitVec 64) : Nat → Nat → BitVec 64
  | 0 => s
  | i + 1 => fun q => if (q : Int) = r 1 i then rs_ (r 0 i) (rb_ r s i (r 2 i).toNat) (rb_ r s i (r 3 i).toNat) else rb_ r s i q
theorem rb_rg {r : Nat → Nat → Int} {s : Nat → BitVec 64} {j : Nat} (hj : j < 16) : ∀ i q, nn_ (rb_ r s i q).toNat j = rg_ r (fun q => nn_ (s q).toNat j) i q
  | 0, q => rfl
  | i + 1, q => by
    show nn_ (if _ then _ else _ : BitVec 64).toNat j = if _ then _ else _
    by_cases e : (q : Int) = r 1 i
    · rw [if_pos e, if_pos e, nn_rs _ _ _ hj, rb_rg hj i, rb_rg hj i]
    · rw [if_neg e, if_neg e, rb_rg hj i]
theorem rg_lt {r : Nat → Nat → Int} {s : Nat → Nat} (hs : ∀ q, s q < 16) : ∀ i q, rg_ r s i q < 16
  | 0, q => hs q
  | i + 1, q => by
    show (if _ then _ else _) < 16
    split
    · exact wo_lt _ (rg_lt hs i _) (rg_lt hs i _)
    · exact rg_lt hs i q
theorem rg_congr {r : Nat → Nat → Int} {s s2 : Nat → Nat} (h : ∀ q, s q = s2 q) (i q : Nat) : rg_ r s i q = rg_ r s2 i q := by
  have : s = s2 := funext h
  rw [this]
def i0_ (a w : Nat) : Nat → Nat := fun q => if q = 0 then a else if q = 1 then w else 0
def b0_ (X Y : BitVec 64) : Nat → BitVec 64 := fun q => if q = 0 then X else if q = 1 then Y else 0#64
theorem i0_lt {a w : Nat} (ha : a < 16) (hw : w < 16) (q : Nat) : i0_ a w q < 16 := by
  unfold i0_
  split
  · exact ha
  · split
    · exact hw
    · omega
theorem b0_i0 (X Y : BitVec 64) (j q : Nat) : nn_ (b0_ X Y q).toNat j = i0_ (nn_ X.toNat j) (nn_ Y.toNat j) q := by
  unfold b0_ i0_
  split
  · rfl
  · split
    · rfl
    · simp [nn_]
section RN
variable {E : jm_Env} {h : jm_H} {n : Nat} {r : Nat → Nat → Int}
theorem rm_worked {op : Int} {a b : Nat} {K : Int → jm_H → Prop} (ha : a < 16) (hb : b < 16) (hk : K (wo_ op a b : Nat) h) : jm_CI E jm_SH jm_m_Mod_worked 0 [jm_I op, jm_I a, jm_I b] h K := by
  unfold wo_ at hk
  refine jb_Mod_worked ⟨fun q => ?_, fun q => ?_, fun q => ?_, fun q => ?_, fun q => ?_, fun q => ?_, fun q => ?_⟩
  · rw [if_pos q] at hk
    rw [show jv_and (jm_w32 ((a : Int) + b)) 15 = _ from wm_0 ⟨a, ha⟩ ⟨b, hb⟩]; exact hk
  · rw [if_neg (by omega), if_pos q] at hk
    rw [show jv_and (jm_w32 ((a : Int) - b)) 15 = _ from wm_1 ⟨a, ha⟩ ⟨b, hb⟩]; exact hk
  · rw [if_neg (by omega), if_neg (by omega), if_pos q] at hk
    rw [show jv_and (a : Int) b = _ from wm_2 ⟨a, ha⟩ ⟨b, hb⟩]; exact hk
  · rw [if_neg (by omega), if_neg (by omega), if_neg (by omega), if_pos q] at hk
    rw [show jv_or (a : Int) b = _ from wm_3 ⟨a, ha⟩ ⟨b, hb⟩]; exact hk
  · rw [if_neg (by omega), if_neg (by omega), if_neg (by omega), if_neg (by omega), if_pos q] at hk
    rw [show jv_xor (a : Int) b = _ from wm_4 ⟨a, ha⟩ ⟨b, hb⟩]; exact hk
  · rw [if_neg (by omega), if_neg (by omega), if_neg (by omega), if_neg (by omega), if_neg (by omega), if_pos q] at hk
    rw [show jv_and (jm_w32 (2 * (a : Int))) 15 = _ from wm_5 ⟨a, ha⟩]; exact hk
  · obtain ⟨q0, q1, q2, q3, q4, q5⟩ := q
    rw [if_neg q0, if_neg q1, if_neg q2, if_neg q3, if_neg q4, if_neg q5] at hk
    rw [show jv_and (jv_xor (a : Int) (-1)) 15 = _ from wm_6 ⟨a, ha⟩]; exact hk
theorem rm_begin2 {a w : Nat} {K : jm_H → Prop} (hk : ∀ h2 : jm_H, (∀ u v, ¬ u = 111 → h2 u v = h u v) → (∀ q, q < 6 → h2 111 q = (i0_ a w q : Nat)) → K h2) : ∀ (m i : Nat) (x3 : Int) (h1 : jm_H), m + i = 6 → x3 = i → (∀ u v, ¬ u = 111 → h1 u v = h u v) → (∀ q, q < i → h1 111 q = (i0_ a w q : Nat)) → jm_BV E jm_SH jm_m_Mod_begin 0 2 [some (jm_R 78), some (jm_I a), some (jm_I w), some (jm_I x3)] [] h1 K
  | 0, i, x3, h1, hm, hx, hf, hd => by
    subst hx
    exact jb_Mod_begin_2 ⟨fun _ => hk h1 hf (fun q hq => hd q (by omega)), fun q => by omega⟩
  | m + 1, i, x3, h1, hm, hx, hf, hd => by
    subst hx
    have go : ∀ x : Int, x = (i0_ a w i : Nat) → jm_BV E jm_SH jm_m_Mod_begin 0 2 [some (jm_R 78), some (jm_I a), some (jm_I w), some (jm_I (jm_w32 ((i : Int) + 1)))] [] (jm_up h1 111 i x) K := fun x hx => by
      rw [jm_w (by omega) (by omega)]
      refine rm_begin2 hk m (i + 1) _ _ (by omega) (by omega) (fun u v z => by rw [up_o (by omega)]; exact hf u v z) (fun q hq => ?_)
      by_cases e : q = i
      · subst e; rw [up_s]; exact hx
      · rw [up_o (by omega)]; exact hd q (by omega)
    refine jb_Mod_begin_2 ⟨fun q => by omega, fun _ => ⟨fun q => ⟨fun q2 => ⟨by omega, go _ ?_⟩, fun q2 => ⟨by omega, go _ ?_⟩⟩, fun q => ⟨by omega, go _ ?_⟩⟩⟩
    · unfold i0_
      rw [if_neg (by omega), if_neg (by omega)]
      rfl
    · unfold i0_
      rw [if_neg (by omega), if_pos (by omega)]
    · unfold i0_
      rw [if_pos (by omega)]
theorem rm_begin {a w : Nat} {K : jm_H → Prop} (hk : ∀ h2 : jm_H, (∀ u v, ¬ u = 111 → h2 u v = h u v) → (∀ q, q < 6 → h2 111 q = (i0_ a w q : Nat)) → K h2) : jm_CV E jm_SH jm_m_Mod_begin 0 [jm_R 78, jm_I a, jm_I w] h K :=
  jb_Mod_begin (rm_begin2 hk 6 0 _ h rfl rfl (fun _ _ _ => rfl) (fun q hq => by omega))
theorem rm_run8 {a w : Nat} {K : jm_H → Prop} (ho : rw_ok n r) (ha : a < 16) (hw : w < 16) (hk : ∀ h2 : jm_H, (∀ u v, ¬ u = 111 → h2 u v = h u v) → (∀ q, q < 6 → h2 111 q = (rg_ r (i0_ a w) n q : Nat)) → K h2) : ∀ (m i : Nat) (x3 : Int) (h1 : jm_H), m + i = n → x3 = i → rw_M h1 n r → (∀ u v, ¬ u = 111 → h1 u v = h u v) → (∀ q, q < 6 → h1 111 q = (rg_ r (i0_ a w) i q : Nat)) → jm_BV E jm_SH jm_m_Mod_runRow 1 8 [some (jm_R 78), none, none, some (jm_I x3)] [] h1 K
  | 0, i, x3, h1, hm, hx, hr, hf, hd => by
    subst hx
    have hin : i = n := by omega
    subst hin
    exact jb_Mod_runRow_8 ⟨fun _ => hk h1 hf hd, fun q => by rw [hr.1] at q; omega⟩
  | m + 1, i, x3, h1, hm, hx, hr, hf, hd => by
    subst hx
    have hn := hr.2.1
    obtain ⟨e0, e1, e2, e3, -, -⟩ := hr.2.2 i (by omega)
    obtain ⟨o0, o1, o2, o3, -, -⟩ := ho i (by omega)
    refine jb_Mod_runRow_8 ⟨fun q => by rw [hr.1] at q; omega, fun _ => ?_⟩
    rw [jm_tn, e0, e1, e2, e3, hd (r 2 i).toNat (by omega), hd (r 3 i).toNat (by omega)]
    refine ⟨by omega, by omega, by omega, by omega, by omega, by omega, rm_worked (rg_lt (i0_lt ha hw) i _) (rg_lt (i0_lt ha hw) i _) ⟨by omega, ?_⟩⟩
    rw [jm_w (by omega) (by omega)]
    refine rm_run8 ho ha hw hk m (i + 1) _ _ (by omega) (by omega) (hr.off fun u v z => up_o (by omega)) (fun u v z => by rw [up_o (by omega)]; exact hf u v z) (fun q hq => ?_)
    show _ = ((if (q : Int) = r 1 i then wo_ (r 0 i) (rg_ r (i0_ a w) i (r 2 i).toNat) (rg_ r (i0_ a w) i (r 3 i).toNat) else rg_ r (i0_ a w) i q : Nat) : Int)
    by_cases e : (q : Int) = r 1 i
    · rw [if_pos e, show q = (r 1 i).toNat by omega, up_s]
    · rw [if_neg e, up_o (by omega)]
      exact hd q hq
theorem rm_runRow {a w : Nat} {K : jm_H → Prop} (hr : rw_M h n r) (ho : rw_ok n r) (ha : a < 16) (hw : w < 16) (hk : ∀ h2 : jm_H, (∀ u v, ¬ u = 111 → h2 u v = h u v) → (∀ q, q < 6 → h2 111 q = (rg_ r (i0_ a w) n q : Nat)) → K h2) : jm_CV E jm_SH jm_m_Mod_runRow 1 [jm_R 78, jm_I a, jm_I w] h K :=
  jb_Mod_runRow (rm_begin fun h2 c1 c2 => rm_run8 ho ha hw hk n 0 _ h2 (by omega) rfl (hr.off fun u v z => c1 u v (by omega)) c1 c2)
theorem rc_beh41 {s : Nat → BitVec 64} {K : jm_H → Prop} (ho : rw_ok n r) (hk : ∀ h2 : jm_H, (∀ u v, ¬ u = 60 → h2 u v = h u v) → (∀ q, q < 6 → h2 60 q = (rb_ r s n q).toInt) → K h2) : ∀ (m i : Nat) (x5 : Int) (h1 : jm_H), m + i = n → x5 = i → rw_C h1 n r → (∀ u v, ¬ u = 60 → h1 u v = h u v) → (∀ q, q < 6 → h1 60 q = (rb_ r s i q).toInt) → jm_BV E jm_SH jm_m_Machine_behindRow 1 41 [some (jm_R 59), none, none, none, none, some (jm_I x5), none, none, none, none] [] h1 K
  | 0, i, x5, h1, hm, hx, hr, hf, hd => by
    subst hx
    have hin : i = n := by omega
    subst hin
    exact jb_Machine_behindRow_41 ⟨fun _ => hk h1 hf hd, fun q => by rw [hr.1] at q; omega⟩
  | m + 1, i, x5, h1, hm, hx, hr, hf, hd => by
    subst hx
    have hn := hr.2.1
    obtain ⟨e0, e1, e2, e3, -, -⟩ := hr.2.2 i (by omega)
    obtain ⟨o0, o1, o2, o3, -, -⟩ := ho i (by omega)
    refine jb_Machine_behindRow_41 ⟨fun q => by rw [hr.1] at q; omega, fun _ => ?_⟩
    rw [jm_tn, e0, e1, e2, e3, hd (r 2 i).toNat (by omega), hd (r 3 i).toNat (by omega)]
    refine ⟨by omega, by omega, by omega, by omega, by omega, by omega, rc_result ⟨by omega, ?_⟩⟩
    rw [jm_w (by omega) (by omega)]
    refine rc_beh41 ho hk m (i + 1) _ _ (by omega) (by omega) (hr.off fun u v z => up_o (by omega)) (fun u v z => by rw [up_o (by omega)]; exact hf u v z) (fun q hq => ?_)
    show _ = (if (q : Int) = r 1 i then rs_ (r 0 i) (rb_ r s i (r 2 i).toNat) (rb_ r s i (r 3 i).toNat) else rb_ r s i q : BitVec 64).toInt
    by_cases e : (q : Int) = r 1 i
    · rw [if_pos e, show q = (r 1 i).toNat by omega, up_s]
    · rw [if_neg e, up_o (by omega)]
      exact hd q hq
theorem rc_beh3 {X Y : BitVec 64} {K : jm_H → Prop} (hr : rw_C h n r) (ho : rw_ok n r) (hk : ∀ h2 : jm_H, (∀ u v, ¬ u = 60 → h2 u v = h u v) → (∀ q, q < 6 → h2 60 q = (rb_ r (b0_ X Y) n q).toInt) → K h2) : ∀ (m i : Nat) (x5 : Int) (h1 : jm_H), m + i = 6 → x5 = i → (∀ u v, ¬ u = 60 → h1 u v = h u v) → (∀ q, q < i → h1 60 q = 0) → jm_BV E jm_SH jm_m_Machine_behindRow 1 3 [some (jm_R 59), some (jm_L X.toInt), none, some (jm_L Y.toInt), none, some (jm_I x5), none, none, none, none] [] h1 K
  | 0, i, x5, h1, hm, hx, hf, hd => by
    subst hx
    refine jb_Machine_behindRow_3 ⟨fun _ => ?_, fun q => by omega⟩
    have f2 : ∀ u v, ¬ u = 60 → jm_up (jm_up h1 60 0 X.toInt) 60 1 Y.toInt u v = h u v := fun u v z => by rw [up_o (by omega), up_o (by omega)]; exact hf u v z
    refine rc_beh41 ho hk n 0 _ _ (by omega) rfl (hr.off fun u v z => f2 u v (by omega)) f2 (fun q hq => ?_)
    show _ = (b0_ X Y q).toInt
    unfold b0_
    by_cases e0 : q = 0
    · subst e0
      rw [if_pos rfl, up_o (by omega), up_s]
    · rw [if_neg e0]
      by_cases e1 : q = 1
      · subst e1
        rw [if_pos rfl, up_s]
      · rw [if_neg e1, up_o (by omega), up_o (by omega), hd q (by omega)]
        rfl
  | m + 1, i, x5, h1, hm, hx, hf, hd => by
    subst hx
    refine jb_Machine_behindRow_3 ⟨fun q => by omega, fun _ => ⟨by omega, ?_⟩⟩
    rw [jm_tn, jm_w (by omega) (by omega)]
    refine rc_beh3 hr ho hk m (i + 1) _ _ (by omega) (by omega) (fun u v z => by rw [up_o (by omega)]; exact hf u v z) (fun q hq => ?_)
    by_cases e : q = i
    · subst e; rw [up_s]
    · rw [up_o (by omega)]; exact hd q (by omega)
theorem rc_behind {X Y : BitVec 64} {K : jm_H → Prop} (hr : rw_C h n r) (ho : rw_ok n r) (hk : ∀ h2 : jm_H, (∀ u v, ¬ u = 60 → h2 u v = h u v) → (∀ q, q < 6 → h2 60 q = (rb_ r (b0_ X Y) n q).toInt) → K h2) : jm_CV E jm_SH jm_m_Machine_behindRow 1 [jm_R 59, jm_L X.toInt, jm_L Y.toInt] h K :=
  jb_Machine_behindRow (rc_beh3 hr ho hk 6 0 _ h rfl rfl (fun _ _ _ => rfl) (fun q hq => by omega))
theorem wd_w : ∀ a : Fin 16, ((a : Nat) : Int) = (BitVec.ofNat 64 (a : Nat)).toInt ∧ nn_ (BitVec.ofNat 64 (a : Nat)).toNat 0 = (a : Nat) := by decide +kernel
theorem wd_15 (R : BitVec 64) : jm_w32 (jv_land R.toInt 15) = (nn_ R.toNat 0 : Nat) := by
  rw [show (15 : Int) = (15#64).toInt from by decide, jl_and]
  have e : (R &&& 15#64).toNat = R.toNat % 16 := by
    rw [BitVec.toNat_and]
    exact Nat.and_two_pow_sub_one_eq_mod R.toNat 4
  have hb : R.toNat % 16 < 16 := Nat.mod_lt _ (by omega)
  rw [BitVec.toInt_eq_toNat_of_lt (by rw [e]; omega), e, nn_0, jm_w (by omega) (by omega)]
/-- what run answers -/
def sp_run (n : Nat) (r : Nat → Nat → Int) (x1 x2 x3 : Int) : Int := if (0 ≤ x1 ∧ x1 ≤ 15) ∧ (0 ≤ x2 ∧ x2 ≤ 15) ∧ (0 ≤ x3 ∧ x3 ≤ 5) then (rg_ r (i0_ x1.toNat x2.toNat) n x3.toNat : Nat) else -2
theorem tc_run {x1 x2 x3 : Int} {K : Int → jm_H → Prop} (hr : rw_C h n r) (ho : rw_ok n r) (hk : ∀ h2, sq_ h h2 → K (sp_run n r x1 x2 x3) h2) : jm_CI E jm_SH jm_m_Top_run 2 [jm_R 0, jm_I x1, jm_I x2, jm_I x3] h K := by
  have kb : ¬ ((0 ≤ x1 ∧ x1 ≤ 15) ∧ (0 ≤ x2 ∧ x2 ≤ 15) ∧ (0 ≤ x3 ∧ x3 ≤ 5)) → K (-2) h := fun z => by
    have := hk h sq_.rf
    unfold sp_run at this
    rw [if_neg z] at this
    exact this
  refine jb_Top_run ⟨fun q => kb (by omega), fun q => ⟨fun q2 => kb (by omega), fun q2 => ⟨fun q3 => kb (by omega), fun q3 => ⟨fun q4 => kb (by omega), fun q4 => rc_isReg (fun q5 => ⟨fun _ => ?_, fun z => by omega⟩) (fun q5 => ⟨fun z => absurd rfl z, fun _ => kb (fun z => q5 z.2.2)⟩)⟩⟩⟩⟩
  obtain ⟨a, rfl⟩ : ∃ a : Nat, x1 = a := ⟨x1.toNat, by omega⟩
  obtain ⟨w, rfl⟩ : ∃ w : Nat, x2 = w := ⟨x2.toNat, by omega⟩
  obtain ⟨c, rfl⟩ : ∃ c : Nat, x3 = c := ⟨x3.toNat, by omega⟩
  obtain ⟨a1, a2⟩ := wd_w ⟨a, by omega⟩
  obtain ⟨w1, w2⟩ := wd_w ⟨w, by omega⟩
  simp only at a1 a2 w1 w2
  rw [show jm_L (a : Int) = jm_L (BitVec.ofNat 64 a).toInt by rw [← a1], show jm_L (w : Int) = jm_L (BitVec.ofNat 64 w).toInt by rw [← w1]]
  refine rc_behind hr ho (fun h2 c1 c2 => ⟨by omega, ?_⟩)
  rw [jm_tn, c2 c (by omega), wd_15, rb_rg (by omega)]
  have := hk h2 (fun u v z => c1 u v (fun y => z (by unfold sc_; omega)))
  unfold sp_run at this
  rw [if_pos (by omega), jm_tn, jm_tn, jm_tn] at this
  rw [rg_congr (s2 := i0_ a w) (fun q => by rw [b0_i0, a2, w2])]
  exact this
theorem mc_run {x1 x2 x3 : Int} {K : Int → jm_H → Prop} (hr : rw_M h n r) (ho : rw_ok n r) (hk : ∀ h2, sq_ h h2 → K (sp_run n r x1 x2 x3) h2) : jm_CI E jm_SH jm_m_Mod_run 2 [jm_R 78, jm_I x1, jm_I x2, jm_I x3] h K := by
  have kb : ¬ ((0 ≤ x1 ∧ x1 ≤ 15) ∧ (0 ≤ x2 ∧ x2 ≤ 15) ∧ (0 ≤ x3 ∧ x3 ≤ 5)) → K (-2) h := fun z => by
    have := hk h sq_.rf
    unfold sp_run at this
    rw [if_neg z] at this
    exact this
  refine jb_Mod_run (jb_Mod_isWord (rm_in (fun q => ⟨Or.inr rfl, fun z => by omega, fun _ => ?_⟩) (fun q => ⟨Or.inl rfl, fun _ => kb (fun z => q z.1), fun z => absurd rfl z⟩)))
  refine jb_Mod_isWord (rm_in (fun q2 => ⟨Or.inr rfl, fun z => by omega, fun _ => ?_⟩) (fun q2 => ⟨Or.inl rfl, fun _ => kb (fun z => q2 z.2.1), fun z => absurd rfl z⟩))
  refine rm_isReg (fun q3 => ⟨fun _ => ?_, fun z => by omega⟩) (fun q3 => ⟨fun z => absurd rfl z, fun _ => kb (fun z => q3 z.2.2)⟩)
  obtain ⟨a, rfl⟩ : ∃ a : Nat, x1 = a := ⟨x1.toNat, by omega⟩
  obtain ⟨w, rfl⟩ : ∃ w : Nat, x2 = w := ⟨x2.toNat, by omega⟩
  refine rm_runRow hr ho (by omega) (by omega) (fun h2 c1 c2 => ⟨by omega, ?_⟩)
  rw [c2 _ (by omega)]
  have := hk h2 (fun u v z => c1 u v (fun y => z (by unfold sc_; omega)))
  unfold sp_run at this
  rw [if_pos (by omega), jm_tn, jm_tn] at this
  exact this
end RN
