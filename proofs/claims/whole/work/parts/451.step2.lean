/-! ONE CALL: the row's -/
section S2
variable {E : jm_Env} {c : Nat}
theorem JC_row {h h1 : jm_H} {v w : Int} {np : Nat} {fp : Nat → Int} {nt : Nat} {ft : Nat → Int} {m : Nat} {g : Nat → Nat → Int} {L : Nat → Nat} {n : Nat} {r : Nat → Nat → Int} {kp : Int} {n2 : Nat} {r2 : Nat → Nat → Int} (hC : JC_ h v np fp nt ft m g L n r kp) (a1 : rw_C h1 n2 r2) (a2 : ∀ a b, ¬ pc_ a b → ¬ a = 46 → ¬ ((a = 47 ∧ 9 ≤ b ∧ b ≤ 11) ∨ (48 ≤ a ∧ a ≤ 55)) → h1 a b = h a b) (a3 : h 37 4 < h1 37 4) (a4 : h1 37 4 ≤ w) (a5 : h1 47 11 ≤ h 37 4) : JC_ h1 w np fp nt ft m g L n2 r2 kp := by
  obtain ⟨d1, d2, d3, d4, d5, d6, d7, d8, d9, d10⟩ := hC
  have e : ∀ a b, ¬ pc_ a b → ¬ (46 ≤ a ∧ a ≤ 55) → h1 a b = h a b := fun a b z1 z2 => a2 a b z1 (by omega) (by omega)
  refine ⟨d1.fr fun a b z => e a b (by unfold pc_; omega) (by omega), d2.fr fun a b z1 z2 => e a b (by unfold pc_; omega) (by omega), d3.fr fun a b z1 z2 => e a b (by unfold pc_; omega) (by omega), d4.fr fun a b z => e a b (by unfold pc_; omega) (by omega), a1, by rw [e 56 3 (by unfold pc_; omega) (by omega)]; exact d6, fun q => by omega, d8.fr fun a b z1 z2 => e a b (by unfold pc_; omega) (by omega), fun q => ?_, ?_⟩
  · rw [e 61 12 (by unfold pc_; omega) (by omega)] at q
    omega
  · rw [e 61 12 (by unfold pc_; omega) (by omega)]
    omega
theorem st_add {x1 x2 x3 x4 x5 : Int} (hc : c ≤ 1000) : SP_ E c jm_m_Top_add 1 jm_m_Mod_add 2 [jm_I x1, jm_I x2, jm_I x3, jm_I x4, jm_I x5] := by
  rintro h ⟨np, fp, nt, ft, m, g, L, n, r, kp, hC, hM, hO⟩
  have hver := hC.2.2.2.2.2.2.2.2.2
  refine tc_add hC.2.2.2.2.1 (fun q => ?_) (fun q q2 => ?_) (fun q q2 h1 a1 a2 a3 => ?_)
  · exact mc_add hM.2.2.2.1 (fun _ => ⟨rfl, I_mk hC hM hO⟩) (fun w => absurd w q) (fun w => absurd w q)
  · exact mc_add hM.2.2.2.1 (fun w => absurd q w) (fun _ _ => ⟨rfl, I_mk hC hM hO⟩) (fun _ w => by omega)
  · have hM1 := hM.fr (h2 := h1) (fun a b z1 _ => a2 a b (by unfold pc_; omega))
    refine mc_add hM1.2.2.2.1 (fun w => absurd q w) (fun _ w => by omega) (fun _ _ h2 b1 b2 => ⟨rfl, ?_⟩)
    rw [jm_w (by omega) (by omega)] at a3
    have c1 := JC_row (w := 1 + 13 * ((c + 1 : Nat) : Int)) hC a1 (fun a b z1 _ _ => a2 a b z1) (by omega) (by omega) (by rw [a2 47 11 (by unfold pc_; omega)]; omega)
    obtain ⟨g1, g2, g3, g4, g5⟩ := hM1
    exact ⟨np, fp, nt, ft, m, g, L, _, _, kp, c1.fr fun a b z _ => b2 a b (by unfold pm_; omega), ⟨g1.fr fun a b z => b2 a b (by unfold pm_; omega), g2.fr fun a b z => b2 a b (by unfold pm_; omega), g3.fr fun a b z => b2 a b (by unfold pm_; omega), b1, by rw [b2 78 39 (by unfold pm_; omega)]; exact g5⟩, hO.1, hO.2.1, ad_ok_r hO.2.2 q⟩
theorem st_drop (hc : c ≤ 1000) : SP_ E c jm_m_Top_drop 1 jm_m_Mod_drop 0 [] := by
  rintro h ⟨np, fp, nt, ft, m, g, L, n, r, kp, hC, hM, hO⟩
  have hver := hC.2.2.2.2.2.2.2.2.2
  refine tc_drop hC.2.2.2.2.1 (fun h1 a1 a2 a3 => ?_)
  have hM1 := hM.fr (h2 := h1) (fun a b z1 _ => a2 a b (by unfold pc_; omega))
  refine mc_drop hM1.2.2.2.1 (fun h2 b1 b2 => ⟨rfl, ?_⟩)
  rw [jm_w (by omega) (by omega)] at a3
  have c1 := JC_row (w := 1 + 13 * ((c + 1 : Nat) : Int)) hC a1 (fun a b z1 _ _ => a2 a b z1) (by omega) (by omega) (by rw [a2 47 11 (by unfold pc_; omega)]; omega)
  obtain ⟨g1, g2, g3, g4, g5⟩ := hM1
  exact ⟨np, fp, nt, ft, m, g, L, _, _, kp, c1.fr fun a b z _ => b2 a b (by unfold pm_; omega), ⟨g1.fr fun a b z => b2 a b (by unfold pm_; omega), g2.fr fun a b z => b2 a b (by unfold pm_; omega), g3.fr fun a b z => b2 a b (by unfold pm_; omega), b1, by rw [b2 78 39 (by unfold pm_; omega)]; exact g5⟩, hO.1, hO.2.1, fun i hi => by omega⟩
theorem st_about {x y : Int} : SP_ E c jm_m_Top_about 4 jm_m_Mod_about 3 [jm_I x, jm_I y] := by
  rintro h ⟨np, fp, nt, ft, m, g, L, n, r, kp, hC, hM, hO⟩
  exact tc_about hC.2.2.2.2.1 hO.2.2 (fun h1 s1 => mc_about (hM.fr s1.kM).2.2.2.1 hO.2.2 (fun h2 s2 => ⟨rfl, I_mk ((hC.fr s1.kC).fr s2.kC) ((hM.fr s1.kM).fr s2.kM) hO⟩))
theorem st_end : SP_ E c jm_m_Top_end 4 jm_m_Mod_end 3 [] := by
  rintro h ⟨np, fp, nt, ft, m, g, L, n, r, kp, hC, hM, hO⟩
  exact tc_end hC.2.2.2.2.1 hO.2.2 (fun h1 s1 => mc_end (hM.fr s1.kM).2.2.2.1 hO.2.2 (fun h2 s2 => ⟨rfl, I_mk ((hC.fr s1.kC).fr s2.kC) ((hM.fr s1.kM).fr s2.kM) hO⟩))
theorem st_ahead {x y : Int} : SP_ E c jm_m_Top_ahead 3 jm_m_Mod_ahead 2 [jm_I x, jm_I y] := by
  rintro h ⟨np, fp, nt, ft, m, g, L, n, r, kp, hC, hM, hO⟩
  have ex : ∃ v : Int, (¬ ((0 ≤ x ∧ x < n) ∧ (0 ≤ y ∧ y < n)) → v = -1) ∧ ((0 ≤ x ∧ x < n) ∧ (0 ≤ y ∧ y < n) → y ≤ x → v = -2) ∧ ((0 ≤ x ∧ x < n) ∧ (0 ≤ y ∧ y < n) → x < y → (rw_cl r x.toNat y.toNat → v = 1) ∧ (¬ rw_cl r x.toNat y.toNat → v = 0)) := by
    by_cases a : (0 ≤ x ∧ x < n) ∧ (0 ≤ y ∧ y < n)
    · by_cases b : y ≤ x
      · exact ⟨-2, fun w => absurd a w, fun _ _ => rfl, fun _ w => by omega⟩
      · by_cases d : rw_cl r x.toNat y.toNat
        · exact ⟨1, fun w => absurd a w, fun _ w => absurd w b, fun _ _ => ⟨fun _ => rfl, fun w => absurd d w⟩⟩
        · exact ⟨0, fun w => absurd a w, fun _ w => absurd w b, fun _ _ => ⟨fun w => absurd w d, fun _ => rfl⟩⟩
    · exact ⟨-1, fun _ => rfl, fun w => absurd w a, fun w => absurd w a⟩
  obtain ⟨v, v1, v2, v3⟩ := ex
  exact tc_ahead hC.2.2.2.2.1 v1 v2 v3 (mc_ahead hM.2.2.2.1 v1 v2 v3 ⟨rfl, I_mk hC hM hO⟩)
theorem st_lives {x : Int} : SP_ E c jm_m_Top_lives 3 jm_m_Mod_lives 2 [jm_I x] := by
  rintro h ⟨np, fp, nt, ft, m, g, L, n, r, kp, hC, hM, hO⟩
  exact tc_lives hC.2.2.2.2.1 hC.2.2.2.2.2.1 (mc_lives hM.2.2.2.1 hM.2.2.2.2 ⟨rfl, I_mk hC hM hO⟩)
theorem st_place {x : Int} : SP_ E c jm_m_Top_place 4 jm_m_Mod_place 3 [jm_I x] := by
  rintro h ⟨np, fp, nt, ft, m, g, L, n, r, kp, hC, hM, hO⟩
  exact tc_place hC.2.2.2.2.1 hC.2.2.2.2.2.1 (mc_place hM.2.2.2.1 hM.2.2.2.2 ⟨rfl, I_mk hC hM hO⟩)
theorem st_crowd : SP_ E c jm_m_Top_crowd 5 jm_m_Mod_crowd 3 [] := by
  rintro h ⟨np, fp, nt, ft, m, g, L, n, r, kp, hC, hM, hO⟩
  exact tc_crowd hC.2.2.2.2.1 hC.2.2.2.2.2.1 (rm_crowd hM.2.2.2.1 hM.2.2.2.2 ⟨rfl, I_mk hC hM hO⟩)
theorem st_spilled {x y : Int} : SP_ E c jm_m_Top_spilled 19 jm_m_Mod_spilled 3 [jm_I x, jm_I y] := by
  rintro h ⟨np, fp, nt, ft, m, g, L, n, r, kp, hC, hM, hO⟩
  exact tc_spilled hC.2.2.2.2.1 hO.2.2 hC.2.2.2.2.2.1 (fun v h1 hv s1 => mc_spilled (hM.fr s1.kM).2.2.2.1 hO.2.2 (hM.fr s1.kM).2.2.2.2 hv (fun h2 s2 => ⟨rfl, I_mk ((hC.fr s1.kC).fr s2.kC) ((hM.fr s1.kM).fr s2.kM) hO⟩))
theorem st_run {x y z : Int} : SP_ E c jm_m_Top_run 2 jm_m_Mod_run 2 [jm_I x, jm_I y, jm_I z] := by
  rintro h ⟨np, fp, nt, ft, m, g, L, n, r, kp, hC, hM, hO⟩
  exact tc_run hC.2.2.2.2.1 hO.2.2 (fun h1 s1 => mc_run (hM.fr s1.kM).2.2.2.1 hO.2.2 (fun h2 s2 => ⟨rfl, I_mk ((hC.fr s1.kC).fr s2.kC) ((hM.fr s1.kM).fr s2.kM) hO⟩))
theorem st_best {x : Int} : SP_ E c jm_m_Top_best 21 jm_m_Mod_best 4 [jm_I x] := by
  rintro h ⟨np, fp, nt, ft, m, g, L, n, r, kp, hC, hM, hO⟩
  refine tc_best hC.2.2.2.2.1 hO.2.2 hC.2.2.2.2.2.2.1 (fun v h1 hv a1 a2 a3 => ?_)
  have hM1 := hM.fr (h2 := h1) (fun a b z1 _ => a1 a b (by omega))
  have c1 : JC_ h1 (1 + 13 * c) np fp nt ft m g L n r kp := by
    obtain ⟨d1, d2, d3, d4, d5, d6, d7, d8, d9, d10⟩ := hC
    refine ⟨d1.fr fun a b z => a1 a b (by omega), d2.fr fun a b z1 z2 => a1 a b (by omega), d3.fr fun a b z1 z2 => a1 a b (by omega), d4.fr fun a b z => a1 a b (by omega), d5.off fun a b z => a1 a b (by omega), by rw [a1 56 3 (by omega)]; exact d6, a2, d8.fr fun a b z1 z2 => a1 a b (by omega), d9.fr fun a b z => a1 a b (by omega), ?_⟩
    rw [a1 37 4 (by omega), a1 61 12 (by omega)]
    omega
  exact mc_best hM1.2.2.2.1 hO.2.2 hv (fun h2 s2 => ⟨rfl, I_mk (c1.fr s2.kC) (hM1.fr s2.kM) hO⟩)
theorem st_shortest {x y : Int} : SP_ E c jm_m_Top_shortest 18 jm_m_Mod_shortest 3 [jm_I x, jm_I y] := by
  rintro h ⟨np, fp, nt, ft, m, g, L, n, r, kp, hC, hM, hO⟩
  refine tc_shortest hC.2.2.2.2.1 hO.2.2 hC.2.2.2.2.2.2.2.1 hC.2.2.2.2.2.2.2.2.1 (fun v h1 hv a1 a2 a3 => ?_)
  have hM1 := hM.fr (h2 := h1) (fun a b z1 _ => a1 a b (by omega))
  have c1 : JC_ h1 (1 + 13 * c) np fp nt ft m g L n r kp := by
    obtain ⟨d1, d2, d3, d4, d5, d6, d7, d8, d9, d10⟩ := hC
    refine ⟨d1.fr fun a b z => a1 a b (by omega), d2.fr fun a b z1 z2 => a1 a b (by omega), d3.fr fun a b z1 z2 => a1 a b (by omega), d4.fr fun a b z => a1 a b (by omega), d5.off fun a b z => a1 a b (by omega), by rw [a1 56 3 (by omega)]; exact d6, d7.fr fun a b z => a1 a b (by omega), d8.fr fun a b z1 z2 => a1 a b (by omega), a2, ?_⟩
    rw [a1 37 4 (by omega), a1 47 11 (by omega)]
    omega
  exact mc_shortest hM1.2.2.2.1 hO.2.2 hv (fun h2 s2 => ⟨rfl, I_mk (c1.fr s2.kC) (hM1.fr s2.kM) hO⟩)
theorem rw_M.cg {h : jm_H} {n : Nat} {r r2 : Nat → Nat → Int} (hr : rw_M h n r) (e : ∀ l i, l < 6 → i < n → r l i = r2 l i) : rw_M h n r2 := rw_M.mk hr.1 hr.2.1 (fun l i hl hi => by rw [hr.g hl hi, e l i hl hi])
theorem st_sort (hc : c ≤ 1000) : SP_ E c jm_m_Top_sort 21 jm_m_Mod_sort 4 [] := by
  rintro h ⟨np, fp, nt, ft, m, g, L, n, r, kp, hC, hM, hO⟩
  have hver := hC.2.2.2.2.2.2.2.2.2
  refine tc_sort hC.2.2.2.2.1 hO.2.2 hC.2.2.2.2.2.2.1 (fun q => ?_) (fun q h1 o a1 a2 a3 a4 a5 => ?_)
  · exact mc_sort hM.2.2.2.1 hO.2.2 (fun _ => ⟨rfl, I_mk hC hM hO⟩) (fun w => by omega)
  · have hM1 := hM.fr (h2 := h1) (fun a b z1 _ => a3 a b (by unfold pc_; omega) (by omega) (by omega))
    refine mc_sort hM1.2.2.2.1 hO.2.2 (fun w => by omega) (fun _ h2 o2 b1 b2 b3 => ⟨?_, ?_⟩)
    · exact oe_congr (bo_one a1 b1)
    · rw [jm_w (by omega) (by omega)] at a4
      have c1 := JC_row (w := 1 + 13 * ((c + 1 : Nat) : Int)) hC a2 a3 (by omega) (by omega) (by omega)
      obtain ⟨g1, g2, g3, g4, g5⟩ := hM1
      have b2' : rw_M h2 n (so_r r o) := b2.cg fun l i _ hi => by
        show r l (o2 i) = r l (o i)
        rw [bo_one a1 b1 i hi]
      exact ⟨np, fp, nt, ft, m, g, L, _, _, kp, c1.fr fun a b z1 z2 => b3 a b (by unfold pm_; omega) z2, ⟨g1.fr fun a b z => b3 a b (by unfold pm_; omega) (by unfold sc_; omega), g2.fr fun a b z => b3 a b (by unfold pm_; omega) (by unfold sc_; omega), g3.fr fun a b z => b3 a b (by unfold pm_; omega) (by unfold sc_; omega), b2', by rw [b3 78 39 (by unfold pm_; omega) (by unfold sc_; omega)]; exact g5⟩, hO.1, hO.2.1, so_ok hO.2.2 a1.1⟩
theorem st_keep {x : Int} : SP_ E c jm_m_Top_keep 0 jm_m_Mod_keep 1 [jm_I x] := by
  rintro h ⟨np, fp, nt, ft, m, g, L, n, r, kp, hC, hM, hO⟩
  refine tc_keep hC.2.2.2.2.2.1 (fun q => ?_) (fun q => ?_)
  · exact mc_keep hM.2.2.2.2 (fun _ => ⟨rfl, I_mk hC hM hO⟩) (fun w => absurd w q)
  · have e1 : ∀ a b, ¬ (a = 56 ∧ b = 3) → jm_up h 56 3 x a b = h a b := fun a b z => up_o z
    have hM1 := hM.fr (h2 := jm_up h 56 3 x) (fun a b z1 _ => e1 a b (by omega))
    refine mc_keep hM1.2.2.2.2 (fun w => absurd q w) (fun _ => ⟨rfl, ?_⟩)
    have e2 : ∀ a b, ¬ (a = 78 ∧ b = 39) → jm_up (jm_up h 56 3 x) 78 39 x a b = jm_up h 56 3 x a b := fun a b z => up_o z
    obtain ⟨d1, d2, d3, d4, d5, d6, d7, d8, d9, d10⟩ := hC
    have c1 : JC_ (jm_up h 56 3 x) (1 + 13 * c) np fp nt ft m g L n r x := by
      refine ⟨d1.fr fun a b z => e1 a b (by omega), d2.fr fun a b z1 z2 => e1 a b (by omega), d3.fr fun a b z1 z2 => e1 a b (by omega), d4.fr fun a b z => e1 a b (by omega), d5.off fun a b z => e1 a b (by omega), up_s, d7.fr fun a b z => e1 a b (by omega), d8.fr fun a b z1 z2 => e1 a b (by omega), d9.fr fun a b z => e1 a b (by omega), ?_⟩
      rw [e1 37 4 (by omega), e1 47 11 (by omega), e1 61 12 (by omega)]
      exact d10
    obtain ⟨g1, g2, g3, g4, g5⟩ := hM1
    exact I_mk (c1.fr fun a b z _ => e2 a b (by omega)) ⟨g1.fr fun a b z => e2 a b (by omega), g2.fr fun a b z => e2 a b (by omega), g3.fr fun a b z => e2 a b (by omega), g4.off fun a b z => e2 a b (by omega), up_s⟩ hO
/-! weights: nothing of orders and words depends on them -/
theorem wg_l {r : Nat → Nat → Int} {x : Nat} {v : Int} {l : Nat} (h : l ≠ 5) : wg_r r x v l = r l := funext fun i => by
  unfold wg_r
  rw [if_neg (fun z => h z.1)]
theorem wg_cl (r : Nat → Nat → Int) (x : Nat) (v : Int) (i k : Nat) : rw_cl (wg_r r x v) i k = rw_cl r i k := by
  unfold rw_cl rw_us
  rw [wg_l (show 0 ≠ 5 by omega), wg_l (show 1 ≠ 5 by omega), wg_l (show 2 ≠ 5 by omega), wg_l (show 3 ≠ 5 by omega)]
theorem wg_at (r : Nat → Nat → Int) (x : Nat) (v : Int) (o : Nat → Nat) (c : Nat → Int) (p : Nat) : od_at (wg_r r x v) o c p = od_at r o c p := by
  unfold od_at od_rd od_ls
  rw [wg_l (show 0 ≠ 5 by omega), wg_l (show 1 ≠ 5 by omega), wg_l (show 2 ≠ 5 by omega), wg_l (show 3 ≠ 5 by omega), wg_l (show 4 ≠ 5 by omega)]
theorem wg_oc (r : Nat → Nat → Int) (x : Nat) (v : Int) (o : Nat → Nat) : ∀ p, oc_ (wg_r r x v) o p = oc_ r o p
  | 0 => rfl
  | p + 1 => by
    show (fun j => if j = p then od_at (wg_r r x v) o (oc_ (wg_r r x v) o p) p else oc_ (wg_r r x v) o p j) = fun j => if j = p then od_at r o (oc_ r o p) p else oc_ r o p j
    rw [wg_oc r x v o p, wg_at]
theorem wg_oe (r : Nat → Nat → Int) (x : Nat) (v : Int) (o : Nat → Nat) (p : Nat) : oe_ (wg_r r x v) o p = oe_ r o p := by
  unfold oe_
  rw [wg_oc, wg_l (show 4 ≠ 5 by omega)]
theorem wg_vo {r : Nat → Nat → Int} {x : Nat} {v : Int} {n : Nat} {o : Nat → Nat} {p : Nat} : vo_ (wg_r r x v) n o p ↔ vo_ r n o p := by
  unfold vo_
  constructor
  · intro h q hq
    obtain ⟨a, b, d⟩ := h q hq
    exact ⟨a, b, fun k hk hc => d k hk (by rw [wg_cl]; exact hc)⟩
  · intro h q hq
    obtain ⟨a, b, d⟩ := h q hq
    exact ⟨a, b, fun k hk hc => d k hk (by rw [wg_cl] at hc; exact hc)⟩
theorem wg_bo {r : Nat → Nat → Int} {x : Nat} {v : Int} {n : Nat} {o : Nat → Nat} (h : bo_ r n o) : bo_ (wg_r r x v) n o := by
  refine ⟨wg_vo.mpr h.1, fun o2 h2 => ?_⟩
  rw [wg_oe, wg_oe]
  exact h.2 o2 (wg_vo.mp h2)
theorem wg_rb (r : Nat → Nat → Int) (x : Nat) (v : Int) (s : Nat → BitVec 64) : ∀ i, rb_ (wg_r r x v) s i = rb_ r s i
  | 0 => rfl
  | i + 1 => by
    funext q
    show (if (q : Int) = wg_r r x v 1 i then rs_ (wg_r r x v 0 i) (rb_ (wg_r r x v) s i (wg_r r x v 2 i).toNat) (rb_ (wg_r r x v) s i (wg_r r x v 3 i).toNat) else rb_ (wg_r r x v) s i q) = if (q : Int) = r 1 i then rs_ (r 0 i) (rb_ r s i (r 2 i).toNat) (rb_ r s i (r 3 i).toNat) else rb_ r s i q
    rw [wg_rb r x v s i, wg_l (show 0 ≠ 5 by omega), wg_l (show 1 ≠ 5 by omega), wg_l (show 2 ≠ 5 by omega), wg_l (show 3 ≠ 5 by omega)]
theorem wg_rg (r : Nat → Nat → Int) (x : Nat) (v : Int) (s : Nat → Nat) : ∀ i, rg_ (wg_r r x v) s i = rg_ r s i
  | 0 => rfl
  | i + 1 => by
    funext q
    show (if (q : Int) = wg_r r x v 1 i then wo_ (wg_r r x v 0 i) (rg_ (wg_r r x v) s i (wg_r r x v 2 i).toNat) (rg_ (wg_r r x v) s i (wg_r r x v 3 i).toNat) else rg_ (wg_r r x v) s i q) = if (q : Int) = r 1 i then wo_ (r 0 i) (rg_ r s i (r 2 i).toNat) (rg_ r s i (r 3 i).toNat) else rg_ r s i q
    rw [wg_rg r x v s i, wg_l (show 0 ≠ 5 by omega), wg_l (show 1 ≠ 5 by omega), wg_l (show 2 ≠ 5 by omega), wg_l (show 3 ≠ 5 by omega)]
theorem wg_sT (r : Nat → Nat → Int) (x : Nat) (v : Int) (n : Nat) : sT_ (wg_r r x v) n = sT_ r n := by
  funext a w
  unfold sT_
  rw [wg_rg]
theorem wg_ov {h : jm_H} {r : Nat → Nat → Int} {x : Nat} {v : Int} {n : Nat} (ho : ov_C h n r) : ov_C h n (wg_r r x v) := by
  intro q
  obtain ⟨a1, o, a2, a3, a4⟩ := ho q
  exact ⟨a1, o, wg_bo a2, a3, by rw [wg_oe]; exact a4⟩
theorem wg_sv {h : jm_H} {r : Nat → Nat → Int} {x : Nat} {v : Int} {n : Nat} (hs : sv_C h n r) : sv_C h n (wg_r r x v) := by
  intro q
  obtain ⟨a1, a2, a3, a4⟩ := hs q
  refine ⟨fun b hb => by rw [wg_rb]; exact a1 b hb, a2, a3, ?_⟩
  rw [wg_sT]
  exact a4
theorem st_weigh {x y : Int} : SP_ E c jm_m_Top_weigh 1 jm_m_Mod_weigh 2 [jm_I x, jm_I y] := by
  rintro h ⟨np, fp, nt, ft, m, g, L, n, r, kp, hC, hM, hO⟩
  refine tc_weigh hC.2.2.2.2.1 (fun q => ?_) (fun q q2 => ?_) (fun q q2 h1 a1 a2 => ?_)
  · exact mc_weigh hM.2.2.2.1 (fun _ => ⟨rfl, I_mk hC hM hO⟩) (fun w => absurd w q) (fun w => absurd w q)
  · exact mc_weigh hM.2.2.2.1 (fun w => absurd q w) (fun _ _ => ⟨rfl, I_mk hC hM hO⟩) (fun _ w => absurd w q2)
  · have hM1 := hM.fr (h2 := h1) (fun a b z1 _ => a2 a b (by omega))
    refine mc_weigh hM1.2.2.2.1 (fun w => absurd q w) (fun _ w => absurd q2 w) (fun _ _ h2 b1 b2 => ⟨rfl, ?_⟩)
    obtain ⟨d1, d2, d3, d4, d5, d6, d7, d8, d9, d10⟩ := hC
    have c1 : JC_ h1 (1 + 13 * c) np fp nt ft m g L n (wg_r r x.toNat y) kp := by
      refine ⟨d1.fr fun a b z => a2 a b (by omega), d2.fr fun a b z1 z2 => a2 a b (by omega), d3.fr fun a b z1 z2 => a2 a b (by omega), d4.fr fun a b z => a2 a b (by omega), a1, by rw [a2 56 3 (by omega)]; exact d6, wg_ov (d7.fr fun a b z => a2 a b (by omega)), d8.fr fun a b z1 z2 => a2 a b (by omega), wg_sv (d9.fr fun a b z => a2 a b (by omega)), ?_⟩
      rw [a2 37 4 (by omega), a2 47 11 (by omega), a2 61 12 (by omega)]
      exact d10
    obtain ⟨g1, g2, g3, g4, g5⟩ := hM1
    exact I_mk (c1.fr fun a b z _ => b2 a b (by omega)) ⟨g1.fr fun a b z => b2 a b (by omega), g2.fr fun a b z => b2 a b (by omega), g3.fr fun a b z => b2 a b (by omega), b1, by rw [b2 78 39 (by omega)]; exact g5⟩ ⟨hO.1, hO.2.1, wg_ok hO.2.2 q2⟩
theorem th_0 {kp : Int} : ∀ {f n : Nat} {r : Nat → Nat → Int}, (th_ kp f n r).1 = 0 → (th_ kp f n r).2 = (n, r)
  | 0, n, r, _ => rfl
  | f + 1, n, r, h => by
    unfold th_ at h ⊢
    split
    · rfl
    · rename_i q
      rw [if_neg q] at h
      simp at h
theorem st_thin (hc : c ≤ 1000) : SP_ E c jm_m_Top_thin 4 jm_m_Mod_thin 2 [] := by
  rintro h ⟨np, fp, nt, ft, m, g, L, n, r, kp, hC, hM, hO⟩
  have hver := hC.2.2.2.2.2.2.2.2.2
  have hb := th_b kp 12 n r
  refine tc_thin hC.2.2.2.2.1 hC.2.2.2.2.2.1 (by omega) (fun h1 a1 a2 a3 => ?_)
  have hM1 := hM.fr (h2 := h1) (fun a b z1 _ => a2 a b (by unfold pc_; omega))
  refine mc_thin hM1.2.2.2.1 hM1.2.2.2.2 (fun h2 b1 b2 => ⟨rfl, ?_⟩)
  have c1 : JC_ h1 (1 + 13 * ((c + 1 : Nat) : Int)) np fp nt ft m g L (th_ kp 12 n r).2.1 (th_ kp 12 n r).2.2 kp := by
    by_cases q : (th_ kp 12 n r).1 = 0
    · have e := th_0 q
      rw [q] at a3
      have e34 : h1 37 4 = h 37 4 := by rw [a3]; simp
      obtain ⟨d1, d2, d3, d4, d5, d6, d7, d8, d9, d10⟩ := hC
      refine ⟨d1.fr fun a b z => a2 a b (by unfold pc_; omega), d2.fr fun a b z1 z2 => a2 a b (by unfold pc_; omega), d3.fr fun a b z1 z2 => a2 a b (by unfold pc_; omega), d4.fr fun a b z => a2 a b (by unfold pc_; omega), a1, by rw [a2 56 3 (by unfold pc_; omega)]; exact d6, ?_, d8.fr fun a b z1 z2 => a2 a b (by unfold pc_; omega), ?_, ?_⟩
      · rw [e]
        refine d7.fr fun a b z => ?_
        by_cases w : a = 37 ∧ b = 4
        · rw [w.1, w.2]; exact e34
        · exact a2 a b (by unfold pc_; omega)
      · rw [e]
        refine d9.fr fun a b z => ?_
        by_cases w : a = 37 ∧ b = 4
        · rw [w.1, w.2]; exact e34
        · exact a2 a b (by unfold pc_; omega)
      · rw [a2 47 11 (by unfold pc_; omega), a2 61 12 (by unfold pc_; omega)]
        omega
    · exact JC_row hC a1 (fun a b z1 _ _ => a2 a b z1) (by omega) (by omega) (by rw [a2 47 11 (by unfold pc_; omega)]; omega)
  obtain ⟨g1, g2, g3, g4, g5⟩ := hM1
  exact ⟨np, fp, nt, ft, m, g, L, _, _, kp, c1.fr fun a b z1 z2 => b2 a b (by unfold pm_; omega) z2, ⟨g1.fr fun a b z => b2 a b (by unfold pm_; omega) (by unfold sc_; omega), g2.fr fun a b z => b2 a b (by unfold pm_; omega) (by unfold sc_; omega), g3.fr fun a b z => b2 a b (by unfold pm_; omega) (by unfold sc_; omega), b1, by rw [b2 78 39 (by unfold pm_; omega) (by unfold sc_; omega)]; exact g5⟩, hO.1, hO.2.1, hb.2.2.2 hO.2.2⟩
theorem st_told {x : Int} : SP_ E c jm_m_Top_told 0 jm_m_Mod_told 0 [jm_I x] := by
  rintro h ⟨np, fp, nt, ft, m, g, L, n, r, kp, hC, hM, hO⟩
  refine tc_told (mc_told ⟨?_, I_mk hC hM hO⟩)
  rw [hC.1.1, hC.2.1.1, hC.2.2.1.1, hC.2.2.2.2.1.1, hC.2.2.2.2.2.1, hM.1.1, hM.2.1.1, hM.2.2.1.1, hM.2.2.2.1.1, hM.2.2.2.2]
end S2
