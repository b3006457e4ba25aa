/-! SHORTEST: the class finds the first -/
section FI
variable {E : jm_Env} {du : Nat → BitVec 64} {k : Nat}
/-- what find does at a level, e instructions being left -/
def fs_ (E : jm_Env) (du : Nat → BitVec 64) (k e : Nat) : Prop := ∀ (l : List in_I) (f : Bool) (U d : Nat) (h : jm_H) (K : Int → jm_H → Prop), l.length + e = k → (∀ c ∈ l, vi_ c) → (f = true ↔ l.length = 0) → U < 8 → 2 * e + 2 ≤ d → ss_ h du l →
  (∀ h2 : jm_H, xf_ l.length h h2 → (∀ s, s.length = e → PC_ f U s → ¬ Db_ du (l ++ s.map tm_)) → K 0 h2) →
  (∀ (h2 : jm_H) (s : List (Nat × Nat)), xf_ l.length h h2 → s.length = e → PC_ f U s → Db_ du (l ++ s.map tm_) → ar_ h2 (l ++ s.map tm_) 0 → (∀ s2, s2.length = e → PC_ f U s2 → Db_ du (l ++ s2.map tm_) → nm_ (s.map tm_) 0 ≤ nm_ (s2.map tm_) 0) → K 1 h2) →
  jm_CI E jm_SH jm_m_Search_find d [jm_R 61, jm_I l.length, jm_I k, jm_I U] h K
theorem rc_goes42 (hk3 : k ≤ 3) {e : Nat} (IH : fs_ E du k e) (he : 1 ≤ e) {l : List in_I} {f : Bool} {U d o t : Nat} {h : jm_H} {K : Int → jm_H → Prop} (hl : l.length + (e + 1) = k) (hv : ∀ c ∈ l, vi_ c) (hf : f = true ↔ l.length = 0) (hU : U < 8) (hd : 2 * e + 3 ≤ d) (ho : o < 7) (ht : t < 3)
    (k0 : ∀ h2 : jm_H, xf_ l.length h h2 → (∀ m s, bg_ o ≤ m → m < bg_ (o + 1) → s.length = e → PC_ f U ((t, m) :: s) → ¬ Db_ du (l ++ ((t, m) :: s).map tm_)) → K 0 h2)
    (k1 : ∀ (h2 : jm_H) (m : Nat) (s : List (Nat × Nat)), xf_ l.length h h2 → bg_ o ≤ m → m < bg_ (o + 1) → s.length = e → PC_ f U ((t, m) :: s) → Db_ du (l ++ ((t, m) :: s).map tm_) → ar_ h2 (l ++ ((t, m) :: s).map tm_) 0 → (∀ m2 s2, bg_ o ≤ m2 → m2 < m → s2.length = e → PC_ f U ((t, m2) :: s2) → ¬ Db_ du (l ++ ((t, m2) :: s2).map tm_)) → (∀ s2, s2.length = e → PC_ f U ((t, m) :: s2) → Db_ du (l ++ ((t, m) :: s2).map tm_) → nm_ (s.map tm_) 0 ≤ nm_ (s2.map tm_) 0) → K 1 h2) :
    ∀ (g m : Nat) (x5 : Int) (h1 : jm_H), g + m = bg_ (o + 1) → bg_ o ≤ m → x5 = m → ss_ h1 du l → h1 74 l.length = (o : Nat) → h1 75 l.length = (t : Nat) → xf_ l.length h h1 → (∀ m2 s2, bg_ o ≤ m2 → m2 < m → s2.length = e → PC_ f U ((t, m2) :: s2) → ¬ Db_ du (l ++ ((t, m2) :: s2).map tm_)) → jm_BI E jm_SH jm_m_Search_goesOn d 42 [some (jm_R 61), some (jm_I l.length), some (jm_I k), some (jm_I U), some (jm_I t), some (jm_I (bg_ (o + 1) : Nat)), some (jm_I x5), none] [] h1 K
  | 0, m, x5, h1, hg, hm, hx, hs, e74, e75, hxf, hp => by
    subst hx
    refine jb_Search_goesOn_42 (dr := d - 1) (by omega) (by omega) ?_
    exact ⟨fun _ => k0 h1 hxf (fun m2 s z1 z2 => hp m2 s z1 (by omega)), fun z => by omega⟩
  | g + 1, m, x5, h1, hg, hm, hx, hs, e74, e75, hxf, hp => by
    subst hx
    have h24 := mf_5 ⟨o + 1, by omega⟩
    have hm24 : m < 24 := by simp only at h24; omega
    have hmo : mo_ m = o := mf_2 ⟨o, ho⟩ ⟨m, hm24⟩ hm (by simp only; omega)
    obtain ⟨g1, g2, g3, g4⟩ := hs.1.1 m hm24
    obtain ⟨f1, f2, f3, f4, -⟩ := mf_1 ⟨m, hm24⟩
    have f3' := mf_3 ⟨U, hU⟩ ⟨m, hm24⟩
    simp only at f1 f2 f3 f4 f3'
    have f6 := mf_6 ⟨lU_ U m, f3'.2⟩ ⟨t, ht⟩
    simp only at f6
    have pass : ∀ h2 : jm_H, xf_ l.length h1 h2 → h2 74 l.length = (o : Nat) → h2 75 l.length = (t : Nat) → (∀ s, s.length = e → PC_ f U ((t, m) :: s) → ¬ Db_ du (l ++ ((t, m) :: s).map tm_)) → jm_BI E jm_SH jm_m_Search_goesOn d 42 [some (jm_R 61), some (jm_I l.length), some (jm_I k), some (jm_I U), some (jm_I t), some (jm_I (bg_ (o + 1) : Nat)), some (jm_I (jm_w32 ((m : Int) + 1))), none] [] h2 K := fun h2 a1 a2 a3 a4 => by
      rw [jm_w (by omega) (by omega)]
      refine rc_goes42 hk3 IH he hl hv hf hU hd ho ht k0 k1 g (m + 1) _ h2 (by omega) (by omega) (by omega) (hs.fr (by omega) a1) a2 a3 (hxf.tr a1) (fun m2 s2 z1 z2 z3 => ?_)
      by_cases w : m2 = m
      · subst w
        exact a4 s2 z3
      · exact hp m2 s2 z1 (by omega) z3
    have h82 : (f = true → ma_ m ≠ 0) → jm_BI E jm_SH jm_m_Search_goesOn d 82 [some (jm_R 61), some (jm_I l.length), some (jm_I k), some (jm_I U), some (jm_I t), some (jm_I (bg_ (o + 1) : Nat)), some (jm_I m), some (jm_I (lU_ U m : Nat))] [] h1 K := fun hfm => by
      refine jb_Search_goesOn_82 (dr := d - 1) (by omega) (by omega) ⟨fun z => ?_, fun z => pass h1 xf_.rf e74 e75 (fun s z1 z2 => ?_)⟩
      · have hbit := f6.1.mp z
        have hpc : ∀ s : List (Nat × Nat), s.length = e → PC_ false (lU_ U m ||| 2 ^ t) s → PC_ f U ((t, m) :: s) := fun s hs1 hs2 => by
          cases s with
          | nil => simp at hs1; omega
          | cons q s => exact ⟨ht, hm24, hfm, hbit, hs2⟩
        have hpc2 : ∀ s : List (Nat × Nat), s.length = e → PC_ f U ((t, m) :: s) → PC_ false (lU_ U m ||| 2 ^ t) s := fun s hs1 hs2 => by
          obtain ⟨-, -, -, -, a5⟩ := PC_h hs2
          exact (a5 (fun w => by subst w; simp at hs1; omega)).2
        have hmap : ∀ s : List (Nat × Nat), l ++ ((t, m) :: s).map tm_ = (l ++ [tm_ (t, m)]) ++ s.map tm_ := fun s => by simp
        rw [jm_tn, jm_tn, g1, g2, jm_w (x := (l.length : Int) + 1) (by omega) (by omega), show (l.length : Int) + 1 = ((l.length + 1 : Nat) : Int) by omega, jm_tn]
        -- the heap with the new sources and the registers copied
        have q76 : jm_cpy (jm_up (jm_up h1 76 l.length (mx_ m : Nat)) 77 l.length (my_ m : Nat)) (70 + l.length) (70 + (l.length + 1)) 3 76 l.length = (mx_ m : Nat) := by
          unfold jm_cpy
          rw [if_neg (by omega), up_o (by omega), up_s]
        have q77 : jm_cpy (jm_up (jm_up h1 76 l.length (mx_ m : Nat)) 77 l.length (my_ m : Nat)) (70 + l.length) (70 + (l.length + 1)) 3 77 l.length = (my_ m : Nat) := by
          unfold jm_cpy
          rw [if_neg (by omega), up_s]
        have q74 : jm_cpy (jm_up (jm_up h1 76 l.length (mx_ m : Nat)) 77 l.length (my_ m : Nat)) (70 + l.length) (70 + (l.length + 1)) 3 74 l.length = (o : Nat) := by
          unfold jm_cpy
          rw [if_neg (by omega), up_o (by omega), up_o (by omega), e74]
        have q75 : jm_cpy (jm_up (jm_up h1 76 l.length (mx_ m : Nat)) 77 l.length (my_ m : Nat)) (70 + l.length) (70 + (l.length + 1)) 3 75 l.length = (t : Nat) := by
          unfold jm_cpy
          rw [if_neg (by omega), up_o (by omega), up_o (by omega), e75]
        have q70 : ∀ q, q < 3 → jm_cpy (jm_up (jm_up h1 76 l.length (mx_ m : Nat)) 77 l.length (my_ m : Nat)) (70 + l.length) (70 + (l.length + 1)) 3 (70 + l.length) q = (fb_ l (b0_ wb_A (wb_ 0)) q).toInt := fun q hq => by
          unfold jm_cpy
          rw [if_neg (by omega), up_o (by omega), up_o (by omega)]
          exact hs.2.2.2 q hq
        have q71 : ∀ q, q < 3 → jm_cpy (jm_up (jm_up h1 76 l.length (mx_ m : Nat)) 77 l.length (my_ m : Nat)) (70 + l.length) (70 + (l.length + 1)) 3 (70 + (l.length + 1)) q = (fb_ l (b0_ wb_A (wb_ 0)) q).toInt := fun q hq => by
          unfold jm_cpy
          rw [if_pos rfl, if_pos hq, up_o (by omega), up_o (by omega)]
          exact hs.2.2.2 q hq
        have x8 : xf_ l.length h1 (jm_cpy (jm_up (jm_up h1 76 l.length (mx_ m : Nat)) 77 l.length (my_ m : Nat)) (70 + l.length) (70 + (l.length + 1)) 3) := fun u v z => by
          unfold jm_cpy
          rw [if_neg (by omega), up_o (by omega), up_o (by omega)]
        generalize jm_cpy (jm_up (jm_up h1 76 l.length (mx_ m : Nat)) 77 l.length (my_ m : Nat)) (70 + l.length) (70 + (l.length + 1)) 3 = h8 at q76 q77 q74 q75 q70 q71 x8 ⊢
        rw [q74, q76, q77, jm_tn, jm_tn, q70 _ f2, q70 _ f3]
        refine ⟨by omega, by omega, by omega, by omega, by omega, by omega, by omega, by omega, by omega, by omega, by omega, by omega, by omega, by omega, rc_result ⟨by omega, ?_⟩⟩
        rw [f6.2.1]
        have s8 := hs.fr (by omega) x8
        have x9 : xf_ l.length h8 (jm_up h8 (70 + (l.length + 1)) t (rs_ (o : Nat) (fb_ l (b0_ wb_A (wb_ 0)) (mx_ m)) (fb_ l (b0_ wb_A (wb_ 0)) (my_ m))).toInt) := fun u v z => up_o (by omega)
        have ss9 : ss_ (jm_up h8 (70 + (l.length + 1)) t (rs_ (o : Nat) (fb_ l (b0_ wb_A (wb_ 0)) (mx_ m)) (fb_ l (b0_ wb_A (wb_ 0)) (my_ m))).toInt) du (l ++ [tm_ (t, m)]) := by
          have s9 := s8.fr (by omega) x9
          refine ⟨s9.1, s9.2.1, ar_snoc s9.2.2.1 ?_ ?_ ?_ ?_, fun q hq => ?_⟩
          · rw [up_o (by omega), q74]
            show ((o : Nat) : Int) = (mo_ m : Nat)
            rw [hmo]
          · rw [up_o (by omega), q75]
            rfl
          · rw [up_o (by omega), q76]
            rfl
          · rw [up_o (by omega), q77]
            rfl
          · rw [List.length_append, List.length_singleton, fb_app]
            show _ = (eb_ (tm_ (t, m)) (fb_ l (b0_ wb_A (wb_ 0))) q).toInt
            unfold eb_
            by_cases w : q = t
            · rw [if_pos (show q = (tm_ (t, m)).2.1 from w), w, up_s, ← hmo]
              rfl
            · rw [if_neg (show ¬ q = (tm_ (t, m)).2.1 from w), up_o (by omega)]
              exact q71 q hq
        have hlen : (l ++ [tm_ (t, m)]).length = l.length + 1 := by simp
        rw [show ((l.length + 1 : Nat) : Int) = ((l ++ [tm_ (t, m)]).length : Nat) by rw [hlen]]
        refine IH (l ++ [tm_ (t, m)]) false (lU_ U m ||| 2 ^ t) (d - 1) _ _ (by rw [hlen]; omega) (fun c hc => ?_) (by rw [hlen]; simp) f6.2.2 (by omega) ss9 (fun h2 c1 c2 => ⟨fun _ => ?_, fun w => absurd rfl w⟩) (fun h2 s c1 c2 c3 c4 c5 c6 => ⟨fun w => by omega, fun _ => ?_⟩)
        · rcases List.mem_append.mp hc with hc | hc
          · exact hv c hc
          · simp at hc
            subst hc
            exact tm_vi ht hm24
        · rw [hlen] at c1
          have x10 := ((x8.tr x9).tr c1.up)
          refine pass h2 x10 ?_ ?_ (fun s z1 z2 => ?_)
          · rw [c1 _ _ (by omega), up_o (by omega)]
            exact q74
          · rw [c1 _ _ (by omega), up_o (by omega)]
            exact q75
          · rw [hmap]
            exact c2 s z1 (hpc2 s z1 z2)
        · rw [hlen] at c1
          rw [← hmap] at c4 c5
          refine k1 h2 m s (hxf.tr ((x8.tr x9).tr c1.up)) hm (by omega) c2 (hpc s c2 c3) c4 c5 hp (fun s2 z1 z2 z3 => ?_)
          rw [hmap] at z3
          exact c6 s2 z1 (hpc2 s2 z1 z2) z3
      · obtain ⟨-, -, -, -, a5⟩ := PC_h z2
        have := (a5 (fun w => by subst w; simp at z1; omega)).1
        exact absurd (f6.1.mpr this) z
    refine jb_Search_goesOn_42 (dr := d - 1) (by omega) (by omega) ?_
    rw [jm_tn, g3, g4, f3'.1]
    refine ⟨fun z => by omega, fun _ => ⟨by omega, fun z => h82 (fun w => ?_), fun z => ⟨by omega, fun y => pass h1 xf_.rf e74 e75 (fun s z1 z2 => ?_), fun y => h82 (fun _ w => y (by rw [w]; rfl))⟩⟩⟩
    · have := hf.mp w
      omega
    · have := (PC_h z2).2.2.1 (hf.mpr (by omega))
      omega
/-- the heads that are done with, by their key -/
theorem rc_find (hk3 : k ≤ 3) : ∀ e, 1 ≤ e → fs_ E du k e
  | 0, h1 => by omega
  | e + 1, _ => by
    intro l f U d h K hl hv hf hU hd hs k0 k1
    -- by key
    have step : ∀ (x y : Nat), (∀ s, s.length = e + 1 → PC_ f U s → (∀ t m s2, s = (t, m) :: s2 → ky_ t m < x → ¬ Db_ du (l ++ s.map tm_))) → (∀ t m s2, PC_ f U ((t, m) :: s2) → s2.length = e → x ≤ ky_ t m → ky_ t m < y → ¬ Db_ du (l ++ ((t, m) :: s2).map tm_)) → (∀ s, s.length = e + 1 → PC_ f U s → (∀ t m s2, s = (t, m) :: s2 → ky_ t m < y → ¬ Db_ du (l ++ s.map tm_))) := fun x y hx hy s s1 s2 t m s3 s4 s5 => by
      by_cases w : ky_ t m < x
      · exact hx s s1 s2 t m s3 s4 w
      · subst s4
        exact hy t m s3 s2 (by simpa using s1) (by omega) s5
    have fin : ∀ (h2 : jm_H) (t m : Nat) (s : List (Nat × Nat)), xf_ l.length h h2 → s.length = e → PC_ f U ((t, m) :: s) → Db_ du (l ++ ((t, m) :: s).map tm_) → ar_ h2 (l ++ ((t, m) :: s).map tm_) 0 → (∀ s, s.length = e + 1 → PC_ f U s → (∀ t2 m2 s2, s = (t2, m2) :: s2 → ky_ t2 m2 < ky_ t m → ¬ Db_ du (l ++ s.map tm_))) → (∀ s2, s2.length = e → PC_ f U ((t, m) :: s2) → Db_ du (l ++ ((t, m) :: s2).map tm_) → nm_ (s.map tm_) 0 ≤ nm_ (s2.map tm_) 0) → K 1 h2 := fun h2 t m s a1 a2 a3 a4 a5 a6 a7 => by
      refine k1 h2 ((t, m) :: s) a1 (by simpa using a2) a3 a4 a5 (fun s2 z1 z2 z3 => ?_)
      cases s2 with
      | nil => simp at z1
      | cons p s2 =>
        obtain ⟨t2, m2⟩ := p
        have hlen2 : s2.length = e := by simpa using z1
        obtain ⟨b1, b2, -⟩ := PC_h a3
        obtain ⟨c1, c2, -⟩ := PC_h z2
        have hge : ¬ ky_ t2 m2 < ky_ t m := fun w => a6 _ z1 z2 t2 m2 s2 rfl w z3
        have hkc := mf_4 ⟨t2, c1⟩ ⟨t, b1⟩ ⟨m2, c2⟩ ⟨m, b2⟩
        have hkc2 : ¬ kc_ (tm_ (t2, m2)) < kc_ (tm_ (t, m)) := fun w => hge (hkc.mpr w)
        show nm_ (s.map tm_) (153 * 0 + kc_ (tm_ (t, m))) ≤ nm_ (s2.map tm_) (153 * 0 + kc_ (tm_ (t2, m2)))
        have va := PC_vi _ _ _ a3
        have vb := PC_vi _ _ _ z2
        by_cases w : kc_ (tm_ (t, m)) = kc_ (tm_ (t2, m2))
        · have ei := kc_inj (tm_vi b1 b2) (tm_vi c1 c2) w
          have hkk := mf_4 ⟨t, b1⟩ ⟨t2, c1⟩ ⟨m, b2⟩ ⟨m2, c2⟩
          have hk2 : ¬ ky_ t m < ky_ t2 m2 := fun y => by
            have := hkk.mp y
            simp only at this
            omega
          have hkey : ky_ t m = ky_ t2 m2 := by omega
          have htt : t = t2 := congrArg (fun c : in_I => c.2.1) ei
          have hoo : mo_ m = mo_ m2 := congrArg (fun c : in_I => c.1) ei
          have hmm : m = m2 := by
            unfold ky_ at hkey
            rw [htt, hoo] at hkey
            omega
          subst htt
          subst hmm
          have := a7 s2 hlen2 z2 z3
          by_cases w2 : nm_ (s.map tm_) 0 = nm_ (s2.map tm_) 0
          · have e3 := (nm_inj _ _ 0 0 (by simp [a2, hlen2]) (fun c hc => va c (by simp only [List.map_cons, List.mem_cons]; exact Or.inr hc)) (fun c hc => vb c (by simp only [List.map_cons, List.mem_cons]; exact Or.inr hc)) w2).2
            rw [e3]
            exact Nat.le_refl _
          · apply Nat.le_of_not_lt
            intro w3
            -- numbers grow alike behind the same head
            have mono : ∀ (p q : List in_I) (a b : Nat), p.length = q.length → (∀ c ∈ p, vi_ c) → (∀ c ∈ q, vi_ c) → nm_ p a < nm_ q a → nm_ p b < nm_ q b := by
              intro p
              induction p with
              | nil =>
                intro q a b e1 _ _ e4
                cases q with
                | nil => exact absurd e4 (Nat.lt_irrefl _)
                | cons _ _ => simp at e1
              | cons c p ih =>
                intro q a b e1 e2 e3 e4
                cases q with
                | nil => simp at e1
                | cons c2 q =>
                  have e1' : p.length = q.length := by simpa using e1
                  have e2' : ∀ c ∈ p, vi_ c := fun x hx => e2 x (by simp [hx])
                  have e3' : ∀ c ∈ q, vi_ c := fun x hx => e3 x (by simp [hx])
                  have e4' : nm_ p (153 * a + kc_ c) < nm_ q (153 * a + kc_ c2) := e4
                  show nm_ p (153 * b + kc_ c) < nm_ q (153 * b + kc_ c2)
                  rcases Nat.lt_trichotomy (kc_ c) (kc_ c2) with y | y | y
                  · exact nm_lt p q _ _ e1' e2' e3' (by omega)
                  · rw [y] at e4' ⊢
                    exact ih q _ _ e1' e2' e3' e4'
                  · have := nm_lt q p (153 * a + kc_ c2) (153 * a + kc_ c) e1'.symm e3' e2' (by omega)
                    omega
            have vs : ∀ c ∈ s.map tm_, vi_ c := fun c hc => va c (by simp only [List.map_cons, List.mem_cons]; exact Or.inr hc)
            have vs2 : ∀ c ∈ s2.map tm_, vi_ c := fun c hc => vb c (by simp only [List.map_cons, List.mem_cons]; exact Or.inr hc)
            have := mono (s2.map tm_) (s.map tm_) (153 * 0 + kc_ (tm_ (t, m))) 0 (by simp [a2, hlen2]) vs2 vs w3
            omega
        · refine Nat.le_of_lt (nm_lt _ _ _ _ (by simp [a2, hlen2]) (fun c hc => va c (by simp only [List.map_cons, List.mem_cons]; exact Or.inr hc)) (fun c hc => vb c (by simp only [List.map_cons, List.mem_cons]; exact Or.inr hc)) (by omega))
    have tg : ∀ t m s2, PC_ f U ((t, m) :: s2) → s2.length = e → t < (if e = 0 then 1 else 3) := fun t m s2 z1 z2 => by
      obtain ⟨b1, -, -, b4, -⟩ := PC_h z1
      by_cases w : e = 0
      · rw [if_pos w]
        have : s2 = [] := List.length_eq_zero_iff.mp (by omega)
        have := (b4 this).1
        omega
      · rw [if_neg w]
        exact b1
    -- the targets of an op
    have h39 : ∀ (g o t : Nat) (x6 x7 : Int) (h1 : jm_H), g + t = (if e = 0 then 1 else 3) → o < 7 → x6 = o → x7 = t → xf_ l.length h h1 → (∀ s, s.length = e + 1 → PC_ f U s → (∀ t2 m2 s2, s = (t2, m2) :: s2 → ky_ t2 m2 < o * 72 + t * 24 → ¬ Db_ du (l ++ s.map tm_))) → (∀ h2 : jm_H, xf_ l.length h h2 → (∀ s, s.length = e + 1 → PC_ f U s → (∀ t2 m2 s2, s = (t2, m2) :: s2 → ky_ t2 m2 < (o + 1) * 72 → ¬ Db_ du (l ++ s.map tm_))) → jm_BI E jm_SH jm_m_Search_find d 29 [some (jm_R 61), some (jm_I l.length), some (jm_I k), some (jm_I U), some (jm_I ((k : Int) - 1)), some (jm_I ((if e = 0 then 1 else 3 : Nat) : Int)), some (jm_I (jm_w32 (x6 + 1))), none, none] [] h2 K) → jm_BI E jm_SH jm_m_Search_find d 39 [some (jm_R 61), some (jm_I l.length), some (jm_I k), some (jm_I U), some (jm_I ((k : Int) - 1)), some (jm_I ((if e = 0 then 1 else 3 : Nat) : Int)), some (jm_I x6), some (jm_I x7), none] [] h1 K := by
      intro g
      induction g with
      | zero =>
        intro o t x6 x7 h1 hg ho e6 e7 hx hp hk29
        subst e7
        refine jb_Search_find_39 (dr := d - 1) (by omega) (by omega) ⟨fun _ => hk29 h1 hx (step _ _ hp (fun t2 m2 s2 z1 z2 z3 z4 => ?_)), fun z => by omega⟩
        have ht2 := tg t2 m2 s2 z1 z2
        have hm2 := (PC_h z1).2.1
        unfold ky_ at z3 z4
        by_cases w : e = 0
        · rw [if_pos w] at ht2 hg
          omega
        · rw [if_neg w] at ht2 hg
          omega
      | succ g ih =>
        intro o t x6 x7 h1 hg ho e6 e7 hx hp hk29
        subst e6
        subst e7
        have htt : t < 3 := by
          by_cases w : e = 0
          · rw [if_pos w] at hg; omega
          · rw [if_neg w] at hg; omega
        have hs1 := hs.fr (by omega) hx
        have x2 : xf_ l.length h1 (jm_up (jm_up h1 74 l.length (o : Int)) 75 l.length (t : Int)) := fun u v z => by rw [up_o (by omega), up_o (by omega)]
        have hs2 := hs1.fr (by omega) x2
        have next : ∀ h2 : jm_H, xf_ l.length (jm_up (jm_up h1 74 l.length (o : Int)) 75 l.length (t : Int)) h2 → (∀ m s2, bg_ o ≤ m → m < bg_ (o + 1) → s2.length = e → PC_ f U ((t, m) :: s2) → ¬ Db_ du (l ++ ((t, m) :: s2).map tm_)) → jm_BI E jm_SH jm_m_Search_find d 39 [some (jm_R 61), some (jm_I l.length), some (jm_I k), some (jm_I U), some (jm_I ((k : Int) - 1)), some (jm_I ((if e = 0 then 1 else 3 : Nat) : Int)), some (jm_I o), some (jm_I (jm_w32 ((t : Int) + 1))), none] [] h2 K := fun h2 a1 a2 => by
          rw [jm_w (by omega) (by omega)]
          refine ih o (t + 1) _ _ h2 (by omega) ho rfl (by omega) ((hx.tr x2).tr a1) (step _ _ hp (fun t2 m2 s2 z1 z2 z3 z4 => ?_)) hk29
          have hm2 := (PC_h z1).2.1
          obtain ⟨w1, -, -, -, w5, w6⟩ := mf_1 ⟨m2, hm2⟩
          simp only at w1 w5 w6
          have ht2 := (PC_h z1).1
          unfold ky_ at z3 z4
          have e1 : mo_ m2 = o := by omega
          have e2 : t2 = t := by
            rw [e1] at z3 z4
            omega
          subst e2
          rw [e1] at w5 w6
          exact a2 m2 s2 w5 w6 z2 z1
        have done : ∀ (h2 : jm_H) (m : Nat) (s2 : List (Nat × Nat)), xf_ l.length (jm_up (jm_up h1 74 l.length (o : Int)) 75 l.length (t : Int)) h2 → bg_ o ≤ m → m < bg_ (o + 1) → s2.length = e → PC_ f U ((t, m) :: s2) → Db_ du (l ++ ((t, m) :: s2).map tm_) → ar_ h2 (l ++ ((t, m) :: s2).map tm_) 0 → (∀ m2 s3, bg_ o ≤ m2 → m2 < m → s3.length = e → PC_ f U ((t, m2) :: s3) → ¬ Db_ du (l ++ ((t, m2) :: s3).map tm_)) → (∀ s3, s3.length = e → PC_ f U ((t, m) :: s3) → Db_ du (l ++ ((t, m) :: s3).map tm_) → nm_ (s2.map tm_) 0 ≤ nm_ (s3.map tm_) 0) → K 1 h2 := fun h2 m s2 a1 a2 a3 a4 a5 a6 a7 a8 a9 => by
          refine fin h2 t m s2 ((hx.tr x2).tr a1) a4 a5 a6 a7 (step _ _ hp (fun t2 m2 s3 z1 z2 z3 z4 => ?_)) a9
          have hm2 := (PC_h z1).2.1
          have hm := (PC_h a5).2.1
          obtain ⟨w1, -, -, -, w5, w6⟩ := mf_1 ⟨m2, hm2⟩
          simp only at w1 w5 w6
          have hmo : mo_ m = o := mf_2 ⟨o, ho⟩ ⟨m, hm⟩ a2 a3
          have ht2 := (PC_h z1).1
          unfold ky_ at z3 z4
          rw [hmo] at z4
          have e1 : mo_ m2 = o := by omega
          have e2 : t2 = t := by
            rw [e1] at z3 z4
            omega
          subst e2
          rw [e1] at w5 w6 z4
          exact a8 m2 s3 w5 (by omega) z2 z1
        have u74 : jm_up (jm_up h1 74 l.length (o : Int)) 75 l.length (t : Int) 74 l.length = (o : Nat) := by rw [up_o (by omega), up_s]
        have u75 : jm_up (jm_up h1 74 l.length (o : Int)) 75 l.length (t : Int) 75 l.length = (t : Nat) := up_s
        refine jb_Search_find_39 (dr := d - 1) (by omega) (by omega) ⟨fun z => ?_, fun _ => ⟨by omega, by omega, fun z => ?_, fun z => ?_⟩⟩
        · exfalso
          by_cases w : e = 0
          · simp only [if_pos w] at z hg
            omega
          · simp only [if_neg w] at z hg
            omega
        · have he : 1 ≤ e := by omega
          rw [jm_tn]
          refine jb_Search_goesOn (dr := d - 1 - 1) (by omega) (by omega) ?_
          rw [jm_tn, u74, u75, jm_w (x := (o : Int) + 1) (by omega) (by omega), show (o : Int) + 1 = ((o + 1 : Nat) : Int) by omega, jm_tn, jm_tn, hs2.1.2 (o + 1) (by omega), hs2.1.2 o (by omega)]
          have hb7 := mf_7 ⟨o, ho⟩
          simp only at hb7
          refine ⟨by omega, by omega, by omega, by omega, by omega, ?_⟩
          exact rc_goes42 (h := jm_up (jm_up h1 74 l.length (o : Int)) 75 l.length (t : Int)) hk3 (rc_find hk3 e he) he hl hv hf hU (by omega) ho htt (fun h2 b1 b2 => ⟨fun _ => next h2 b1 b2, fun w => absurd rfl w⟩) (fun h2 m s b1 b2 b3 b4 b5 b6 b7 b8 b9 => ⟨fun w => by omega, fun _ => done h2 m s b1 b2 b3 b4 b5 b6 b7 b8 b9⟩) (bg_ (o + 1) - bg_ o) (bg_ o) _ _ (by omega) (Nat.le_refl _) rfl hs2 u74 u75 xf_.rf (fun m2 s2 y1 y2 => by omega)
        · have he : e = 0 := by omega
          have ht0 : t = 0 := by rw [if_pos he] at hg; omega
          rw [jm_tn, show (k : Int) = ((l.length + 1 : Nat) : Int) by omega]
          rw [show ((l.length + 1 : Nat) : Int) - 1 = (k : Int) - 1 by omega]
          have hnil : ∀ s : List (Nat × Nat), s.length = e → s = [] := fun s h => List.length_eq_zero_iff.mp (by omega)
          refine rc_ends (by omega) hv hf hU ho hs2 u74 (by rw [u75, ht0]; rfl) (fun h2 b1 b2 => ⟨fun _ => ?_, fun w => absurd rfl w⟩) (fun h2 m b1 b2 b3 b4 b5 b6 b7 => ⟨fun w => by omega, fun _ => ?_⟩)
          · rw [show ((l.length + 1 : Nat) : Int) = (k : Int) by omega]
            refine next h2 b1 (fun m s2 y1 y2 y3 y4 => ?_)
            rw [hnil s2 y3, ht0] at y4 ⊢
            exact b2 m y1 y2 y4
          · refine done h2 m [] b1 b2 b3 (by simp [he]) (by rw [ht0]; exact b4) (by rw [ht0]; exact b5) (by rw [ht0]; exact b7) (fun m2 s3 y1 y2 y3 y4 => ?_) (fun s3 y3 _ _ => ?_)
            · rw [hnil s3 y3, ht0] at y4 ⊢
              exact b6 m2 y1 y2 y4
            · rw [hnil s3 y3]
              exact Nat.le_refl _
    have h29 : ∀ (g o : Nat) (x6 : Int) (h1 : jm_H), g + o = 7 → x6 = o → xf_ l.length h h1 → (∀ s, s.length = e + 1 → PC_ f U s → (∀ t2 m2 s2, s = (t2, m2) :: s2 → ky_ t2 m2 < o * 72 → ¬ Db_ du (l ++ s.map tm_))) → jm_BI E jm_SH jm_m_Search_find d 29 [some (jm_R 61), some (jm_I l.length), some (jm_I k), some (jm_I U), some (jm_I ((k : Int) - 1)), some (jm_I ((if e = 0 then 1 else 3 : Nat) : Int)), some (jm_I x6), none, none] [] h1 K := by
      intro g
      induction g with
      | zero =>
        intro o x6 h1 hg e6 hx hp
        subst e6
        refine jb_Search_find_29 (dr := d - 1) (by omega) (by omega) ⟨fun _ => k0 h1 hx (fun s z1 z2 => ?_), fun z => by omega⟩
        cases s with
        | nil => simp at z1
        | cons p s =>
          obtain ⟨t, m⟩ := p
          have hm := (PC_h z2).2.1
          have ht := (PC_h z2).1
          obtain ⟨w1, -⟩ := mf_1 ⟨m, hm⟩
          simp only at w1
          refine hp _ z1 z2 t m s rfl ?_
          unfold ky_
          omega
      | succ g ih =>
        intro o x6 h1 hg e6 hx hp
        subst e6
        refine jb_Search_find_29 (dr := d - 1) (by omega) (by omega) ⟨fun z => by omega, fun _ => ?_⟩
        refine h39 (if e = 0 then 1 else 3) o 0 _ _ h1 (by omega) (by omega) rfl rfl hx hp (fun h2 a1 a2 => ?_)
        rw [jm_w (by omega) (by omega)]
        exact ih (o + 1) _ h2 (by omega) (by omega) a1 a2
    refine jb_Search_find (dr := d - 1) (by omega) (by omega) ?_
    rw [jm_w (x := (k : Int) - 1) (by omega) (by omega)]
    have p0 : ∀ s, s.length = e + 1 → PC_ f U s → (∀ t2 m2 s2, s = (t2, m2) :: s2 → ky_ t2 m2 < 0 * 72 → ¬ Db_ du (l ++ s.map tm_)) := fun s _ _ t2 m2 s2 _ w => by omega
    refine ⟨fun _ => ⟨fun z => ?_, fun z => ?_⟩, fun z => by omega⟩
    · have := h29 7 0 0 h rfl rfl xf_.rf p0
      rw [if_neg (show ¬ e = 0 by omega)] at this
      exact this
    · have := h29 7 0 0 h rfl rfl xf_.rf p0
      rw [if_pos (show e = 0 by omega)] at this
      exact this
end FI
